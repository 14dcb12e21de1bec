/-! bits of small numbers -/
def shrI (a b : Int) : Int := ((a.toNat >>> b.toNat : Nat) : Int)
def andI (a b : Int) : Int := ((a.toNat &&& b.toNat : Nat) : Int)
def shlI (a b : Int) : Int := ((a.toNat <<< b.toNat : Nat) : Int)
def orI (a b : Int) : Int := ((a.toNat ||| b.toNat : Nat) : Int)
theorem bit_shr : ∀ a : Nat, a < 32 → ∀ b : Nat, b < 7 → zI (a : Int) >>> (zI (b : Int) &&& 31) = zI (((a >>> b : Nat)) : Int) ∧ a >>> b < 32 := by decide +kernel
theorem bit_and : ∀ a : Nat, a < 32 → zI (a : Int) &&& zI 1 = zI (((a &&& 1 : Nat)) : Int) ∧ a &&& 1 < 2 := by decide +kernel
theorem bit_shl : ∀ b : Nat, b < 6 → zI 1 <<< (zI (b : Int) &&& 31) = zI (((1 <<< b : Nat)) : Int) ∧ 1 <<< b < 64 := by decide +kernel
theorem bit_or : ∀ a : Nat, a < 32 → ∀ b : Nat, b < 64 → zI (a : Int) ||| zI (b : Int) = zI (((a ||| b : Nat)) : Int) := by decide +kernel
theorem toN {a : Int} (h : 0 ≤ a) : a = ((a.toNat : Nat) : Int) := by omega
section BITS
variable {l : Launch} {E : wEnv} {K : Mem → Nat → List (Option Value) → List Value → Prop} {own : String} {cc : ByteArray} {nL f loc : Nat} {σ : Mem} {pc : Nat} {lv : List (Option Value)} {st : List Value}
theorem g_ishr (X : Ctx l E K own cc nL f loc) {a b : Int} (hd : decode cc pc = .ok (.ishr, 1)) (ha : 0 ≤ a ∧ a < 32) (hb : 0 ≤ b ∧ b < 7) (kk : K σ (pc + 1) lv (iv (shrI a b) :: st)) : K σ pc lv (iv b :: iv a :: st) := by
  obtain ⟨p, e, R, s, m, args, below, meth, c0, cells, slots, Q, rfl, hx, hb2, hml, hown, hts, hf, hlo, hc1, hs1, hCK⟩ := X
  intro H locs ls hP hS hv
  have q := (bit_shr a.toNat (by omega) b.toNat (by omega)).1
  rw [← toN ha.1, ← toN hb.1] at q
  exact lv_ishr hx hb2 hd (by rw [q]; exact kk H locs ls hP hS hv)
theorem g_iand1 (X : Ctx l E K own cc nL f loc) {a : Int} (hd : decode cc pc = .ok (.iand, 1)) (ha : 0 ≤ a ∧ a < 32) (kk : K σ (pc + 1) lv (iv (andI a 1) :: st)) : K σ pc lv (iv 1 :: iv a :: st) := by
  obtain ⟨p, e, R, s, m, args, below, meth, c0, cells, slots, Q, rfl, hx, hb2, hml, hown, hts, hf, hlo, hc1, hs1, hCK⟩ := X
  intro H locs ls hP hS hv
  have q := (bit_and a.toNat (by omega)).1
  rw [← toN ha.1] at q
  exact lv_iand hx hb2 hd (by rw [q]; exact kk H locs ls hP hS hv)
theorem g_ishl1 (X : Ctx l E K own cc nL f loc) {b : Int} (hd : decode cc pc = .ok (.ishl, 1)) (hb : 0 ≤ b ∧ b < 6) (kk : K σ (pc + 1) lv (iv (shlI 1 b) :: st)) : K σ pc lv (iv b :: iv 1 :: st) := by
  obtain ⟨p, e, R, s, m, args, below, meth, c0, cells, slots, Q, rfl, hx, hb2, hml, hown, hts, hf, hlo, hc1, hs1, hCK⟩ := X
  intro H locs ls hP hS hv
  have q := (bit_shl b.toNat (by omega)).1
  rw [← toN hb.1] at q
  exact lv_ishl hx hb2 hd (by rw [q]; exact kk H locs ls hP hS hv)
theorem g_ior (X : Ctx l E K own cc nL f loc) {a b : Int} (hd : decode cc pc = .ok (.ior, 1)) (ha : 0 ≤ a ∧ a < 32) (hb : 0 ≤ b ∧ b < 64) (kk : K σ (pc + 1) lv (iv (orI a b) :: st)) : K σ pc lv (iv b :: iv a :: st) := by
  obtain ⟨p, e, R, s, m, args, below, meth, c0, cells, slots, Q, rfl, hx, hb2, hml, hown, hts, hf, hlo, hc1, hs1, hCK⟩ := X
  intro H locs ls hP hS hv
  have q := bit_or a.toNat (by omega) b.toNat (by omega)
  rw [← toN ha.1, ← toN hb.1] at q
  exact lv_ior hx hb2 hd (by rw [q]; exact kk H locs ls hP hS hv)
end BITS
theorem shr_b {a b : Int} (ha : 0 ≤ a ∧ a < 32) (hb : 0 ≤ b ∧ b < 7) : 0 ≤ shrI a b ∧ shrI a b < 32 := by
  have q := (bit_shr a.toNat (by omega) b.toNat (by omega)).2
  exact ⟨Int.natCast_nonneg _, Int.ofNat_lt.mpr q⟩
theorem bit_b {a b : Int} (ha : 0 ≤ a ∧ a < 32) (hb : 0 ≤ b ∧ b < 7) : andI (shrI a b) 1 = ((bitN a.toNat b.toNat : Nat) : Int) ∧ bitN a.toNat b.toNat < 2 := by
  have q := (bit_shr a.toNat (by omega) b.toNat (by omega)).2
  have q2 := (bit_and (a.toNat >>> b.toNat) q).2
  exact ⟨rfl, q2⟩
theorem shl_b {b : Int} (hb : 0 ≤ b ∧ b < 6) : 0 ≤ shlI 1 b ∧ shlI 1 b < 64 ∧ shlI 1 b = ((1 <<< b.toNat : Nat) : Int) := by
  have q := (bit_shl b.toNat (by omega)).2
  exact ⟨Int.natCast_nonneg _, Int.ofNat_lt.mpr q, rfl⟩
theorem or_e {a b : Int} : orI a b = ((a.toNat ||| b.toNat : Nat) : Int) := rfl
/-! one row laid -/
theorem plF_stop {t f p : Nat} {s : Int} (h : ¬ (bitN t p = 1 ∨ 0 < s)) : plF t f s p = p := by
  cases f with
  | zero => rfl
  | succ f => rw [plF, if_neg h]
theorem stL_s (n m k : Nat) : stL n m (k + 1) = ((stL n m k).1 ||| (1 <<< layP n m k), (stL n m k).2.1 % ((stL n m k).2.2 / (n - k)), (stL n m k).2.2 / (n - k)) := rfl
def frQ (σ σ' : Mem) : Prop := (∀ x, x ≠ 12 → x ≠ 21 → x ≠ 22 → x ≠ 23 → x ≠ 24 → σ' x = σ x) ∧ ∀ j, j ≠ 12 → j ≠ 16 → σ' 12 j = σ 12 j
theorem frQ.refl {σ : Mem} : frQ σ σ := ⟨fun _ _ _ _ _ _ => rfl, fun _ _ _ => rfl⟩
theorem frQ.trans {σ τ υ : Mem} (h : frQ σ τ) (k : frQ τ υ) : frQ σ υ := ⟨fun x a b c d e => (k.1 x a b c d e).trans (h.1 x a b c d e), fun j a b => (k.2 j a b).trans (h.2 j a b)⟩
theorem frQ.of {σ τ : Mem} {c : Nat} (hc : c = 21 ∨ c = 22 ∨ c = 23 ∨ c = 24) (h : ∀ x, x ≠ c → τ x = σ x) : frQ σ τ := ⟨fun x a b d e f => h x (by omega), fun j _ _ => by rw [h 12 (by omega)]⟩
theorem MRep.fQ {σ τ : Mem} {s : St} (h : MRep σ s) (hf : frQ σ τ) : MRep τ s := by
  obtain ⟨h1, ⟨a1, a2, a3⟩, ⟨t1, t2, t3⟩⟩ := h
  have e : ∀ x, x = 13 ∨ x = 14 ∨ x = 15 ∨ x = 16 ∨ x = 17 → τ x = σ x := fun x hx => hf.1 x (by omega) (by omega) (by omega) (by omega) (by omega)
  refine ⟨h1.fr (e 13 (by omega)) (e 15 (by omega)), ⟨a1, by rw [hf.2 4 (by decide) (by decide)]; exact a2, ?_⟩, ⟨t1, by rw [hf.2 6 (by decide) (by decide)]; exact t2, ?_⟩⟩
  · rw [e 14 (by omega), e 16 (by omega)]; exact a3
  · rw [e 17 (by omega)]; exact t3
theorem RR.fQ {σ τ : Mem} {r : Row} (h : RR σ r) (hf : frQ σ τ) : RR τ r := h.fr (hf.1 13 (by decide) (by decide) (by decide) (by decide) (by decide)) (hf.1 15 (by decide) (by decide) (by decide) (by decide) (by decide))
theorem frQ.C {σ τ : Mem} (h : frQ σ τ) : frC σ τ := fun x hx => h.1 x (by omega) (by omega) (by omega) (by omega) (by omega)
