/-! ===== more rows: longs, arguments of two words, the law's own numbers ===== -/
def lvA : List Value → List (Option Value)
  | [] => []
  | a :: as => some a :: ((if a.category = 2 then [none] else []) ++ lvA as)
theorem lvA_args : ∀ (as : List Value) (k i : Nat) (v : Value), (lvA as)[i]? = some (some v) → (k + i, v) ∈ lv_args k as
  | [], k, i, v, h => by simp [lvA] at h
  | a :: as, k, 0, v, h => by
    have hv : a = v := by simpa [lvA] using h
    subst hv
    simp [lv_args]
  | a :: as, k, i + 1, v, h => by
    rw [lvA, List.getElem?_cons_succ] at h
    rw [lv_args]
    refine List.mem_cons_of_mem _ ?_
    by_cases hc : a.category = 2
    · rw [if_pos hc] at h ⊢
      cases i with
      | zero => simp at h
      | succ i =>
        have h1 : (lvA as)[i]? = some (some v) := by simpa using h
        have h2 := lvA_args as (k + 2) i v h1
        rwa [show k + 2 + i = k + (i + 1 + 1) by omega] at h2
    · rw [if_neg hc] at h ⊢
      have h1 : (lvA as)[i]? = some (some v) := by simpa using h
      have h2 := lvA_args as (k + 1) i v h1
      rwa [show k + 1 + i = k + (i + 1) by omega] at h2
/-- a walk may begin with arguments of two words -/
theorem lvA_H {as : List Value} {nL n : Nat} {lv0 : List (Option Value)} (hlen : (lg_sl as).length ≤ nL) (hlv : lvA as ++ List.replicate n none = lv0) : lvH ((lg_sl as ++ List.replicate (nL - (lg_sl as).length) Slot.unset).toArray) nL lv0 := by
  have hent := lv_entry as (n := nL) hlen
  refine ⟨hent.1, hent.2.1, fun i v hi => ?_⟩
  subst hlv
  by_cases h : i < (lvA as).length
  · rw [List.getElem?_append_left h] at hi
    have h5 := lvA_args as 0 i v hi
    rw [Nat.zero_add] at h5
    exact hent.2.2 _ h5
  · rw [List.getElem?_append_right (by omega), List.getElem?_replicate] at hi
    split at hi <;> simp at hi
theorem MetC.of2 {l : Launch} {E : wEnv} {y : MethodName} {cc : ByteArray} {nL : Nat} {ret : Option FieldType} {f loc : Nat} {as : List Value} {σ : Mem} {Post : Option Value → Mem → Prop} {own : String} {n : Nat} (hy : plainName y.cls = true) (ho : y.cls = own) (hlen : (lg_sl as).length ≤ nL) (lv0 : List (Option Value)) (hlv : lvA as ++ List.replicate n none = lv0) (hret : ret = none ∨ ret = some .int ∨ ret = some .boolean ∨ ret = some .char ∨ ret = some .long ∨ ∃ n, ret = some (.object n)) (body : ∀ K, Ctx l E K own cc nL f loc → RetC K cc ret Post → K σ 0 lv0 []) : MetC l E y cc nL ret f loc as σ Post := by
  refine Met.ofW (cc := cc) (maxL := nL) (ret := ret) hy rfl ?_
  intro p e s m args below meth c s₁ B hml hv
  obtain ⟨rfl, hP, hCK⟩ := hv
  have hts : ∀ w ∈ wsL_law, w.before as.toArray s = true := fun w hw => atoms_spec (ws := .code y cc nL ret :: wsL_law) B.pre w (List.mem_cons_of_mem _ hw)
  have hown : s.vm.findClass own = some m.cls := ho ▸ findClass_of_methodNamed B.named
  have hx := B.exec
  have hb := B.bytes
  have hr := B.returns
  have hlocks := B.notSynchronized
  have hL := lvA_H hlen hlv
  rw [lg_entry_eq]
  refine body _ ⟨p, e, _, s, m, as.toArray, below, meth, c, 0, 0, _, rfl, hx, hb, hml, hown, hts, rfl, rfl, Nat.zero_le _, Nat.zero_le _, hCK⟩ ?_ s.heap [] _ hP va_S.rf hL
  rcases hret with h | h | h | h | h | ⟨n, h⟩ <;> subst h
  · intro σ' pc lv hd hp H locs ls hP' hS hl
    exact W.vret hx hb hr (fun t ht hW => ⟨⟨_, σ', rfl, hp, by rw [ht]; exact hP'⟩, hS.F ht⟩) hS.2.2 hd hlocks
  · intro σ' pc lv z hd hp H locs ls hP' hS hl
    exact W.iret hx hb hr (fun t ht hW => ⟨⟨_, σ', rfl, hp, by rw [ht]; exact hP'⟩, hS.F ht⟩) hS.2.2 hd hlocks
  · intro σ' pc lv z hz hd hp H locs ls hP' hS hl
    refine W.zret hx hb hr (ty := .boolean) (by rcases hz with rfl | rfl <;> decide) (fun t ht hW => ⟨⟨_, σ', rfl, hp, by rw [ht]; exact hP'⟩, hS.F ht⟩) hS.2.2 hd hlocks
  · intro σ' pc lv z hz hd hp H locs ls hP' hS hl
    refine W.zret hx hb hr (ty := .char) hz (fun t ht hW => ⟨⟨_, σ', rfl, hp, by rw [ht]; exact hP'⟩, hS.F ht⟩) hS.2.2 hd hlocks
  · intro σ' pc lv z hd hp H locs ls hP' hS hl
    exact W.lret hx hb hr (fun t ht hW => ⟨⟨_, σ', rfl, hp, by rw [ht]; exact hP'⟩, hS.F ht⟩) hS.2.2 hd hlocks
  · intro σ' pc lv v hz hd hp H locs ls hP' hS hl
    exact W.aret hx hb hr (Or.inl ⟨n, rfl⟩) hz (fun t ht hW => ⟨⟨_, σ', rfl, hp, by rw [ht]; exact hP'⟩, hS.F ht⟩) hS.2.2 hd hlocks
/-! what the law's bits come to -/
theorem andM (x : Int32) : 0 ≤ (x &&& zI 2147483647).toInt ∧ (x &&& zI 2147483647).toInt < 2147483648 := by
  have e : (x &&& zI 2147483647).toInt = (x.toBitVec &&& (zI 2147483647).toBitVec).toInt := rfl
  have hM : (zI 2147483647).toBitVec.toNat = 2147483647 := by decide
  have h : (x.toBitVec &&& (zI 2147483647).toBitVec).toNat ≤ 2147483647 := by
    rw [BitVec.toNat_and, hM]
    exact Nat.and_le_right
  rw [e, BitVec.toInt_eq_toNat_of_lt (by omega)]
  omega
def byI (w : Int) (k : Nat) : Int := ((w.toNat >>> (8 * k) % 256 : Nat) : Int)
theorem byI_bd (w : Int) (k : Nat) : 0 ≤ byI w k ∧ byI w k < 256 := by
  unfold byI
  have := Nat.mod_lt (w.toNat >>> (8 * k)) (show 0 < 256 by decide)
  omega
theorem sh_k : ∀ k : Nat, k < 8 → ((zI (8 * (k : Int))).toInt64 &&& 63).toBitVec.toNat = 8 * k := by decide
theorem zL_bv {w : Int} (h0 : 0 ≤ w) (h1 : w < 9223372036854775808) : (zL w).toBitVec.toNat = w.toNat := by
  have h2 : ((zL w).toBitVec.toNat : Int) % 18446744073709551616 = w % 18446744073709551616 := by
    have e : (zL w).toBitVec = BitVec.ofInt 64 w := rfl
    rw [e, BitVec.toNat_ofInt]
    omega
  have h3 := (zL w).toBitVec.isLt
  omega
theorem by_shr {w : Int} {k : Nat} (h0 : 0 ≤ w) (h1 : w < 9223372036854775808) (hk : k < 8) : (zL w >>> ((zI (8 * (k : Int))).toInt64 &&& 63)) &&& zL 255 = zL (byI w k) := by
  apply Int64.toBitVec_inj.mp
  have e1 : (zL w >>> ((zI (8 * (k : Int))).toInt64 &&& 63)).toBitVec = (zL w).toBitVec.sshiftRight (8 * k) := by
    have h := Int64.toBitVec_shiftRight (zL w) ((zI (8 * (k : Int))).toInt64 &&& 63)
    rw [h]
    have hs := sh_k k hk
    have e : (((zI (8 * (k : Int))).toInt64 &&& 63).toBitVec.smod 64) = BitVec.ofNat 64 (8 * k) := by
      rcases (show k = 0 ∨ k = 1 ∨ k = 2 ∨ k = 3 ∨ k = 4 ∨ k = 5 ∨ k = 6 ∨ k = 7 by omega) with rfl | rfl | rfl | rfl | rfl | rfl | rfl | rfl <;> decide
    rw [e]
    show (zL w).toBitVec.sshiftRight (BitVec.ofNat 64 (8 * k)).toNat = _
    rw [BitVec.toNat_ofNat, Nat.mod_eq_of_lt (by omega)]
  have hm : (zL w).toBitVec.msb = false := by
    rw [BitVec.msb_eq_decide, zL_bv h0 h1]
    simp
    omega
  have e2 : (zL w).toBitVec.sshiftRight (8 * k) = (zL w).toBitVec >>> (8 * k) := BitVec.sshiftRight_eq_of_msb_false hm
  rw [Int64.toBitVec_and, e1, e2]
  apply BitVec.eq_of_toNat_eq
  have h255 : (zL 255).toBitVec.toNat = 2 ^ 8 - 1 := by decide
  rw [BitVec.toNat_and, BitVec.toNat_ushiftRight, zL_bv h0 h1, h255, Nat.and_two_pow_sub_one_eq_mod]
  have hb := byI_bd w k
  rw [zL_bv hb.1 (by omega)]
  unfold byI
  rw [Int.toNat_natCast]
theorem cmp_lt {a b : Int} (ha : I64 a) (hb : I64 b) (h : a < b) : lg_cmp (zL a) (zL b) = zI (-1) := by
  have h1 : ¬ (zL b < zL a) := by rw [Int64.lt_iff_toInt_lt, zL_toInt ha, zL_toInt hb]; omega
  have h2 : ¬ (zL a = zL b) := fun q => by
    have := congrArg Int64.toInt q
    rw [zL_toInt ha, zL_toInt hb] at this
    omega
  show (if zL a > zL b then (1 : Int32) else if zL a = zL b then 0 else -1) = _
  rw [if_neg h1, if_neg h2]
  decide
theorem cmp_gt {a b : Int} (ha : I64 a) (hb : I64 b) (h : b < a) : lg_cmp (zL a) (zL b) = zI 1 := by
  have h1 : zL b < zL a := by rw [Int64.lt_iff_toInt_lt, zL_toInt ha, zL_toInt hb]; omega
  show (if zL a > zL b then (1 : Int32) else if zL a = zL b then 0 else -1) = _
  rw [if_pos h1]
  decide
theorem cmp_eq (z : Int) : lg_cmp (zL z) (zL z) = zI 0 := by
  rw [zI_0]
  simp [lg_cmp, Int64.lt_irrefl]
section ROWS
variable {l : Launch} {E : wEnv} {K : Mem → Nat → List (Option Value) → List Value → Prop} {own : String} {cc : ByteArray} {nL f loc : Nat} {σ : Mem} {pc : Nat} {lv : List (Option Value)} {st : List Value}
theorem g_lload (X : Ctx l E K own cc nL f loc) {i : Nat} {x : Int64} (hd : decode cc pc = .ok (.lload i, 2)) (hl : lv[i]? = some (some (.long x))) (kk : K σ (pc + 2) lv (.long x :: st)) : K σ pc lv st := by
  obtain ⟨p, e, R, s, m, args, below, meth, c0, cells, slots, Q, rfl, hx, hb, hml, hown, hts, hf, hlo, hc1, hs1, hCK⟩ := X
  intro H locs ls hP hS hv
  exact lv_lload hx hb hd (hv.2.2 _ _ hl) (kk H locs ls hP hS hv)
theorem g_iandM (X : Ctx l E K own cc nL f loc) {a : Int} (hd : decode cc pc = .ok (.iand, 1)) (kk : ∀ c, 0 ≤ c → c < 2147483648 → K σ (pc + 1) lv (iv c :: st)) : K σ pc lv (iv 2147483647 :: iv a :: st) := by
  have hc := andM (zI a)
  have k := kk _ hc.1 hc.2
  have e : zI (zI a &&& zI 2147483647).toInt = zI a &&& zI 2147483647 := Int32.ofInt_toInt _
  rw [iv, e] at k
  obtain ⟨p, e, R, s, m, args, below, meth, c0, cells, slots, Q, rfl, hx, hb, hml, hown, hts, hf, hlo, hc1, hs1, hCK⟩ := X
  intro H locs ls hP hS hv
  exact lv_iand hx hb hd (k H locs ls hP hS hv)
/-- shifted, cut to a byte -/
theorem g_byte (X : Ctx l E K own cc nL f loc) {w : Int} {k i : Nat} (h0 : 0 ≤ w) (h1 : w < 9223372036854775808) (hk : k < 8) {b : Int} (hbk : b = 8 * (k : Int)) {c : Int64} (hw : Cond.constantLong own i c ∈ wsL_law) (hc : c = zL 255) (hd : decode cc pc = .ok (.lshr, 1)) (hd1 : decode cc (pc + 1) = .ok (.ldc2_w i, 3)) (hd2 : decode cc (pc + 1 + 3) = .ok (.land, 1)) (kk : K σ (pc + 1 + 3 + 1) lv (jv (byI w k) :: st)) : K σ pc lv (iv b :: jv w :: st) := by
  subst hbk
  have X0 := X
  obtain ⟨p, e, R, s, m, args, below, meth, c0, cells, slots, Q, rfl, hx, hb, hml, hown, hts, hf, hlo, hc1, hs1, hCK⟩ := X
  intro H locs ls hP hS hv
  refine lv_lshr hx hb hd rfl ?_
  refine g_ldc2 X0 (n := 255) (w := c) (pc := pc + 1) (st := .long (zL w >>> ((zI (8 * (k : Int))).toInt64 &&& 63)) :: st) hd1 hw hc ?_ H locs ls hP hS hv
  intro H locs ls hP hS hv
  refine lv_land hx hb hd2 ?_
  rw [by_shr h0 h1 hk]
  exact kk H locs ls hP hS hv
theorem g_lcmp (X : Ctx l E K own cc nL f loc) {a b : Int} (ha : I64 a) (hb0 : I64 b) (hd : decode cc pc = .ok (.lcmp, 1)) (k1 : a < b → K σ (pc + 1) lv (iv (-1) :: st)) (k2 : a = b → K σ (pc + 1) lv (iv 0 :: st)) (k3 : b < a → K σ (pc + 1) lv (iv 1 :: st)) : K σ pc lv (jv b :: jv a :: st) := by
  obtain ⟨p, e, R, s, m, args, below, meth, c0, cells, slots, Q, rfl, hx, hb, hml, hown, hts, hf, hlo, hc1, hs1, hCK⟩ := X
  intro H locs ls hP hS hv
  refine W.lcmp hx hb hd ?_
  rcases Int.lt_trichotomy a b with h | h | h
  · rw [cmp_lt ha hb0 h]; exact k1 h H locs ls hP hS hv
  · subst h; rw [cmp_eq]; exact k2 rfl H locs ls hP hS hv
  · rw [cmp_gt ha hb0 h]; exact k3 h H locs ls hP hS hv
theorem g_lcmpS (X : Ctx l E K own cc nL f loc) {z : Int} (hd : decode cc pc = .ok (.lcmp, 1)) (kt : K σ (pc + 1) lv (iv 0 :: st)) : K σ pc lv (jv z :: jv z :: st) := by
  obtain ⟨p, e, R, s, m, args, below, meth, c0, cells, slots, Q, rfl, hx, hb, hml, hown, hts, hf, hlo, hc1, hs1, hCK⟩ := X
  intro H locs ls hP hS hv
  refine W.lcmp hx hb hd ?_
  rw [cmp_eq]
  exact kt H locs ls hP hS hv
/-- a comparison of a number with itself -/
theorem g_neS (X : Ctx l E K own cc nL f loc) {z : Int} {off : Int} {tgt : Nat} (hd : decode cc pc = .ok (.if_icmp .ne off, 3)) (ht : (pc : Int) + off = (tgt : Int)) (kt : K σ (pc + 3) lv st) : K σ pc lv (iv z :: iv z :: st) := by
  obtain ⟨p, e, R, s, m, args, below, meth, c0, cells, slots, Q, rfl, hx, hb, hml, hown, hts, hf, hlo, hc1, hs1, hCK⟩ := X
  intro H locs ls hP hS hv
  exact lv_icmp_ne hx hb hd ht (fun h => absurd rfl h) (fun _ => kt H locs ls hP hS hv)
theorem g_eqS (X : Ctx l E K own cc nL f loc) {z : Int} {off : Int} {tgt : Nat} (hd : decode cc pc = .ok (.if_icmp .eq off, 3)) (ht : (pc : Int) + off = (tgt : Int)) (kt : K σ tgt lv st) : K σ pc lv (iv z :: iv z :: st) := by
  obtain ⟨p, e, R, s, m, args, below, meth, c0, cells, slots, Q, rfl, hx, hb, hml, hown, hts, hf, hlo, hc1, hs1, hCK⟩ := X
  intro H locs ls hP hS hv
  exact lv_icmp_eq hx hb hd ht (fun _ => kt H locs ls hP hS hv) (fun h => absurd rfl h)
/-- one branch known -/
theorem g_eqY (X : Ctx l E K own cc nL f loc) {off : Int} {tgt : Nat} (hd : decode cc pc = .ok (.ifCond .eq off, 3)) (ht : (pc : Int) + off = (tgt : Int)) (kt : K σ tgt lv st) : K σ pc lv (iv 0 :: st) := g_if_eq X hd ht ⟨by decide, by decide⟩ (fun _ => kt) (fun h => absurd rfl h)
theorem g_eqN (X : Ctx l E K own cc nL f loc) {off : Int} {tgt : Nat} (hd : decode cc pc = .ok (.ifCond .eq off, 3)) (ht : (pc : Int) + off = (tgt : Int)) (kt : K σ (pc + 3) lv st) : K σ pc lv (iv 1 :: st) := g_if_eq X hd ht ⟨by decide, by decide⟩ (fun h => absurd h (by decide)) (fun _ => kt)
theorem g_neY (X : Ctx l E K own cc nL f loc) {off : Int} {tgt : Nat} (hd : decode cc pc = .ok (.ifCond .ne off, 3)) (ht : (pc : Int) + off = (tgt : Int)) (kt : K σ tgt lv st) : K σ pc lv (iv 1 :: st) := g_if_ne X hd ht ⟨by decide, by decide⟩ (fun _ => kt) (fun h => absurd h (by decide))
theorem g_neN (X : Ctx l E K own cc nL f loc) {off : Int} {tgt : Nat} (hd : decode cc pc = .ok (.ifCond .ne off, 3)) (ht : (pc : Int) + off = (tgt : Int)) (kt : K σ (pc + 3) lv st) : K σ pc lv (iv 0 :: st) := g_if_ne X hd ht ⟨by decide, by decide⟩ (fun h => absurd rfl h) (fun _ => kt)
end ROWS
