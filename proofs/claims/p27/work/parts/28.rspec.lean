/-! kept sets are small; runs of sets -/
def KInv (r : Row) : Prop := ∀ i : Nat, (i : Int) < r 19 → ∀ j : Nat, (j : Int) < r (24 + 91 * i + 10) → 0 ≤ r (24 + 91 * i + 11 + j) ∧ r (24 + 91 * i + 11 + j) ≤ 500
theorem RInv.kept {r : Row} {N : Int} (hR : RInv r N) {i : Nat} (hi : (i : Int) < r 19) : 0 ≤ r (24 + 91 * i + 10) ∧ r (24 + 91 * i + 10) ≤ 40 ∧ i < 10 := by
  have a := (hR.2.2.2.2.2.2 i hi).f
  have b := hR.2.2.2.2.1
  omega
theorem KInv.congr {r r' : Row} {N : Int} (h : KInv r) (hR : RInv r N) (h19 : r' 19 = r 19) (hk : ∀ i : Nat, (i : Int) < r 19 → ∀ k, 10 ≤ k → k < 51 → r' (24 + 91 * i + k) = r (24 + 91 * i + k)) : KInv r' := by
  intro i hi j hj
  rw [h19] at hi
  have b := hR.kept hi
  rw [hk i hi 10 (by omega) (by omega)] at hj
  rw [show 24 + 91 * i + 11 + j = 24 + 91 * i + (11 + j) by omega, hk i hi (11 + j) (by omega) (by omega), ← show 24 + 91 * i + 11 + j = 24 + 91 * i + (11 + j) by omega]
  exact h i hi j hj
theorem KInv.lift {r : Row} {N : Int} (h : KInv r) (hR : RInv r N) {q : Nat} {z : Int} : KInv (lift1R r q z) := by
  have b := hR.2.2.2.2.1
  exact h.congr hR (lift1R_ne (by omega)) (fun i hi k h1 h2 => lift1R_ne (by omega))
theorem KInv.lifts {r : Row} {N : Int} (h : KInv r) (hR : RInv r N) {p : Nat} {z : Int} (q : Nat) : KInv (liftsR r p z q) := by
  have b := hR.2.2.2.2.1
  exact h.congr hR (liftsR_st q 19 (fun a _ => by omega) (by omega)) (fun i hi k h1 h2 => liftsR_st q _ (fun a _ => by omega) (by omega))
theorem KInv.hit {r : Row} {N : Int} (h : KInv r) (hR : RInv r N) (hN : N < 400000) {i : Nat} (hi : (i : Int) < r 19) {f : Int} (h0 : 0 ≤ f) (h1 : f ≤ 3000) : KInv (hitR r i f) := by
  obtain ⟨e1, e2, e3, e4⟩ := hit1_inv hR hN hi h0 h1
  have r19 := hR.2.2.2.2.1
  have k1 : KInv (hit1R r i f) := by
    intro q hq j hj
    rw [e3] at hq
    have b := hR.kept hq
    unfold hit1R at hj ⊢
    by_cases hqi : q = i
    · subst hqi
      rw [struckR_own (by omega) (by omega)] at hj
      simp only [if_neg (show ¬ (10 = 3) by decide), if_neg (show ¬ (10 = 4) by decide), if_neg (show ¬ (10 = 5) by decide), if_neg (show ¬ (10 = 6) by decide), if_neg (show ¬ (10 = 7) by decide), if_pos] at hj
      have hj40 : j < 40 := by split at hj <;> omega
      rw [struckR_sets (by omega) hj40]
      have eb : 0 ≤ blowS r q f ∧ blowS r q f ≤ 500 := ⟨e4.1, by have := e4.2; omega⟩
      split
      · rename_i q40
        rw [if_pos q40] at hj
        split
        · exact eb
        · have := h q hq (j + 1) (by omega)
          rw [show 24 + 91 * q + 11 + (j + 1) = 24 + 91 * q + 11 + j + 1 by omega] at this
          exact this
      · rename_i q40
        rw [if_neg q40] at hj
        split
        · exact eb
        · exact h q hq j (by omega)
    · rw [struckR_other hqi (by omega) (by omega)] at hj
      have hj2 : (j : Int) < 40 := by omega
      rw [show 24 + 91 * q + 11 + j = 24 + 91 * q + (11 + j) by omega, struckR_other hqi (by omega) (by omega), ← show 24 + 91 * q + 11 + j = 24 + 91 * q + (11 + j) by omega]
      exact h q hq j hj
  exact k1.lifts e1 _
theorem hits_inv {p : Nat} {f : Int} (h0 : 0 ≤ f) (h1 : f ≤ 3000) : ∀ (n : Nat) (r : Row) (N : Int), RInv r N → KInv r → N + n ≤ 400000 → (p : Int) < r 19 → RInv (hitsR p f n r).1 (N + n) ∧ KInv (hitsR p f n r).1 ∧ (hitsR p f n r).1 19 = r 19
  | 0, r, N, hR, hK, hN, hp => ⟨by simpa [hitsR] using hR, hK, rfl⟩
  | n + 1, r, N, hR, hK, hN, hp => by
    rw [hitsR]
    split
    · have a := hit_inv hR (by omega) hp h0 h1
      have b := hits_inv h0 h1 n (hitR r p f) (N + 1) a.1 (hK.hit hR (by omega) hp h0 h1) (by omega) (by rw [a.2]; exact hp)
      have e : N + 1 + (n : Int) = N + ((n + 1 : Nat) : Int) := by omega
      rw [e] at b
      exact ⟨b.1, b.2.1, by rw [b.2.2, a.2]⟩
    · exact ⟨hR.mono (by omega) (by omega), hK, rfl⟩
theorem drive_k {p : Nat} {f e : Int} (h0 : 0 ≤ f) (h1 : f ≤ 3000) : ∀ (n : Nat) (r : Row) (N : Int), RInv r N → KInv r → N + n ≤ 400000 → (p : Int) < r 19 → KInv (driveR p f e n r).1
  | 0, r, N, hR, hK, hN, hp => hK
  | n + 1, r, N, hR, hK, hN, hp => by
    have a := hit_inv hR (by omega) hp h0 h1
    have k := hK.hit hR (by omega) hp h0 h1
    rw [driveR]
    split
    · exact drive_k h0 h1 n (hitR r p f) (N + 1) a.1 k (by omega) (by rw [a.2]; exact hp)
    · exact k
theorem car_k {C : Int → Int} {L : Nat} {n : Int} (hC : ∀ s, pF C s → pE C s ≤ L) : ∀ (k : Nat) (s : Int) (r : Row) (N : Int), (fltT C L n k s).1 = 0 → s ≤ L → RInv r N → KInv r → r 19 = n → N + 7 * ((L : Int) - s) ≤ 400000 → KInv (carR C L k s r).1
  | 0, s, r, N, _, _, _, hK, _, _ => hK
  | k + 1, s, r, N, hf, hs, hR, hK, hn, hN => by
    rw [carR]
    split
    · rename_i hlt
      obtain ⟨z1, z2⟩ := fltT_0 hf hlt
      have z := rsn_0 z1
      have zb := z.1.b
      have ze := hC s z.1
      have a := hits_inv (p := (pP C s).toNat) (f := pH C s) (by omega) (by omega) (pT C s).toNat r N hR hK (by omega) (by omega)
      exact car_k hC k (pE C s) _ (N + ((pT C s).toNat : Nat)) z2 ze a.1 a.2.1 (by rw [a.2.2, hn]) (by omega)
    · exact hK
def SInv (s : St) : Prop := KInv s.1 ∧ ∀ i, i < s.2.2.1 → KInv (s.2.1 i)
theorem SInv.ch {s : St} (h : SInv s) (hn : s.2.2.1 ≤ 4) {r : Row} (hr : KInv r) : SInv (chS s r) := by
  refine ⟨hr, fun i hi => ?_⟩
  have hi2 : i < min 4 (s.2.2.1 + 1) := hi
  show KInv (pushH s.2.1 s.2.2.1 s.1 i)
  unfold pushH
  by_cases h4 : s.2.2.1 < 4
  · rw [if_pos h4]
    by_cases hin : i = s.2.2.1
    · rw [if_pos hin]; exact h.1
    · rw [if_neg hin]; exact h.2 i (by omega)
  · rw [if_neg h4]
    by_cases hin : i = 3
    · rw [if_pos hin]; exact h.1
    · rw [if_neg hin]; exact h.2 (i + 1) (by omega)
theorem SInv.stratum {s : St} {N : Int} (h : SInv s) (hR : RInv s.1 N) (hn : s.2.2.1 ≤ 4) (k t v : Int) : SInv (stratumX s k t v).2 := by
  have r0 := hR.1
  unfold stratumX
  split
  · split
    · exact h
    · refine h.ch hn (h.1.congr hR ?_ (fun i hi j h1 h2 => ?_)) <;> unfold putR <;> rw [if_neg (by omega), if_neg (by omega), if_neg (by omega)]
  · exact h
theorem SInv.cut {s : St} {N : Int} (h : SInv s) (hR : RInv s.1 N) (hn : s.2.2.1 ≤ 4) : SInv (cutX s).2 := by
  unfold cutX
  split
  · exact h
  · refine h.ch hn (h.1.congr hR ?_ (fun i hi j h1 h2 => ?_)) <;> unfold cutR <;> rw [if_neg (by omega)]
theorem SInv.set {s : St} {N : Int} (h : SInv s) (hR : RInv s.1 N) (hn : s.2.2.1 ≤ 4) (k v : Int) : SInv (setX s k v).2 := by
  unfold setX
  split
  · refine h.ch hn (h.1.congr hR ?_ (fun i hi j h1 h2 => ?_)) <;> unfold settR <;> rw [if_neg (by omega)]
  · exact h
theorem SInv.pile {s : St} {N : Int} (h : SInv s) (hR : RInv s.1 N) (hn : s.2.2.1 ≤ 4) (x y t : Int) : SInv (pileX s x y t).2 := by
  unfold pileX
  split
  · split
    · exact h
    · split
      · exact h
      · rename_i h10
        refine h.ch hn (fun i hi j hj => ?_)
        have b := hR.2.2.2.2.1
        unfold placeR at hi hj
        rw [if_pos rfl] at hi
        by_cases e : i = (s.1 19).toNat
        · rw [if_neg (by omega), if_pos (by omega), if_neg (by omega), if_neg (by omega), if_neg (by omega)] at hj
          omega
        · rw [if_neg (by omega), if_neg (by omega)] at hj
          have b2 := hR.kept (show (i : Int) < s.1 19 by omega)
          unfold placeR
          rw [if_neg (by omega), if_neg (by omega)]
          exact h.1 i (by omega) j hj
  · exact h
theorem SInv.strike {s : St} {N : Int} (h : SInv s) (hR : RInv s.1 N) (hN : N + 600 ≤ 400000) (hn : s.2.2.1 ≤ 4) (p f : Int) : SInv (strikeX s p f).2 := by
  unfold strikeX
  split
  · split
    · exact h
    · exact h.ch hn (h.1.hit hR (by omega) (by omega) (by omega) (by omega))
  · exact h
theorem SInv.drive {s : St} {N : Int} (h : SInv s) (hR : RInv s.1 N) (hN : N + 600 ≤ 400000) (hn : s.2.2.1 ≤ 4) (p f e m : Int) : SInv (driveX s p f e m).2 := by
  unfold driveX
  split
  · split
    · exact h
    · exact h.ch hn (drive_k (by omega) (by omega) _ s.1 N hR h.1 (by omega) (by omega))
  · exact h
theorem SInv.test {s : St} {N : Int} (h : SInv s) (hR : RInv s.1 N) (hn : s.2.2.1 ≤ 4) (p f : Int) : SInv (testX s p f).2 := by
  unfold testX
  split
  · refine h.ch hn ?_
    split
    · exact h.1
    · exact h.1.congr hR (press1R_ne (by omega)) (fun i hi j h1 h2 => press1R_ne (by omega))
  · exact h
theorem SInv.undo {s : St} (h : SInv s) : SInv (undoX s).2 := by
  unfold undoX
  split
  · exact h
  · exact ⟨h.2 _ (by omega), fun i hi => h.2 i (by have hi2 : i < s.2.2.1 - 1 := hi; omega)⟩
theorem SInv.type {s : St} (h : SInv s) (c : Int) : SInv (typeX s c).2 := by
  unfold typeX
  split
  · split
    · exact h
    · exact h
  · exact h
theorem SInv.clear {s : St} (h : SInv s) : SInv (clearX s).2 := h
theorem SInv.carry {s : St} {N : Int} (h : SInv s) (hR : RInv s.1 N) (hN : N + 600 ≤ 400000) (hn : s.2.2.1 ≤ 4) (hL : s.2.2.2.1 ≤ 80) : SInv (carryX s).2 := by
  unfold carryX
  split
  · rename_i hf
    exact h.ch hn (car_k (fun q hq => hq.lt.2.2) 80 0 s.1 N hf (by omega) hR h.1 rfl (by omega))
  · exact h
/-! runs: first place, how many, sum; how many runs, and of each the first place, how many, the sum -/
abbrev RS : Type := Nat × Int × Int × Nat × (Nat → Int) × (Nat → Int) × (Nat → Int)
def putF (F : Nat → Int) (k : Nat) (z : Int) : Nat → Int := fun j => if j = k then z else F j
def endsR (x : RS) : RS := if 2 < x.2.1 then (x.1, x.2.1, x.2.2.1, x.2.2.2.1 + 1, putF x.2.2.2.2.1 x.2.2.2.1 (x.1 : Int), putF x.2.2.2.2.2.1 x.2.2.2.1 x.2.1, putF x.2.2.2.2.2.2 x.2.2.2.1 x.2.2.1) else x
def setF (x : RS) (f : Nat) (m q : Int) : RS := (f, m, q, x.2.2.2)
def stepR (S : Nat → Int) (k : Nat) (x : RS) : RS := if 0 < S k then (if 0 < x.2.1 ∧ adist (S k) (S x.1) ≤ 1 then setF x x.1 (x.2.1 + 1) (x.2.2.1 + S k) else setF (endsR x) k 1 (0 + S k)) else x
def runsR (S : Nat → Int) : Nat → RS
  | 0 => (0, 0, 0, 0, fun _ => 0, fun _ => 0, fun _ => 0)
  | n + 1 => stepR S n (runsR S n)
def allR (S : Nat → Int) (n : Nat) : RS := endsR (runsR S n)
def XB (x : RS) (k : Nat) : Prop := 0 ≤ x.2.1 ∧ 3 * (x.2.2.2.1 : Int) + x.2.1 ≤ k ∧ (0 < x.2.1 → x.1 < k) ∧ ∀ j, j < x.2.2.2.1 → 0 ≤ x.2.2.2.2.1 j ∧ x.2.2.2.2.1 j < k
def XE (x : RS) (k : Nat) : Prop := 3 * (x.2.2.2.1 : Int) ≤ k ∧ ∀ j, j < x.2.2.2.1 → 0 ≤ x.2.2.2.2.1 j ∧ x.2.2.2.2.1 j < k
theorem ends_b {x : RS} {k : Nat} (h : XB x k) : XE (endsR x) k := by
  obtain ⟨h1, h2, h3, h4⟩ := h
  unfold endsR XE
  by_cases q : 2 < x.2.1
  · rw [if_pos q]
    refine ⟨by show 3 * ((x.2.2.2.1 + 1 : Nat) : Int) ≤ k; omega, fun j hj => ?_⟩
    have hj2 : j < x.2.2.2.1 + 1 := hj
    show 0 ≤ putF x.2.2.2.2.1 x.2.2.2.1 (x.1 : Int) j ∧ putF x.2.2.2.2.1 x.2.2.2.1 (x.1 : Int) j < k
    unfold putF
    by_cases e : j = x.2.2.2.1
    · rw [if_pos e]; have := h3 (by omega); omega
    · rw [if_neg e]; exact h4 j (by omega)
  · rw [if_neg q]
    exact ⟨by omega, h4⟩
theorem step_b {S : Nat → Int} {x : RS} {k : Nat} (h : XB x k) : XB (stepR S k x) (k + 1) := by
  have h0 := h
  obtain ⟨h1, h2, h3, h4⟩ := h
  unfold stepR
  split
  · split
    · rename_i q
      refine ⟨by show 0 ≤ x.2.1 + 1; omega, by show 3 * (x.2.2.2.1 : Int) + (x.2.1 + 1) ≤ ((k + 1 : Nat) : Int); omega, fun _ => by show x.1 < k + 1; have := h3 q.1; omega, fun j hj => ?_⟩
      have := h4 j hj
      exact ⟨this.1, by show x.2.2.2.2.1 j < ((k + 1 : Nat) : Int); omega⟩
    · obtain ⟨e1, e2⟩ := ends_b h0
      refine ⟨by show (0 : Int) ≤ 1; omega, by show 3 * ((endsR x).2.2.2.1 : Int) + 1 ≤ ((k + 1 : Nat) : Int); omega, fun _ => by show k < k + 1; omega, fun j hj => ?_⟩
      have := e2 j hj
      exact ⟨this.1, by show (endsR x).2.2.2.2.1 j < ((k + 1 : Nat) : Int); omega⟩
  · exact ⟨h1, by omega, fun q => by have := h3 q; omega, fun j hj => by have := h4 j hj; omega⟩
theorem runs_b (S : Nat → Int) : ∀ k, XB (runsR S k) k
  | 0 => ⟨by show (0 : Int) ≤ 0; omega, by show 3 * ((0 : Nat) : Int) + 0 ≤ ((0 : Nat) : Int); omega, fun q => absurd (show (0 : Int) < 0 from q) (by omega), fun j hj => absurd hj (Nat.not_lt_zero j)⟩
  | k + 1 => step_b (runs_b S k)
def setsR (r : Row) (p : Nat) : Nat → Int := fun j => r (24 + 91 * p + 11 + j)
def loadsR (r : Row) (p : Nat) : Nat → Int := fun j => r (24 + 91 * p + 51 + j)
def runsX (s : St) (p : Int) : Int := if 0 ≤ p ∧ p < s.1 19 then ((allR (setsR s.1 p.toNat) (s.1 (24 + 91 * p.toNat + 10)).toNat).2.2.2.1 : Int) else -1
def runX (s : St) (p k w : Int) : Int := if (0 ≤ p ∧ p < s.1 19) ∧ 0 ≤ k ∧ 0 ≤ w ∧ w ≤ 3 then (if k < ((allR (setsR s.1 p.toNat) (s.1 (24 + 91 * p.toNat + 10)).toNat).2.2.2.1 : Int) then (if w = 0 then setsR s.1 p.toNat ((allR (setsR s.1 p.toNat) (s.1 (24 + 91 * p.toNat + 10)).toNat).2.2.2.2.1 k.toNat).toNat else if w = 1 then (allR (setsR s.1 p.toNat) (s.1 (24 + 91 * p.toNat + 10)).toNat).2.2.2.2.2.1 k.toNat else if w = 2 then loadsR s.1 p.toNat ((allR (setsR s.1 p.toNat) (s.1 (24 + 91 * p.toNat + 10)).toNat).2.2.2.2.1 k.toNat).toNat else (allR (setsR s.1 p.toNat) (s.1 (24 + 91 * p.toNat + 10)).toNat).2.2.2.2.2.2 k.toNat) else -4) else -1
/-! what the class holds of them -/
def XRep (σ : Mem) (S LD : Nat → Int) (x : RS) (w : Int) : Prop := σ 5 1 = w ∧ σ 5 2 = x.2.2.2.1 ∧ σ 5 4 = x.2.1 ∧ (0 < x.2.1 → σ 5 3 = S x.1 ∧ σ 5 5 = LD x.1 ∧ σ 5 6 = x.2.2.1) ∧ (0 ≤ w → w < x.2.2.2.1 → σ 6 0 = S (x.2.2.2.2.1 w.toNat).toNat ∧ σ 6 1 = x.2.2.2.2.2.1 w.toNat ∧ σ 6 2 = LD (x.2.2.2.2.1 w.toNat).toNat ∧ σ 6 3 = x.2.2.2.2.2.2 w.toNat)
def closeR (x : RS) : RS := setF (endsR x) x.1 0 x.2.2.1
def frX (σ σ' : Mem) : Prop := ∀ x, x ≠ 5 → x ≠ 6 → σ' x = σ x
theorem frX.refl {σ : Mem} : frX σ σ := fun _ _ _ => rfl
theorem frX.trans {σ τ υ : Mem} (h : frX σ τ) (k : frX τ υ) : frX σ υ := fun x a b => (k x a b).trans (h x a b)
theorem frX.up {σ τ : Mem} {c j : Nat} {z : Int} (h : frX σ τ) (hc : c = 5 ∨ c = 6) : frX σ (up τ c j z) := fun x a b => by
  rw [up_neC _ _ (by omega)]
  exact h x a b
theorem CRep.fX {σ τ : Mem} {s : St} {N : Int} (h : CRep σ s N) (hf : frX σ τ) : CRep τ s N :=
  ⟨h.1.fr h.2.1 (fun x _ _ => hf x (by omega) (by omega)), h.2.1, h.2.2.1.fr h.2.2.2.1 (fun x _ => hf x (by omega) (by omega)), h.2.2.2.1, h.2.2.2.2.fr (hf 3 (by omega) (by omega)) (hf 4 (by omega) (by omega))⟩
theorem xc_A {σ : Mem} {S LD : Nat → Int} {x : RS} {w : Int} (h : XRep σ S LD x w) (hm : 2 < x.2.1) (hc : (x.2.2.2.1 : Int) = w) : XRep (up (up (up (up (up (up σ 6 0 (σ 5 3)) 6 1 (σ 5 4)) 6 2 (σ 5 5)) 6 3 (σ 5 6)) 5 2 (σ 5 2 + 1)) 5 4 0) S LD (closeR x) w := by
  obtain ⟨h1, h2, h4, h3, h6⟩ := h
  obtain ⟨a, b, c⟩ := h3 (by omega)
  have hw : w.toNat = x.2.2.2.1 := by omega
  unfold closeR endsR
  rw [if_pos hm]
  refine ⟨by simpa [up] using h1, ?_, by simp [up, setF], fun q => absurd q (by simp [setF]), fun _ _ => ?_⟩
  · simp [up, setF, h2]
  · simp [up, setF, putF, hw, a, b, c, h4]
theorem xc_B {σ : Mem} {S LD : Nat → Int} {x : RS} {w : Int} (h : XRep σ S LD x w) (hm : 2 < x.2.1) (hc : ¬ (x.2.2.2.1 : Int) = w) : XRep (up (up σ 5 2 (σ 5 2 + 1)) 5 4 0) S LD (closeR x) w := by
  obtain ⟨h1, h2, h4, h3, h6⟩ := h
  unfold closeR endsR
  rw [if_pos hm]
  refine ⟨by simpa [up] using h1, ?_, by simp [up, setF], fun q => absurd q (by simp [setF]), fun q1 q2 => ?_⟩
  · simp [up, setF, h2]
  · have q3 : w < ((x.2.2.2.1 + 1 : Nat) : Int) := q2
    have e : w.toNat ≠ x.2.2.2.1 := by omega
    have := h6 q1 (by omega)
    simp only [up, setF, putF, if_neg e]
    simpa using this
theorem xc_C {σ : Mem} {S LD : Nat → Int} {x : RS} {w : Int} (h : XRep σ S LD x w) (hm : ¬ 2 < x.2.1) : XRep (up σ 5 4 0) S LD (closeR x) w := by
  obtain ⟨h1, h2, h4, h3, h6⟩ := h
  unfold closeR endsR
  rw [if_neg hm]
  refine ⟨by simpa [up] using h1, by simpa [up, setF] using h2, by simp [up, setF], fun q => absurd q (by simp [setF]), fun q1 q2 => ?_⟩
  have := h6 q1 q2
  simpa [up, setF] using this
theorem xr_new {μ : Mem} {S LD : Nat → Int} {y : RS} {w : Int} (h : XRep μ S LD y w) (hm : y.2.1 = 0) {k : Nat} {a b : Int} (ha : a = S k) (hb : b = LD k) : XRep (up (up (up (up (up μ 5 3 a) 5 5 b) 5 6 0) 5 4 (μ 5 4 + 1)) 5 6 (0 + a)) S LD (setF y k 1 (0 + S k)) w := by
  obtain ⟨h1, h2, h4, h3, h6⟩ := h
  refine ⟨by simpa [up] using h1, by simpa [up, setF] using h2, by simp [up, setF, h4, hm], fun _ => by simp [up, setF, ha, hb], fun q1 q2 => ?_⟩
  have := h6 q1 q2
  simpa [up, setF] using this
theorem xr_more {μ : Mem} {S LD : Nat → Int} {y : RS} {w : Int} (h : XRep μ S LD y w) (hm : 0 < y.2.1) {k : Nat} {a : Int} (ha : a = S k) : XRep (up (up μ 5 4 (μ 5 4 + 1)) 5 6 (μ 5 6 + a)) S LD (setF y y.1 (y.2.1 + 1) (y.2.2.1 + S k)) w := by
  obtain ⟨h1, h2, h4, h3, h6⟩ := h
  have h3' := h3 hm
  refine ⟨by simpa [up] using h1, by simpa [up, setF] using h2, by simp [up, setF, h4], fun _ => ?_, fun q1 q2 => ?_⟩
  · simp [up, setF, ha, h3'.1, h3'.2.1, h3'.2.2]
  · have := h6 q1 q2
    simpa [up, setF] using this
/-! what the reference holds of them -/
def YRep (σ : Mem) (x : RS) : Prop := σ 12 10 = x.2.2.2.1 ∧ ∀ j, j < x.2.2.2.1 → σ 18 j = x.2.2.2.2.1 j ∧ σ 19 j = x.2.2.2.2.2.1 j ∧ σ 20 j = x.2.2.2.2.2.2 j
def frY (σ σ' : Mem) : Prop := (∀ x, x ≠ 12 → x ≠ 18 → x ≠ 19 → x ≠ 20 → σ' x = σ x) ∧ ∀ j, j ≠ 10 → σ' 12 j = σ 12 j
theorem frY.refl {σ : Mem} : frY σ σ := ⟨fun _ _ _ _ _ => rfl, fun _ _ => rfl⟩
theorem frY.trans {σ τ υ : Mem} (h : frY σ τ) (k : frY τ υ) : frY σ υ := ⟨fun x a b c d => (k.1 x a b c d).trans (h.1 x a b c d), fun j q => (k.2 j q).trans (h.2 j q)⟩
theorem frY.upx {σ τ : Mem} {j : Nat} {z : Int} (h : frY σ τ) {c : Nat} (hc : c = 18 ∨ c = 19 ∨ c = 20) : frY σ (up τ c j z) := ⟨fun x a b d e => by rw [up_neC _ _ (by omega)]; exact h.1 x a b d e, fun i q => by rw [up_ne _ _ (Or.inl (by omega))]; exact h.2 i q⟩
theorem frY.up10 {σ τ : Mem} {z : Int} (h : frY σ τ) : frY σ (up τ 12 10 z) := ⟨fun x a b d e => by rw [up_neC _ _ a]; exact h.1 x a b d e, fun i q => by rw [up_ne _ _ (Or.inr q)]; exact h.2 i q⟩
theorem yr_end {σ : Mem} {x : RS} (h : YRep σ x) (hm : 2 < x.2.1) : YRep (up (up (up (up σ 18 (x.2.2.2.1 : Int).toNat (x.1 : Int)) 19 (x.2.2.2.1 : Int).toNat x.2.1) 20 (x.2.2.2.1 : Int).toNat x.2.2.1) 12 10 ((x.2.2.2.1 : Int) + 1)) (endsR x) := by
  obtain ⟨h1, h2⟩ := h
  unfold endsR
  rw [if_pos hm]
  refine ⟨by rw [up_same]; rfl, fun j hj => ?_⟩
  have hj2 : j < x.2.2.2.1 + 1 := hj
  rw [Int.toNat_natCast]
  by_cases e : j = x.2.2.2.1
  · subst e; simp [up, putF]
  · have := h2 j (by omega)
    simpa [up, putF, e] using this
