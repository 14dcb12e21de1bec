/-! what the pile's writes do to what a state holds -/
theorem mKeep_ne {σ : Mem} {c x j : Nat} {s l w : Int} (h0 : x ≠ c) (h1 : x ≠ c + 1) (h2 : x ≠ c + 2) (k : σ x j = w) : mKeep σ c s l x j = w := by
  unfold mKeep
  split <;> simp [up, cpy, h0, h1, h2, k]
theorem mBlow_ne {σ : Mem} {c x j : Nat} {s l w : Int} (h0 : x ≠ c) (h1 : x ≠ c + 1) (h2 : x ≠ c + 2) (k : σ x j = w) : mBlow σ c s l x j = w := by
  unfold mBlow
  refine mKeep_ne h0 h1 h2 ?_
  simp [mBlow0, up, h0, k]
theorem mLift_ne {σ : Mem} {c x j : Nat} {z w : Int} (h0 : x ≠ c) (k : σ x j = w) : mLift σ c z x j = w := by
  unfold mLift
  split <;> simp [up, h0, k]
theorem mPress_ne {σ : Mem} {c x j : Nat} {z w : Int} (h0 : x ≠ c) (k : σ x j = w) : mPress σ c z x j = w := by
  simp [mPress, up, h0, k]
theorem mKeep_own {σ : Mem} {c j : Nat} {s l : Int} : mKeep σ c s l c j = if j = 2 then (if 40 ≤ σ c 2 then 40 else σ c 2 + 1) else σ c j := by
  unfold mKeep
  by_cases h : 40 ≤ σ c 2
  · rw [if_pos h]
    by_cases hj : j = 2
    · subst hj; simp [up, h]
    · simp [up, cpy, hj]
  · rw [if_neg h]
    by_cases hj : j = 2
    · subst hj; simp [up, h]
    · simp [up, hj]
theorem mKeep_sets {σ : Mem} {c j : Nat} {s l : Int} (hj : j < 40) : mKeep σ c s l (c + 1) j = if 40 ≤ σ c 2 then (if j = 39 then s else σ (c + 1) (j + 1)) else if j = (σ c 2).toNat then s else σ (c + 1) j := by
  unfold mKeep
  by_cases h : 40 ≤ σ c 2
  · rw [if_pos h, if_pos h]
    by_cases h2 : j = 39
    · subst h2; simp [up]
    · have h3 : j < 39 := by omega
      simp [up, cpy, h2, h3, Nat.add_comm]
  · rw [if_neg h, if_neg h]
    by_cases h2 : j = (σ c 2).toNat
    · subst h2; simp [up]
    · simp [up, h2]
theorem mKeep_loads {σ : Mem} {c j : Nat} {s l : Int} (hj : j < 40) : mKeep σ c s l (c + 2) j = if 40 ≤ σ c 2 then (if j = 39 then l else σ (c + 2) (j + 1)) else if j = (σ c 2).toNat then l else σ (c + 2) j := by
  unfold mKeep
  by_cases h : 40 ≤ σ c 2
  · rw [if_pos h, if_pos h]
    by_cases h2 : j = 39
    · subst h2; simp [up]
    · have h3 : j < 39 := by omega
      simp [up, cpy, h2, h3, Nat.add_comm]
  · rw [if_neg h, if_neg h]
    by_cases h2 : j = (σ c 2).toNat
    · subst h2; simp [up]
    · simp [up, h2]
theorem mBlow_prep {σ : Mem} {c i : Nat} {r : Row} {s l e hd : Int} (hP : PRep σ c r i) (hi : i < 10) (hk0 : 0 ≤ r (24 + 91 * i + 10)) (hk : r (24 + 91 * i + 10) ≤ 40) : PRep (mBlow σ c s l) c (struckR r i s l e hd) i := by
  have f := hP.f
  have m2 : mBlow0 σ c s l c 2 = r (24 + 91 * i + 10) := by simp [mBlow0, up]; exact f.1
  have ms : ∀ j, mBlow0 σ c s l (c + 1) j = σ (c + 1) j := fun j => by simp [mBlow0, up]
  have ml : ∀ j, mBlow0 σ c s l (c + 2) j = σ (c + 2) j := fun j => by simp [mBlow0, up]
  refine ⟨fun k hk10 => ?_, ?_, fun j hj => ?_⟩
  · unfold mBlow
    rw [mKeep_own, if_neg (by omega), struckR_own hi (by omega)]
    rcases (show k = 0 ∨ k = 1 ∨ k = 2 ∨ k = 3 ∨ k = 4 ∨ k = 5 ∨ k = 6 ∨ k = 7 ∨ k = 8 ∨ k = 9 by omega) with rfl | rfl | rfl | rfl | rfl | rfl | rfl | rfl | rfl | rfl <;> simp [mBlow0, up] <;> first | exact f.2.1 | exact f.2.2.1 | exact f.2.2.2.1 | exact f.2.2.2.2.1 | exact f.2.2.2.2.2.1 | exact f.2.2.2.2.2.2.2.2.1 | exact f.2.2.2.2.2.2.2.2.2.1 | exact f.2.2.2.2.2.2.2.2.2.2
  · unfold mBlow
    rw [mKeep_own, if_pos rfl, m2, struckR_own hi (by decide)]
    simp
    by_cases h : r (24 + 91 * i + 10) = 40
    · rw [if_pos (by omega), if_pos h]
    · rw [if_neg (by omega), if_neg h]
  · rw [struckR_own hi (by decide)] at hj
    simp at hj
    have hj40 : j < 40 := by
      by_cases h : r (24 + 91 * i + 10) = 40
      · rw [if_pos h] at hj; omega
      · rw [if_neg h] at hj; omega
    unfold mBlow
    rw [mKeep_sets hj40, mKeep_loads hj40, m2, ms, ms, ml, ml, struckR_sets hi hj40, struckR_loads hi hj40]
    by_cases h : r (24 + 91 * i + 10) = 40
    · have hge : 40 ≤ r (24 + 91 * i + 10) := by omega
      simp only [if_pos hge, if_pos h]
      by_cases h9 : j = 39
      · simp only [if_pos h9, and_self]
      · simp only [if_neg h9]
        exact hP.2.2 (j + 1) (by omega)
    · rw [if_neg h] at hj
      have hge : ¬ 40 ≤ r (24 + 91 * i + 10) := by omega
      simp only [if_neg hge, if_neg h]
      by_cases h9 : j = (r (24 + 91 * i + 10)).toNat
      · simp only [if_pos h9, and_self]
      · simp only [if_neg h9]
        exact hP.2.2 j (by omega)
/-- a pile's cells as they were, and its row as it was -/
theorem PRep.keep {σ σ' : Mem} {c i : Nat} {r r' : Row} (hP : PRep σ c r i) (h0 : σ' c = σ c) (h1 : σ' (c + 1) = σ (c + 1)) (h2 : σ' (c + 2) = σ (c + 2)) (hr : ∀ k, k < 91 → r' (24 + 91 * i + k) = r (24 + 91 * i + k)) (hk : r (24 + 91 * i + 10) ≤ 40) : PRep σ' c r' i := by
  refine ⟨fun k hk => ?_, ?_, fun j hj => ?_⟩
  · rw [h0, hr k (by omega)]; exact hP.1 k hk
  · rw [h0, hr 10 (by decide)]; exact hP.2.1
  · rw [hr 10 (by decide)] at hj
    rw [h1, h2]
    have e1 := hr (11 + j) (by omega)
    have e2 := hr (51 + j) (by omega)
    have e3 := hP.2.2 j hj
    rw [show 24 + 91 * i + (11 + j) = 24 + 91 * i + 11 + j by omega] at e1
    rw [show 24 + 91 * i + (51 + j) = 24 + 91 * i + 51 + j by omega] at e2
    rw [e1, e2]
    exact e3
theorem struck_rep {σ : Mem} {B : Nat} {r : Row} {N : Int} (hS : SRep σ B r) (hR : RInv r N) {i : Nat} (hi : (i : Int) < r 19) {s l e hd : Int} :
    SRep (up (up (up (up (mBlow σ (B + 5 + 1 + 3 * i) s l) B 4 (σ B 4 + 1)) B 5 (σ B 5 + e)) B 6 (σ B 6 + s * hd)) B 7 (σ B 7 + s)) B (struckR r i s l e hd) := by
  have r19 := hR.2.2.2.2.1
  have hi10 : i < 10 := by omega
  generalize hσ' : up (up (up (up (mBlow σ (B + 5 + 1 + 3 * i) s l) B 4 (σ B 4 + 1)) B 5 (σ B 5 + e)) B 6 (σ B 6 + s * hd)) B 7 (σ B 7 + s) = σ'
  have hne : ∀ x, x ≠ B → x ≠ B + 5 + 1 + 3 * i → x ≠ B + 5 + 1 + 3 * i + 1 → x ≠ B + 5 + 1 + 3 * i + 2 → σ' x = σ x := fun x h0 h1 h2 h3 => funext fun j => by
    rw [← hσ', up_ne _ _ (Or.inl h0), up_ne _ _ (Or.inl h0), up_ne _ _ (Or.inl h0), up_ne _ _ (Or.inl h0)]
    exact mBlow_ne h1 h2 h3 rfl
  have hpc : ∀ x, x ≠ B → σ' x = mBlow σ (B + 5 + 1 + 3 * i) s l x := fun x h0 => funext fun j => by
    rw [← hσ', up_ne _ _ (Or.inl h0), up_ne _ _ (Or.inl h0), up_ne _ _ (Or.inl h0), up_ne _ _ (Or.inl h0)]
  have hB : ∀ j, mBlow σ (B + 5 + 1 + 3 * i) s l B j = σ B j := fun j => mBlow_ne (by omega) (by omega) (by omega) rfl
  obtain ⟨a0, a1, a2, a3, a4, ⟨b1, b2, b3, b4, b5, b6⟩, aP⟩ := hS
  refine ⟨?_, fun j hj => ?_, fun j hj => ?_, fun j hj => ?_, ?_, ⟨?_, ?_, ?_, ?_, ?_, ?_⟩, fun q hq => ?_⟩
  · rw [hne _ (by omega) (by omega) (by omega) (by omega), struckR_low (by omega)]; exact a0
  · rw [hne _ (by omega) (by omega) (by omega) (by omega), struckR_low (by omega)]; exact a1 j hj
  · rw [hne _ (by omega) (by omega) (by omega) (by omega), struckR_low (by omega)]; exact a2 j hj
  · rw [hne _ (by omega) (by omega) (by omega) (by omega), struckR_low (by omega)]; exact a3 j hj
  · rw [← hσ', struckR_low (by omega)]; simp [up]; rw [hB]; exact a4
  · rw [← hσ', struckR_20]; simp [up]; exact b1
  · rw [← hσ', struckR_934 hi10]; simp [up]; exact b2
  · rw [← hσ', struckR_935 hi10]; simp [up]; exact b3
  · rw [← hσ', struckR_21]; simp [up]; exact b4
  · rw [← hσ', struckR_low (by omega)]; simp [up]; rw [hB]; exact b5
  · rw [← hσ', struckR_low (by omega)]; simp [up]; rw [hB]; exact b6
  · rw [struckR_low (by omega)] at hq
    have h6 := (hR.2.2.2.2.2.2 q hq).f
    by_cases hqi : q = i
    · subst hqi
      have h7 := mBlow_prep (s := s) (l := l) (e := e) (hd := hd) (aP q hq) hi10 (by omega) (by omega)
      refine ⟨fun k hk => ?_, ?_, fun j hj => ?_⟩
      · rw [hpc _ (by omega)]; exact h7.1 k hk
      · rw [hpc _ (by omega)]; exact h7.2.1
      · rw [hpc _ (by omega), hpc _ (by omega)]; exact h7.2.2 j hj
    · exact (aP q hq).keep (hne _ (by omega) (by omega) (by omega) (by omega)) (hne _ (by omega) (by omega) (by omega) (by omega)) (hne _ (by omega) (by omega) (by omega) (by omega)) (fun k hk => struckR_other hqi hk (by omega)) (by omega)
theorem lift_rep {σ : Mem} {B : Nat} {r : Row} {N : Int} (hS : SRep σ B r) (hR : RInv r N) {q : Nat} (hq : (q : Int) < r 19) {z : Int} (hz : 0 ≤ z) :
    SRep (up (mLift σ (B + 5 + 1 + 3 * q) z) B 8 (σ B 8 + z)) B (if 0 < z then lift1R r q z else r) := by
  have r19 := hR.2.2.2.2.1
  obtain ⟨a0, a1, a2, a3, a4, ⟨b1, b2, b3, b4, b5, b6⟩, aP⟩ := hS
  by_cases hz0 : 0 < z
  · rw [if_pos hz0]
    have em : mLift σ (B + 5 + 1 + 3 * q) z = up (up (up σ (B + 5 + 1 + 3 * q) 6 (σ (B + 5 + 1 + 3 * q) 6 - z)) (B + 5 + 1 + 3 * q) 11 (σ (B + 5 + 1 + 3 * q) 11 + z)) (B + 5 + 1 + 3 * q) 9 1 := by unfold mLift; rw [if_pos (by omega)]
    generalize hσ' : up (mLift σ (B + 5 + 1 + 3 * q) z) B 8 (σ B 8 + z) = σ'
    have hne : ∀ x, x ≠ B → x ≠ B + 5 + 1 + 3 * q → σ' x = σ x := fun x h0 h1 => funext fun j => by
      rw [← hσ', up_ne _ _ (Or.inl h0)]
      exact mLift_ne h1 rfl
    have hB : ∀ j, j ≠ 8 → σ' B j = σ B j := fun j hj => by
      rw [← hσ', up_ne _ _ (Or.inr hj)]
      exact mLift_ne (by omega) rfl
    refine ⟨?_, fun j hj => ?_, fun j hj => ?_, fun j hj => ?_, ?_, ⟨?_, ?_, ?_, ?_, ?_, ?_⟩, fun k hk => ?_⟩
    · rw [hne _ (by omega) (by omega), lift1R_ne (by omega)]; exact a0
    · rw [hne _ (by omega) (by omega), lift1R_ne (by omega)]; exact a1 j hj
    · rw [hne _ (by omega) (by omega), lift1R_ne (by omega)]; exact a2 j hj
    · rw [hne _ (by omega) (by omega), lift1R_ne (by omega)]; exact a3 j hj
    · rw [hB _ (by decide), lift1R_ne (by omega)]; exact a4
    · rw [hB _ (by decide), lift1R_ne (by omega)]; exact b1
    · rw [hB _ (by decide), lift1R_ne (by omega)]; exact b2
    · rw [hB _ (by decide), lift1R_ne (by omega)]; exact b3
    · rw [hB _ (by decide), lift1R_ne (by omega)]; exact b4
    · have e : lift1R r q z 22 = r 22 + z := by
        unfold lift1R
        rw [if_neg (by omega), if_neg (by omega), if_neg (by omega), if_pos rfl]
      rw [← hσ', up_same, e, b5]
    · rw [hB _ (by decide), lift1R_ne (by omega)]; exact b6
    · rw [lift1R_ne (by omega)] at hk
      have h6 := (hR.2.2.2.2.2.2 k hk).f
      by_cases hkq : k = q
      · subst hkq
        have f := (aP k hk).f
        have hc : ∀ j, σ' (B + 5 + 1 + 3 * k) j = mLift σ (B + 5 + 1 + 3 * k) z (B + 5 + 1 + 3 * k) j := fun j => by
          rw [← hσ', up_ne _ _ (Or.inl (by omega))]
        refine ⟨fun j hj => ?_, ?_, fun j hj => ?_⟩
        · rw [hc, em]
          unfold lift1R
          rcases (show j = 0 ∨ j = 1 ∨ j = 2 ∨ j = 3 ∨ j = 4 ∨ j = 5 ∨ j = 6 ∨ j = 7 ∨ j = 8 ∨ j = 9 by omega) with rfl | rfl | rfl | rfl | rfl | rfl | rfl | rfl | rfl | rfl <;> simp [up] <;> first | exact f.2.1 | exact f.2.2.1 | exact f.2.2.2.1 | exact f.2.2.2.2.1 | exact f.2.2.2.2.2.1 | exact f.2.2.2.2.2.2.1 | exact f.2.2.2.2.2.2.2.2.1 | exact f.2.2.2.2.2.2.2.2.2.1 | exact f.2.2.2.2.2.2.2.2.2.2 | (rw [if_neg (by omega)]; first | exact f.2.1 | exact f.2.2.1 | exact f.2.2.2.1 | exact f.2.2.2.2.2.1 | exact f.2.2.2.2.2.2.1 | exact f.2.2.2.2.2.2.2.2.1 | exact f.2.2.2.2.2.2.2.2.2.2)
        · rw [hc, em, lift1R_ne (by omega)]; simp [up]; exact f.1
        · rw [lift1R_ne (by omega)] at hj
          rw [hne _ (by omega) (by omega), hne _ (by omega) (by omega), lift1R_ne (by omega), lift1R_ne (by omega)]
          exact (aP k hk).2.2 j hj
      · exact (aP k hk).keep (hne _ (by omega) (by omega)) (hne _ (by omega) (by omega)) (hne _ (by omega) (by omega)) (fun j hj => lift1R_ne (by omega)) (by omega)
  · rw [if_neg hz0]
    have e0 : z = 0 := by omega
    subst e0
    have es : up (mLift σ (B + 5 + 1 + 3 * q) 0) B 8 (σ B 8 + 0) = σ := by
      have em : mLift σ (B + 5 + 1 + 3 * q) 0 = σ := by unfold mLift; exact if_neg (by decide)
      rw [em]
      funext x j
      unfold up
      by_cases h : x = B ∧ j = 8
      · rw [if_pos h, h.1, h.2]; omega
      · rw [if_neg h]
    rw [es]
    exact ⟨a0, a1, a2, a3, a4, ⟨b1, b2, b3, b4, b5, b6⟩, aP⟩
def frB (σ σ' : Mem) (B : Nat) : Prop := ∀ x, (x < B ∨ B + 36 ≤ x) → σ' x = σ x
theorem frB.refl {σ : Mem} {B : Nat} : frB σ σ B := fun _ _ => rfl
theorem frB.trans {σ σ1 σ2 : Mem} {B : Nat} (h1 : frB σ σ1 B) (h2 : frB σ1 σ2 B) : frB σ σ2 B := fun x hx => (h2 x hx).trans (h1 x hx)
theorem frB.up {σ σ' : Mem} {B c j : Nat} {z : Int} (h : frB σ σ' B) (hc : B ≤ c) (hc2 : c < B + 36) : frB σ (up σ' c j z) B := fun x hx => by
  rw [up_neC _ _ (by omega)]
  exact h x hx
theorem struck_rep2 {σ : Mem} {B : Nat} {r : Row} {N : Int} (hS : SRep σ B r) (hR : RInv r N) {i : Nat} (hi : (i : Int) < r 19) (s l e hd : Int) :
    SRep (up (up (up (up (mBlow σ (B + 5 + 1 + 3 * i) s l) B 4 (r 20 + 1)) B 5 (r 934 + e)) B 6 (r 935 + s * hd)) B 7 (r 21 + s)) B (struckR r i s l e hd) := by
  have h := struck_rep hS hR hi (s := s) (l := l) (e := e) (hd := hd)
  obtain ⟨-, -, -, -, -, ⟨b1, b2, b3, b4, -, -⟩, -⟩ := hS
  rw [b1, b2, b3, b4] at h
  exact h
theorem lift_rep2 {σ : Mem} {B : Nat} {r : Row} {N : Int} (hS : SRep σ B r) (hR : RInv r N) {q : Nat} (hq : (q : Int) < r 19) {z : Int} (hz : 0 ≤ z) :
    SRep (up (mLift σ (B + 5 + 1 + 3 * q) z) B 8 (r 22 + z)) B (if 0 < z then lift1R r q z else r) := by
  have h := lift_rep hS hR hq hz
  obtain ⟨-, -, -, -, -, ⟨-, -, -, -, b5, -⟩, -⟩ := hS
  rw [b5] at h
  exact h
theorem lifts_near {τ : Mem} {B : Nat} {r : Row} {N : Int} {p q : Nat} {z : Int} (hn : nearB (liftsR r p z q) p q = true) (hS : SRep τ B (liftsR r p z q)) (hR : RInv (liftsR r p z q) N) (hq : (q : Int) < liftsR r p z q 19) (hz : 0 ≤ z) :
    SRep (up (mLift τ (B + 5 + 1 + 3 * q) (if 0 < liftsR r p z q (24 + 91 * q + 3) ∧ liftsR r p z q (24 + 91 * q + 3) < liftsR r p z q (24 + 91 * p + 3) then min (liftsR r p z q (24 + 91 * q + 3)) z else 0)) B 8 (liftsR r p z q 22 + (if 0 < liftsR r p z q (24 + 91 * q + 3) ∧ liftsR r p z q (24 + 91 * q + 3) < liftsR r p z q (24 + 91 * p + 3) then min (liftsR r p z q (24 + 91 * q + 3)) z else 0))) B (liftsR r p z (q + 1)) := by
  have hb := liftZ_bd (r := liftsR r p z q) (p := p) (q := q) hz
  have e : liftZ (liftsR r p z q) p q z = (if 0 < liftsR r p z q (24 + 91 * q + 3) ∧ liftsR r p z q (24 + 91 * q + 3) < liftsR r p z q (24 + 91 * p + 3) then min (liftsR r p z q (24 + 91 * q + 3)) z else 0) := by
    unfold liftZ
    rw [if_pos hn]
    rfl
  rw [← e, liftsR]
  exact lift_rep2 hS hR hq hb.1
theorem lifts_far {r : Row} {p q : Nat} {z : Int} (hn : ¬ nearB (liftsR r p z q) p q = true) : liftsR r p z (q + 1) = liftsR r p z q := by
  have e : liftZ (liftsR r p z q) p q z = 0 := by
    unfold liftZ
    rw [if_neg hn]
  rw [liftsR, e, if_neg (by decide)]
theorem frB.lift {σ σ' : Mem} {B i : Nat} {z : Int} (h : frB σ σ' B) (hi : i < 10) : frB σ (mLift σ' (B + 5 + 1 + 3 * i) z) B := fun x hx => by
  rw [← h x hx]
  exact funext fun j => mLift_ne (by omega) rfl
theorem frB.blow {σ σ' : Mem} {B i : Nat} {s l : Int} (h : frB σ σ' B) (hi : i < 10) : frB σ (mBlow σ' (B + 5 + 1 + 3 * i) s l) B := fun x hx => by
  rw [← h x hx]
  exact funext fun j => mBlow_ne (by omega) (by omega) (by omega) rfl
theorem frB.press {σ σ' : Mem} {B i : Nat} {z : Int} (h : frB σ σ' B) (hi : i < 10) : frB σ (mPress σ' (B + 5 + 1 + 3 * i) z) B := fun x hx => by
  rw [← h x hx]
  exact funext fun j => mPress_ne (by omega) rfl
theorem hit1_inv {r : Row} {N : Int} (hR : RInv r N) (hN : N < 400000) {i : Nat} (hi : (i : Int) < r 19) {h : Int} (h0 : 0 ≤ h) (h1 : h ≤ 3000) : RInv (hit1R r i h) (N + 1) ∧ hit1R r i h 22 ≤ 2250 * N ∧ hit1R r i h 19 = r 19 ∧ (0 ≤ blowS r i h ∧ blowS r i h ≤ 500) := by
  have hp := (hR.2.2.2.2.2.2 i hi).f
  have he := (energyR_bd hR h0 h1).2.2
  have hs := setR_bd r (energyR r h) (r (24 + 91 * i + 3)) (r (24 + 91 * i + 2)) (by omega)
  have hl := loadR_bd (r := r) (s := blowS r i h) he.1 he.2
  have e := struck_inv hR hN hi (s := blowS r i h) (l := loadR r (energyR r h) (blowS r i h)) (e := energyR r h) (hd := hardR r (r (24 + 91 * i + 3))) ⟨hs.1, hs.2.1, hs.2.2⟩ hl
  exact ⟨e.1, e.2, struckR_low (by omega), hs.1, hs.2.1⟩
theorem hit_inv {r : Row} {N : Int} (hR : RInv r N) (hN : N < 400000) {i : Nat} (hi : (i : Int) < r 19) {h : Int} (h0 : 0 ≤ h) (h1 : h ≤ 3000) : RInv (hitR r i h) (N + 1) ∧ hitR r i h 19 = r 19 := by
  have r19 := hR.2.2.2.2.1
  obtain ⟨e1, e2, e3, e4⟩ := hit1_inv hR hN hi h0 h1
  have hb := byR_bd e1 e4.1 e4.2
  have hl := lifts_inv e1 e2 (p := i) (by rw [e3]; exact hi) hb.2.1 hb.2.2 (r 19).toNat (by rw [e3]; omega)
  exact ⟨hl.1, by unfold hitR; rw [hl.2.1, e3]⟩
/-- blows alike as long as the pile can be struck: the row behind them, and how many there were -/
def hitsR (p : Nat) (h : Int) : Nat → Row → Row × Int
  | 0, r => (r, 0)
  | n + 1, r => if r (24 + 91 * p + 3) < r (24 + 91 * p + 2) then ((hitsR p h n (hitR r p h)).1, (hitsR p h n (hitR r p h)).2 + 1) else (r, 0)
/-- a test with a force -/
def heldR (r : Row) (i : Nat) : Int := hardR r (r (24 + 91 * i + 3)) * 10 + r (24 + 91 * i + 3) / 100
def pressZ (r : Row) (i : Nat) (f : Int) : Int := min (r (24 + 91 * i + 2) - r (24 + 91 * i + 3)) ((f - heldR r i) / 10 + 1)
def press1R (r : Row) (i : Nat) (z : Int) : Row := fun n => if n = 24 + 91 * i + 3 then r n + z else if n = 24 + 91 * i + 6 then 0 else if n = 24 + 91 * i + 9 then r n + z else if n = 23 then r n + z else r n
theorem press1R_ne {r : Row} {q n : Nat} {z : Int} (h : n ≠ 24 + 91 * q + 3 ∧ n ≠ 24 + 91 * q + 6 ∧ n ≠ 24 + 91 * q + 9 ∧ n ≠ 23) : press1R r q z n = r n := by
  unfold press1R
  rw [if_neg h.1, if_neg h.2.1, if_neg h.2.2.1, if_neg h.2.2.2]
theorem press1_inv {r : Row} {N : Int} (hR : RInv r N) (hN : N ≤ 399400) {q : Nat} {z : Int} (hq : (q : Int) < r 19) (hz : 0 ≤ z) (hz2 : z ≤ r (24 + 91 * q + 2) - r (24 + 91 * q + 3)) : RInv (press1R r q z) (N + 600) := by
  have r19 := hR.2.2.2.2.1
  obtain ⟨a0, a1, a2, a3, a4, a5, a6⟩ := hR
  have hq6 := (a6 q hq).f
  refine ⟨?_, ?_, ?_, ?_, ?_, ?_, ?_⟩
  · rw [press1R_ne (by omega)]; exact a0
  · intro j hj; rw [press1R_ne (by omega)]; exact a1 j hj
  · intro j hj
    rw [press1R_ne (by omega)] at hj
    rw [press1R_ne (by omega), press1R_ne (by omega)]; exact a2 j hj
  · rw [press1R_ne (by omega), press1R_ne (by omega), press1R_ne (by omega), press1R_ne (by omega), press1R_ne (by omega), press1R_ne (by omega)]; exact a3
  · rw [press1R_ne (by omega)]; exact a4
  · rw [press1R_ne (n := 20) (by omega), press1R_ne (n := 21) (by omega), press1R_ne (n := 22) (by omega)]
    have e : press1R r q z 23 = r 23 + z := by
      unfold press1R
      rw [if_neg (by omega), if_neg (by omega), if_neg (by omega), if_pos rfl]
    rw [e]
    omega
  · intro k hk
    rw [press1R_ne (by omega)] at hk
    have h6 := (a6 k hk).f
    by_cases hkq : k = q
    · subst hkq
      have e3 : press1R r k z (24 + 91 * k + 3) = r (24 + 91 * k + 3) + z := by unfold press1R; rw [if_pos rfl]
      have e6 : press1R r k z (24 + 91 * k + 6) = 0 := by unfold press1R; rw [if_neg (by omega), if_pos rfl]
      unfold PInv
      rw [e3, e6, press1R_ne (by omega), press1R_ne (by omega), press1R_ne (by omega), press1R_ne (by omega), press1R_ne (by omega), press1R_ne (by omega)]
      omega
    · unfold PInv
      rw [press1R_ne (by omega), press1R_ne (by omega), press1R_ne (by omega), press1R_ne (by omega), press1R_ne (by omega), press1R_ne (by omega), press1R_ne (by omega), press1R_ne (by omega)]
      omega
theorem press_rep {σ : Mem} {B : Nat} {r : Row} {N : Int} (hS : SRep σ B r) (hR : RInv r N) {q : Nat} (hq : (q : Int) < r 19) (z : Int) :
    SRep (up (mPress σ (B + 5 + 1 + 3 * q) z) B 9 (r 23 + z)) B (press1R r q z) := by
  have r19 := hR.2.2.2.2.1
  obtain ⟨a0, a1, a2, a3, a4, ⟨b1, b2, b3, b4, b5, b6⟩, aP⟩ := hS
  generalize hσ' : up (mPress σ (B + 5 + 1 + 3 * q) z) B 9 (r 23 + z) = σ'
  have hne : ∀ x, x ≠ B → x ≠ B + 5 + 1 + 3 * q → σ' x = σ x := fun x h0 h1 => funext fun j => by
    rw [← hσ', up_ne _ _ (Or.inl h0)]
    exact mPress_ne h1 rfl
  have hB : ∀ j, j ≠ 9 → σ' B j = σ B j := fun j hj => by
    rw [← hσ', up_ne _ _ (Or.inr hj)]
    exact mPress_ne (by omega) rfl
  refine ⟨?_, fun j hj => ?_, fun j hj => ?_, fun j hj => ?_, ?_, ⟨?_, ?_, ?_, ?_, ?_, ?_⟩, fun k hk => ?_⟩
  · rw [hne _ (by omega) (by omega), press1R_ne (by omega)]; exact a0
  · rw [hne _ (by omega) (by omega), press1R_ne (by omega)]; exact a1 j hj
  · rw [hne _ (by omega) (by omega), press1R_ne (by omega)]; exact a2 j hj
  · rw [hne _ (by omega) (by omega), press1R_ne (by omega)]; exact a3 j hj
  · rw [hB _ (by decide), press1R_ne (by omega)]; exact a4
  · rw [hB _ (by decide), press1R_ne (by omega)]; exact b1
  · rw [hB _ (by decide), press1R_ne (by omega)]; exact b2
  · rw [hB _ (by decide), press1R_ne (by omega)]; exact b3
  · rw [hB _ (by decide), press1R_ne (by omega)]; exact b4
  · rw [hB _ (by decide), press1R_ne (by omega)]; exact b5
  · have e : press1R r q z 23 = r 23 + z := by
      unfold press1R
      rw [if_neg (by omega), if_neg (by omega), if_neg (by omega), if_pos rfl]
    rw [← hσ', up_same, e]
  · rw [press1R_ne (by omega)] at hk
    have h6 := (hR.2.2.2.2.2.2 k hk).f
    by_cases hkq : k = q
    · subst hkq
      have f := (aP k hk).f
      have hc : ∀ j, σ' (B + 5 + 1 + 3 * k) j = mPress σ (B + 5 + 1 + 3 * k) z (B + 5 + 1 + 3 * k) j := fun j => by
        rw [← hσ', up_ne _ _ (Or.inl (by omega))]
      refine ⟨fun j hj => ?_, ?_, fun j hj => ?_⟩
      · rw [hc]
        unfold press1R mPress
        rcases (show j = 0 ∨ j = 1 ∨ j = 2 ∨ j = 3 ∨ j = 4 ∨ j = 5 ∨ j = 6 ∨ j = 7 ∨ j = 8 ∨ j = 9 by omega) with rfl | rfl | rfl | rfl | rfl | rfl | rfl | rfl | rfl | rfl <;> simp [up] <;> first | exact f.2.1 | exact f.2.2.1 | exact f.2.2.2.1 | exact f.2.2.2.2.1 | exact f.2.2.2.2.2.1 | exact f.2.2.2.2.2.2.1 | exact f.2.2.2.2.2.2.2.2.1 | exact f.2.2.2.2.2.2.2.2.2.1 | exact f.2.2.2.2.2.2.2.2.2.2 | (rw [if_neg (by omega)]; first | exact f.2.1 | exact f.2.2.1 | exact f.2.2.2.1 | exact f.2.2.2.2.2.1 | exact f.2.2.2.2.2.2.1 | exact f.2.2.2.2.2.2.2.2.1 | exact f.2.2.2.2.2.2.2.2.2.1)
      · rw [hc, press1R_ne (by omega)]; simp [mPress, up]; exact f.1
      · rw [press1R_ne (by omega)] at hj
        rw [hne _ (by omega) (by omega), hne _ (by omega) (by omega), press1R_ne (by omega), press1R_ne (by omega)]
        exact (aP k hk).2.2 j hj
    · exact (aP k hk).keep (hne _ (by omega) (by omega)) (hne _ (by omega) (by omega)) (hne _ (by omega) (by omega)) (fun j hj => press1R_ne (by omega)) (by omega)
