/-! a blow, over rows -/
def keptR (r : Row) (i : Nat) (s l : Int) : Row := fun n =>
  if n = 24 + 91 * i + 10 then (if r (24 + 91 * i + 10) = 40 then 40 else r (24 + 91 * i + 10) + 1)
  else if 24 + 91 * i + 11 ≤ n ∧ n < 24 + 91 * i + 51 then (if r (24 + 91 * i + 10) = 40 then (if n = 24 + 91 * i + 50 then s else r (n + 1)) else if n = 24 + 91 * i + 11 + (r (24 + 91 * i + 10)).toNat then s else r n)
  else if 24 + 91 * i + 51 ≤ n ∧ n < 24 + 91 * i + 91 then (if r (24 + 91 * i + 10) = 40 then (if n = 24 + 91 * i + 90 then l else r (n + 1)) else if n = 24 + 91 * i + 51 + (r (24 + 91 * i + 10)).toNat then l else r n)
  else r n
def struckR (r : Row) (i : Nat) (s l e hd : Int) : Row := fun n =>
  if n = 24 + 91 * i + 3 then r n + s else if n = 24 + 91 * i + 4 then r n + 1 else if n = 24 + 91 * i + 5 then l else if n = 24 + 91 * i + 6 then 0 else if n = 24 + 91 * i + 7 then r n + s
  else if n = 20 then r n + 1 else if n = 21 then r n + s else if n = 934 then r n + e else if n = 935 then r n + s * hd else keptR r i s l n
def lift1R (r : Row) (q : Nat) (z : Int) : Row := fun n =>
  if n = 24 + 91 * q + 3 then r n - z else if n = 24 + 91 * q + 6 then 1 else if n = 24 + 91 * q + 8 then r n + z else if n = 22 then r n + z else r n
def liftZ (r : Row) (p q : Nat) (z : Int) : Int := if nearB r p q = true then liftR (r (24 + 91 * q + 3)) (r (24 + 91 * p + 3)) z else 0
def liftsR (r : Row) (p : Nat) (z : Int) : Nat → Row
  | 0 => r
  | q + 1 => if 0 < liftZ (liftsR r p z q) p q z then lift1R (liftsR r p z q) q (liftZ (liftsR r p z q) p q z) else liftsR r p z q
def blowS (r : Row) (p : Nat) (h : Int) : Int := setR r (energyR r h) (r (24 + 91 * p + 3)) (r (24 + 91 * p + 2))
def hit1R (r : Row) (p : Nat) (h : Int) : Row := struckR r p (blowS r p h) (loadR r (energyR r h) (blowS r p h)) (energyR r h) (hardR r (r (24 + 91 * p + 3)))
def hitR (r : Row) (p : Nat) (h : Int) : Row := liftsR (hit1R r p h) p (byR (hit1R r p h) (blowS r p h)) (r 19).toNat
theorem struckR_low {r : Row} {i : Nat} {s l e hd : Int} {n : Nat} (h : n < 20 ∨ n = 22 ∨ n = 23) : struckR r i s l e hd n = r n := by
  unfold struckR keptR
  rw [if_neg (by omega), if_neg (by omega), if_neg (by omega), if_neg (by omega), if_neg (by omega), if_neg (by omega), if_neg (by omega), if_neg (by omega), if_neg (by omega), if_neg (by omega), if_neg (by omega), if_neg (by omega)]
theorem struckR_20 {r : Row} {i : Nat} {s l e hd : Int} : struckR r i s l e hd 20 = r 20 + 1 := by
  unfold struckR
  rw [if_neg (by omega), if_neg (by omega), if_neg (by omega), if_neg (by omega), if_neg (by omega), if_pos rfl]
theorem struckR_21 {r : Row} {i : Nat} {s l e hd : Int} : struckR r i s l e hd 21 = r 21 + s := by
  unfold struckR
  rw [if_neg (by omega), if_neg (by omega), if_neg (by omega), if_neg (by omega), if_neg (by omega), if_neg (by omega), if_pos rfl]
theorem struckR_934 {r : Row} {i : Nat} {s l e hd : Int} (hi : i < 10) : struckR r i s l e hd 934 = r 934 + e := by
  unfold struckR
  rw [if_neg (by omega), if_neg (by omega), if_neg (by omega), if_neg (by omega), if_neg (by omega), if_neg (by omega), if_neg (by omega), if_pos rfl]
theorem struckR_935 {r : Row} {i : Nat} {s l e hd : Int} (hi : i < 10) : struckR r i s l e hd 935 = r 935 + s * hd := by
  unfold struckR
  rw [if_neg (by omega), if_neg (by omega), if_neg (by omega), if_neg (by omega), if_neg (by omega), if_neg (by omega), if_neg (by omega), if_neg (by omega), if_pos rfl]
theorem struckR_other {r : Row} {i q k : Nat} {s l e hd : Int} (hq : q ≠ i) (hk : k < 91) (hq2 : q < 10) : struckR r i s l e hd (24 + 91 * q + k) = r (24 + 91 * q + k) := by
  unfold struckR keptR
  rw [if_neg (by omega), if_neg (by omega), if_neg (by omega), if_neg (by omega), if_neg (by omega), if_neg (by omega), if_neg (by omega), if_neg (by omega), if_neg (by omega), if_neg (by omega), if_neg (by omega), if_neg (by omega)]
theorem struckR_own {r : Row} {i k : Nat} {s l e hd : Int} (hi : i < 10) (hk : k < 11) : struckR r i s l e hd (24 + 91 * i + k) = if k = 3 then r (24 + 91 * i + k) + s else if k = 4 then r (24 + 91 * i + k) + 1 else if k = 5 then l else if k = 6 then 0 else if k = 7 then r (24 + 91 * i + k) + s else if k = 10 then (if r (24 + 91 * i + 10) = 40 then 40 else r (24 + 91 * i + 10) + 1) else r (24 + 91 * i + k) := by
  unfold struckR keptR
  by_cases h3 : k = 3
  · rw [if_pos (by omega), if_pos h3]
  rw [if_neg (by omega), if_neg h3]
  by_cases h4 : k = 4
  · rw [if_pos (by omega), if_pos h4]
  rw [if_neg (by omega), if_neg h4]
  by_cases h5 : k = 5
  · rw [if_pos (by omega), if_pos h5]
  rw [if_neg (by omega), if_neg h5]
  by_cases h6 : k = 6
  · rw [if_pos (by omega), if_pos h6]
  rw [if_neg (by omega), if_neg h6]
  by_cases h7 : k = 7
  · rw [if_pos (by omega), if_pos h7]
  rw [if_neg (by omega), if_neg h7]
  rw [if_neg (by omega), if_neg (by omega), if_neg (by omega), if_neg (by omega)]
  by_cases h10 : k = 10
  · rw [if_pos (by omega), if_pos h10]
  rw [if_neg (by omega), if_neg h10]
  rw [if_neg (by omega), if_neg (by omega)]
theorem struckR_sets {r : Row} {i j : Nat} {s l e hd : Int} (hi : i < 10) (hj : j < 40) : struckR r i s l e hd (24 + 91 * i + 11 + j) = if r (24 + 91 * i + 10) = 40 then (if j = 39 then s else r (24 + 91 * i + 11 + j + 1)) else if j = (r (24 + 91 * i + 10)).toNat then s else r (24 + 91 * i + 11 + j) := by
  unfold struckR keptR
  rw [if_neg (by omega), if_neg (by omega), if_neg (by omega), if_neg (by omega), if_neg (by omega), if_neg (by omega), if_neg (by omega), if_neg (by omega), if_neg (by omega), if_neg (by omega), if_pos (by omega)]
  by_cases h : r (24 + 91 * i + 10) = 40
  · rw [if_pos h, if_pos h]
    by_cases h2 : j = 39
    · rw [if_pos (by omega), if_pos h2]
    · rw [if_neg (by omega), if_neg h2]
  · rw [if_neg h, if_neg h]
    by_cases h2 : j = (r (24 + 91 * i + 10)).toNat
    · rw [if_pos (by omega), if_pos h2]
    · rw [if_neg (by omega), if_neg h2]
theorem struckR_loads {r : Row} {i j : Nat} {s l e hd : Int} (hi : i < 10) (hj : j < 40) : struckR r i s l e hd (24 + 91 * i + 51 + j) = if r (24 + 91 * i + 10) = 40 then (if j = 39 then l else r (24 + 91 * i + 51 + j + 1)) else if j = (r (24 + 91 * i + 10)).toNat then l else r (24 + 91 * i + 51 + j) := by
  unfold struckR keptR
  rw [if_neg (by omega), if_neg (by omega), if_neg (by omega), if_neg (by omega), if_neg (by omega), if_neg (by omega), if_neg (by omega), if_neg (by omega), if_neg (by omega), if_neg (by omega), if_neg (by omega), if_pos (by omega)]
  by_cases h : r (24 + 91 * i + 10) = 40
  · rw [if_pos h, if_pos h]
    by_cases h2 : j = 39
    · rw [if_pos (by omega), if_pos h2]
    · rw [if_neg (by omega), if_neg h2]
  · rw [if_neg h, if_neg h]
    by_cases h2 : j = (r (24 + 91 * i + 10)).toNat
    · rw [if_pos (by omega), if_pos h2]
    · rw [if_neg (by omega), if_neg h2]
theorem struck_inv {r : Row} {N : Int} (hR : RInv r N) (hN : N < 400000) {i : Nat} (hi : (i : Int) < r 19) {s l e hd : Int} (hs : 0 ≤ s ∧ s ≤ 500 ∧ s ≤ r (24 + 91 * i + 2) - r (24 + 91 * i + 3)) (hl : 0 ≤ l ∧ l ≤ 100000) : RInv (struckR r i s l e hd) (N + 1) ∧ struckR r i s l e hd 22 ≤ 2250 * N := by
  have r19 := hR.2.2.2.2.1
  have hi10 : i < 10 := by omega
  obtain ⟨a0, a1, a2, a3, a4, a5, a6⟩ := hR
  refine ⟨⟨?_, ?_, ?_, ?_, ?_, ?_, ?_⟩, ?_⟩
  · rw [struckR_low (by omega)]; exact a0
  · intro j hj; rw [struckR_low (by omega)]; exact a1 j hj
  · intro j hj
    rw [struckR_low (by omega)] at hj
    rw [struckR_low (by omega), struckR_low (by omega)]; exact a2 j hj
  · rw [struckR_low (by omega), struckR_low (by omega), struckR_low (by omega), struckR_low (by omega), struckR_low (by omega), struckR_low (by omega)]; exact a3
  · rw [struckR_low (by omega)]; exact a4
  · rw [struckR_20, struckR_21, struckR_low (n := 22) (by omega), struckR_low (n := 23) (by omega)]; omega
  · intro q hq
    rw [struckR_low (by omega)] at hq
    have h6 := (a6 q hq).f
    by_cases hqi : q = i
    · subst hqi
      unfold PInv
      rw [struckR_own hi10 (by decide), struckR_own hi10 (by decide), struckR_own hi10 (by decide), struckR_own hi10 (by decide), struckR_own hi10 (by decide), struckR_own hi10 (by decide), struckR_own hi10 (by decide), struckR_own hi10 (by decide)]
      rw [Nat.add_zero] at h6
      simp
      refine ⟨by omega, by omega, by omega, by omega, by omega, by omega, ?_⟩
      split <;> omega
    · unfold PInv
      rw [struckR_other hqi (by decide) (by omega), struckR_other hqi (by decide) (by omega), struckR_other hqi (by decide) (by omega), struckR_other hqi (by decide) (by omega), struckR_other hqi (by decide) (by omega), struckR_other hqi (by decide) (by omega), struckR_other hqi (by decide) (by omega), struckR_other hqi (by decide) (by omega)]
      omega
  · rw [struckR_low (by omega)]; omega
/-! lifting -/
theorem lift1R_ne {r : Row} {q n : Nat} {z : Int} (h : n ≠ 24 + 91 * q + 3 ∧ n ≠ 24 + 91 * q + 6 ∧ n ≠ 24 + 91 * q + 8 ∧ n ≠ 22) : lift1R r q z n = r n := by
  unfold lift1R
  rw [if_neg h.1, if_neg h.2.1, if_neg h.2.2.1, if_neg h.2.2.2]
theorem liftsR_st {r : Row} {p : Nat} {z : Int} : ∀ (q n : Nat), (∀ a, a < q → n ≠ 24 + 91 * a + 3 ∧ n ≠ 24 + 91 * a + 6 ∧ n ≠ 24 + 91 * a + 8) → n ≠ 22 → liftsR r p z q n = r n
  | 0, n, _, _ => rfl
  | q + 1, n, h, h2 => by
    rw [liftsR]
    have ih := liftsR_st (r := r) (p := p) (z := z) q n (fun a ha => h a (by omega)) h2
    have hq := h q (by omega)
    split
    · rw [lift1R_ne ⟨hq.1, hq.2.1, hq.2.2, h2⟩, ih]
    · exact ih
theorem nearB_congr {r r' : Row} {p q : Nat} (h17 : r' 17 = r 17) (hp0 : r' (24 + 91 * p + 0) = r (24 + 91 * p + 0)) (hp1 : r' (24 + 91 * p + 1) = r (24 + 91 * p + 1)) (hq0 : r' (24 + 91 * q + 0) = r (24 + 91 * q + 0)) (hq1 : r' (24 + 91 * q + 1) = r (24 + 91 * q + 1)) : nearB r' p q = nearB r p q := by
  unfold nearB
  rw [h17, hp0, hp1, hq0, hq1]
theorem nearB_self (r : Row) (p : Nat) : ¬ nearB r p p = true := fun h => (nearB_iff.mp h).1 rfl
theorem liftZ_bd {r : Row} {p q : Nat} {z : Int} (hz : 0 ≤ z) : 0 ≤ liftZ r p q z ∧ liftZ r p q z ≤ z ∧ (0 < liftZ r p q z → liftZ r p q z ≤ r (24 + 91 * q + 3) ∧ q ≠ p) := by
  unfold liftZ
  by_cases h : nearB r p q = true
  · rw [if_pos h]
    have hne : q ≠ p := fun e => by subst e; exact nearB_self r _ h
    unfold liftR
    split <;> refine ⟨by omega, by omega, fun _ => ⟨by omega, hne⟩⟩
  · rw [if_neg h]
    refine ⟨by omega, hz, fun q => by omega⟩
theorem lift1_inv {r : Row} {N : Int} (hR : RInv r N) {q : Nat} {z : Int} (hq : (q : Int) < r 19) (hz : 0 ≤ z) (hz2 : z ≤ r (24 + 91 * q + 3)) (h22 : r 22 + z ≤ 2250 * N) : RInv (lift1R r q z) N := by
  have r19 := hR.2.2.2.2.1
  obtain ⟨a0, a1, a2, a3, a4, a5, a6⟩ := hR
  refine ⟨?_, ?_, ?_, ?_, ?_, ?_, ?_⟩
  · rw [lift1R_ne (by omega)]; exact a0
  · intro j hj; rw [lift1R_ne (by omega)]; exact a1 j hj
  · intro j hj
    rw [lift1R_ne (by omega)] at hj
    rw [lift1R_ne (by omega), lift1R_ne (by omega)]; exact a2 j hj
  · rw [lift1R_ne (by omega), lift1R_ne (by omega), lift1R_ne (by omega), lift1R_ne (by omega), lift1R_ne (by omega), lift1R_ne (by omega)]; exact a3
  · rw [lift1R_ne (by omega)]; exact a4
  · rw [lift1R_ne (n := 20) (by omega), lift1R_ne (n := 21) (by omega), lift1R_ne (n := 23) (by omega)]
    have e : lift1R r q z 22 = r 22 + z := by
      unfold lift1R
      rw [if_neg (by omega), if_neg (by omega), if_neg (by omega), if_pos rfl]
    rw [e]
    omega
  · intro k hk
    rw [lift1R_ne (by omega)] at hk
    have h6 := (a6 k hk).f
    by_cases hkq : k = q
    · subst hkq
      have e3 : lift1R r k z (24 + 91 * k + 3) = r (24 + 91 * k + 3) - z := by unfold lift1R; rw [if_pos rfl]
      have e6 : lift1R r k z (24 + 91 * k + 6) = 1 := by unfold lift1R; rw [if_neg (by omega), if_pos rfl]
      unfold PInv
      rw [e3, e6, lift1R_ne (by omega), lift1R_ne (by omega), lift1R_ne (by omega), lift1R_ne (by omega), lift1R_ne (by omega), lift1R_ne (by omega)]
      omega
    · unfold PInv
      rw [lift1R_ne (by omega), lift1R_ne (by omega), lift1R_ne (by omega), lift1R_ne (by omega), lift1R_ne (by omega), lift1R_ne (by omega), lift1R_ne (by omega), lift1R_ne (by omega)]
      omega
theorem lifts_inv {r : Row} {N : Int} (hR : RInv r (N + 1)) (h22 : r 22 ≤ 2250 * N) {p : Nat} (hp0 : (p : Int) < r 19) {z : Int} (hz : 0 ≤ z) (hz2 : z ≤ 250) : ∀ q : Nat, (q : Int) ≤ r 19 → RInv (liftsR r p z q) (N + 1) ∧ liftsR r p z q 19 = r 19 ∧ liftsR r p z q 22 ≤ 2250 * N + 250 * (if p < q then (q : Int) - 1 else q)
  | 0, _ => ⟨hR, rfl, by rw [liftsR]; simp; exact h22⟩
  | q + 1, hq => by
    have r19 := hR.2.2.2.2.1
    have hN := hR.2.2.2.2.2.1
    obtain ⟨i1, i2, i3⟩ := lifts_inv hR h22 hp0 hz hz2 q (by omega)
    have hb := liftZ_bd (r := liftsR r p z q) (p := p) (q := q) hz
    rw [liftsR]
    by_cases hp : 0 < liftZ (liftsR r p z q) p q z
    · rw [if_pos hp]
      have hne := (hb.2.2 hp).2
      have hk : (liftsR r p z q) 22 + liftZ (liftsR r p z q) p q z ≤ 2250 * N + 250 * (if p < q + 1 then ((q + 1 : Nat) : Int) - 1 else ((q + 1 : Nat) : Int)) := by
        by_cases h1 : p < q
        · rw [if_pos h1] at i3
          rw [if_pos (by omega)]
          omega
        · rw [if_neg h1] at i3
          rw [if_neg (by omega)]
          omega
      refine ⟨lift1_inv i1 (by omega) hb.1 (hb.2.2 hp).1 ?_, ?_, ?_⟩
      · have e : 2250 * (N + 1) = 2250 * N + 2250 := by omega
        by_cases h1 : p < q + 1
        · rw [if_pos h1] at hk; omega
        · rw [if_neg h1] at hk
          by_cases h10 : q + 1 ≤ 9
          · omega
          · omega
      · rw [lift1R_ne (by omega), i2]
      · have e : lift1R (liftsR r p z q) q (liftZ (liftsR r p z q) p q z) 22 = liftsR r p z q 22 + liftZ (liftsR r p z q) p q z := by
          unfold lift1R
          rw [if_neg (by omega), if_neg (by omega), if_neg (by omega), if_pos rfl]
        rw [e]
        exact hk
    · rw [if_neg hp]
      refine ⟨i1, i2, ?_⟩
      by_cases h1 : p < q
      · rw [if_pos h1] at i3; rw [if_pos (by omega)]; omega
      · rw [if_neg h1] at i3
        by_cases h2 : p < q + 1
        · rw [if_pos h2]; omega
        · rw [if_neg h2]; omega
