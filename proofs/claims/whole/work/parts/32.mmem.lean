/-! the reference's writes, as rows -/
theorem RR.sum0 {σ : Mem} {r : Row} (h : RR σ r) {v : Int} : RR (up σ 15 0 v) (rs1 r 934 v) := by
  refine ⟨fun j hj => ?_, ?_, ?_⟩
  · unfold rs1; rw [up_ne _ _ (Or.inl (by decide)), if_neg (by omega)]; exact h.1 j hj
  · unfold rs1; rw [up_same, if_pos rfl]
  · unfold rs1; rw [up_ne _ _ (Or.inr (by decide)), if_neg (by omega)]; exact h.2.2
theorem RR.sum1 {σ : Mem} {r : Row} (h : RR σ r) {v : Int} : RR (up σ 15 1 v) (rs1 r 935 v) := by
  refine ⟨fun j hj => ?_, ?_, ?_⟩
  · unfold rs1; rw [up_ne _ _ (Or.inl (by decide)), if_neg (by omega)]; exact h.1 j hj
  · unfold rs1; rw [up_ne _ _ (Or.inr (by decide)), if_neg (by omega)]; exact h.2.1
  · unfold rs1; rw [up_same, if_pos rfl]
/-- the kept blows moved, the first k - 1 of them -/
def shR (r : Row) (P k : Nat) : Row := fun n => if 24 + 91 * P + 11 ≤ n ∧ n < 24 + 91 * P + 11 + (k - 1) then r (n + 1) else if 24 + 91 * P + 51 ≤ n ∧ n < 24 + 91 * P + 51 + (k - 1) then r (n + 1) else r n
theorem shR_step {r : Row} {P k : Nat} (hk : 1 ≤ k) (hk2 : k < 40) (n : Nat) : shR r P (k + 1) n = rs1 (rs1 (shR r P k) (24 + 91 * P + 11 + (k - 1)) (shR r P k (24 + 91 * P + 11 + k))) (24 + 91 * P + 51 + (k - 1)) (rs1 (shR r P k) (24 + 91 * P + 11 + (k - 1)) (shR r P k (24 + 91 * P + 11 + k)) (24 + 91 * P + 51 + k)) n := by
  have e1 : shR r P k (24 + 91 * P + 11 + k) = r (24 + 91 * P + 11 + k) := by
    unfold shR; rw [if_neg (by omega), if_neg (by omega)]
  have e2 : rs1 (shR r P k) (24 + 91 * P + 11 + (k - 1)) (shR r P k (24 + 91 * P + 11 + k)) (24 + 91 * P + 51 + k) = r (24 + 91 * P + 51 + k) := by
    unfold rs1; rw [if_neg (by omega)]; unfold shR; rw [if_neg (by omega), if_neg (by omega)]
  rw [e2, e1]
  unfold rs1 shR
  by_cases h1 : n = 24 + 91 * P + 51 + (k - 1)
  · rw [if_neg (by omega), if_pos (by omega), if_pos h1]; exact congrArg r (by omega)
  · rw [if_neg h1]
    by_cases h2 : n = 24 + 91 * P + 11 + (k - 1)
    · rw [if_pos (by omega), if_pos h2]; exact congrArg r (by omega)
    · rw [if_neg h2]
      by_cases h3 : 24 + 91 * P + 11 ≤ n ∧ n < 24 + 91 * P + 11 + (k - 1)
      · rw [if_pos (by omega), if_pos h3]
      · rw [if_neg (by omega), if_neg h3]
        by_cases h4 : 24 + 91 * P + 51 ≤ n ∧ n < 24 + 91 * P + 51 + (k - 1)
        · rw [if_pos (by omega), if_pos h4]
        · rw [if_neg (by omega), if_neg h4]
theorem kept_full {r : Row} {P : Nat} {s l : Int} (h : r (24 + 91 * P + 10) = 40) (n : Nat) : keptR r P s l n = rs1 (rs1 (rs1 (rs1 (shR r P 40) (24 + 91 * P + 10) 39) (24 + 91 * P + 50) s) (24 + 91 * P + 90) l) (24 + 91 * P + 10) 40 n := by
  unfold keptR rs1 shR
  rw [if_pos h, if_pos h, if_pos h]
  by_cases h1 : n = 24 + 91 * P + 10
  · rw [if_pos h1, if_pos h1]
  rw [if_neg h1, if_neg h1]
  by_cases h2 : n = 24 + 91 * P + 90
  · rw [if_neg (by omega), if_pos (by omega), if_pos h2, if_pos h2]
  rw [if_neg h2, if_neg h2]
  by_cases h3 : n = 24 + 91 * P + 50
  · rw [if_pos (by omega), if_pos h3, if_pos h3]
  rw [if_neg h3, if_neg h3, if_neg h1]
  by_cases h4 : 24 + 91 * P + 11 ≤ n ∧ n < 24 + 91 * P + 51
  · rw [if_pos h4, if_pos (by omega)]
  rw [if_neg h4]
  rw [if_neg (show ¬ (24 + 91 * P + 11 ≤ n ∧ n < 24 + 91 * P + 11 + (40 - 1)) by omega)]
  by_cases h5 : 24 + 91 * P + 51 ≤ n ∧ n < 24 + 91 * P + 91
  · rw [if_pos h5, if_pos (by omega)]
  · rw [if_neg h5, if_neg (by omega)]
theorem kept_part {r : Row} {P : Nat} {s l : Int} (h : ¬ r (24 + 91 * P + 10) = 40) (h0 : 0 ≤ r (24 + 91 * P + 10)) (h1 : r (24 + 91 * P + 10) ≤ 40) (n : Nat) : keptR r P s l n = rs1 (rs1 (rs1 r (24 + 91 * P + 11 + (r (24 + 91 * P + 10)).toNat) s) (24 + 91 * P + 51 + (r (24 + 91 * P + 10)).toNat) l) (24 + 91 * P + 10) (r (24 + 91 * P + 10) + 1) n := by
  unfold keptR rs1
  rw [if_neg h, if_neg h, if_neg h]
  by_cases h1 : n = 24 + 91 * P + 10
  · rw [if_pos h1, if_pos h1]
  rw [if_neg h1, if_neg h1]
  by_cases h2 : n = 24 + 91 * P + 51 + (r (24 + 91 * P + 10)).toNat
  · rw [if_neg (by omega), if_pos (by omega), if_pos h2, if_pos h2]
  rw [if_neg h2, if_neg h2]
  by_cases h3 : n = 24 + 91 * P + 11 + (r (24 + 91 * P + 10)).toNat
  · rw [if_pos (by omega), if_pos h3]
  rw [if_neg h3]
  split
  · rfl
  · split <;> rfl
theorem lift1_eq {r : Row} {q : Nat} {z : Int} (n : Nat) : lift1R r q z n = rs1 (rs1 (rs1 (rs1 r (24 + 91 * q + 3) (r (24 + 91 * q + 3) - z)) (24 + 91 * q + 6) 1) (24 + 91 * q + 8) (r (24 + 91 * q + 8) + z)) 22 (r 22 + z) n := by
  unfold lift1R rs1
  by_cases h1 : n = 22
  · rw [if_neg (by omega), if_neg (by omega), if_neg (by omega), if_pos h1, if_pos h1, h1]
  rw [if_neg h1, if_neg h1]
  by_cases h2 : n = 24 + 91 * q + 8
  · rw [if_neg (by omega), if_neg (by omega), if_pos h2, if_pos h2, h2]
  rw [if_neg h2, if_neg h2]
  by_cases h3 : n = 24 + 91 * q + 6
  · rw [if_neg (by omega), if_pos h3, if_pos h3]
  rw [if_neg h3, if_neg h3]
  by_cases h4 : n = 24 + 91 * q + 3
  · rw [if_pos h4, if_pos h4, h4]
  rw [if_neg h4, if_neg h4]
/-- the row of a blow, in the reference's order -/
def blow5R (r : Row) (P : Nat) (s l : Int) : Row := rs1 (rs1 (rs1 (rs1 (rs1 r (24 + 91 * P + 3) (r (24 + 91 * P + 3) + s)) (24 + 91 * P + 4) (r (24 + 91 * P + 4) + 1)) (24 + 91 * P + 5) l) (24 + 91 * P + 6) 0) (24 + 91 * P + 7) (r (24 + 91 * P + 7) + s)
theorem blow5_ne {r : Row} {P n : Nat} {s l : Int} (h : n ≠ 24 + 91 * P + 3 ∧ n ≠ 24 + 91 * P + 4 ∧ n ≠ 24 + 91 * P + 5 ∧ n ≠ 24 + 91 * P + 6 ∧ n ≠ 24 + 91 * P + 7) : blow5R r P s l n = r n := by
  unfold blow5R rs1
  rw [if_neg h.2.2.2.2, if_neg h.2.2.2.1, if_neg h.2.2.1, if_neg h.2.1, if_neg h.1]
theorem kept5 {r : Row} {P n : Nat} {s l : Int} : keptR (blow5R r P s l) P s l n = if n = 24 + 91 * P + 3 then r n + s else if n = 24 + 91 * P + 4 then r n + 1 else if n = 24 + 91 * P + 5 then l else if n = 24 + 91 * P + 6 then 0 else if n = 24 + 91 * P + 7 then r n + s else keptR r P s l n := by
  have e10 : blow5R r P s l (24 + 91 * P + 10) = r (24 + 91 * P + 10) := blow5_ne (by omega)
  by_cases h3 : 24 + 91 * P + 3 ≤ n ∧ n ≤ 24 + 91 * P + 7
  · have e : keptR (blow5R r P s l) P s l n = blow5R r P s l n := by
      unfold keptR
      rw [if_neg (by omega), if_neg (by omega), if_neg (by omega)]
    rw [e]
    unfold blow5R rs1
    rcases (show n = 24 + 91 * P + 3 ∨ n = 24 + 91 * P + 4 ∨ n = 24 + 91 * P + 5 ∨ n = 24 + 91 * P + 6 ∨ n = 24 + 91 * P + 7 by omega) with h | h | h | h | h <;> subst h <;> simp
  · rw [if_neg (by omega), if_neg (by omega), if_neg (by omega), if_neg (by omega), if_neg (by omega)]
    unfold keptR
    rw [e10]
    by_cases h1 : n = 24 + 91 * P + 10
    · rw [if_pos h1, if_pos h1]
    rw [if_neg h1, if_neg h1]
    by_cases h4 : 24 + 91 * P + 11 ≤ n ∧ n < 24 + 91 * P + 51
    · rw [if_pos h4, if_pos h4, blow5_ne (by omega), blow5_ne (by omega)]
    rw [if_neg h4, if_neg h4]
    by_cases h5 : 24 + 91 * P + 51 ≤ n ∧ n < 24 + 91 * P + 91
    · rw [if_pos h5, if_pos h5, blow5_ne (by omega), blow5_ne (by omega)]
    rw [if_neg h5, if_neg h5, blow5_ne (by omega)]
theorem struck_eq {r : Row} {P : Nat} (hP : P < 10) {s l e hd : Int} {ρ : Row} (hρ : ρ = keptR (blow5R r P s l) P s l) (n : Nat) : struckR r P s l e hd n = rs1 (rs1 (rs1 (rs1 ρ 20 (ρ 20 + 1)) 21 (ρ 21 + s)) 934 (ρ 934 + e)) 935 (ρ 935 + s * hd) n := by
  have k : ∀ n, (n < 24 ∨ 934 ≤ n) → ρ n = r n := fun n hn => by
    rw [hρ, kept5, if_neg (by omega), if_neg (by omega), if_neg (by omega), if_neg (by omega), if_neg (by omega)]
    unfold keptR
    rw [if_neg (by omega), if_neg (by omega), if_neg (by omega)]
  unfold struckR rs1
  by_cases h20 : n = 20
  · rw [if_neg (by omega), if_neg (by omega), if_neg (by omega), if_neg (by omega), if_neg (by omega), if_pos h20, if_neg (by omega), if_neg (by omega), if_neg (by omega), if_pos h20, k 20 (by omega), h20]
  by_cases h21 : n = 21
  · rw [if_neg (by omega), if_neg (by omega), if_neg (by omega), if_neg (by omega), if_neg (by omega), if_neg h20, if_pos h21, if_neg (by omega), if_neg (by omega), if_pos h21, k 21 (by omega), h21]
  by_cases h34 : n = 934
  · rw [if_neg (by omega), if_neg (by omega), if_neg (by omega), if_neg (by omega), if_neg (by omega), if_neg h20, if_neg h21, if_pos h34, if_neg (by omega), if_pos h34, k 934 (by omega), h34]
  by_cases h35 : n = 935
  · rw [if_neg (by omega), if_neg (by omega), if_neg (by omega), if_neg (by omega), if_neg (by omega), if_neg h20, if_neg h21, if_neg h34, if_pos h35, if_pos h35, k 935 (by omega), h35]
  simp only [if_neg h20, if_neg h21, if_neg h34, if_neg h35]
  rw [hρ, kept5]
