/-! which cell of the layout is of which kind -/
theorem fk0 : isK 0 0 := ⟨by decide, by decide⟩
theorem fl0 : ln 0 = 0 := by decide
theorem fk1 : isK 1 1 := ⟨by decide, by decide⟩
theorem fl1 : ln 1 = 0 := by decide
theorem fk2 : isK 2 2 := ⟨by decide, by decide⟩
theorem fl2 : ln 2 = 4 := by decide
theorem fk3 : isK 3 3 := ⟨by decide, by decide⟩
theorem fl3 : ln 3 = 0 := by decide
theorem fk4 : isK 4 4 := ⟨by decide, by decide⟩
theorem fl4 : ln 4 = 80 := by decide
theorem fk5 : isK 5 5 := ⟨by decide, by decide⟩
theorem fl5 : ln 5 = 0 := by decide
theorem fk6 : isK 13 6 := ⟨by decide, by decide⟩
theorem fl6 : ln 6 = 4 := by decide
theorem fk7 : isK 6 7 := ⟨by decide, by decide⟩
theorem fl7 : ln 7 = 0 := by decide
theorem fk8 : isK 13 8 := ⟨by decide, by decide⟩
theorem fl8 : ln 8 = 10 := by decide
theorem fk9 : isK 13 9 := ⟨by decide, by decide⟩
theorem fl9 : ln 9 = 10 := by decide
theorem fk10 : isK 13 10 := ⟨by decide, by decide⟩
theorem fl10 : ln 10 = 5 := by decide
theorem fk11 : isK 13 11 := ⟨by decide, by decide⟩
theorem fl11 : ln 11 = 5 := by decide
theorem fk12 : isK 12 12 := ⟨by decide, by decide⟩
theorem fl12 : ln 12 = 16 := by decide
theorem st_sub : ∀ B, B < 205 → kd B = 8 → (25 ≤ B ∧ (B - 25) % 36 = 0 ∧ B < 170) ∧ (B + 1 < 205 ∧ kd (B + 1) = 9) ∧ (B + 4 < 205 ∧ kd (B + 4) = 13) ∧ ln (B + 4) = 6 ∧ (B + 5 < 205 ∧ kd (B + 5) = 10) ∧ ∀ i, i < 10 → (B + 5 + 1 + 3 * i < 205 ∧ kd (B + 5 + 1 + 3 * i) = 11) := by decide +kernel
theorem gr_sub : ∀ B, B < 205 → kd B = 9 → (B + 1 < 205 ∧ kd (B + 1) = 13) ∧ ln (B + 1) = 6 ∧ (B + 2 < 205 ∧ kd (B + 2) = 13) ∧ ln (B + 2) = 6 := by decide +kernel
theorem pl_sub : ∀ B, B < 205 → kd B = 11 → (B + 1 < 205 ∧ kd (B + 1) = 13) ∧ ln (B + 1) = 40 ∧ (B + 2 < 205 ∧ kd (B + 2) = 13) ∧ ln (B + 2) = 40 := by decide +kernel
theorem st1 {B : Nat} (h : isK 8 B) : isK 9 (B + 1) := (st_sub B h.1 h.2).2.1
theorem st4 {B : Nat} (h : isK 8 B) : isK 13 (B + 4) := (st_sub B h.1 h.2).2.2.1
theorem st4l {B : Nat} (h : isK 8 B) : ln (B + 4) = 6 := (st_sub B h.1 h.2).2.2.2.1
theorem st5 {B : Nat} (h : isK 8 B) : isK 10 (B + 5) := (st_sub B h.1 h.2).2.2.2.2.1
theorem stP {B : Nat} (h : isK 8 B) (i : Nat) (hi : i < 10) : isK 11 (B + 5 + 1 + 3 * i) := (st_sub B h.1 h.2).2.2.2.2.2 i hi
theorem gr1 {B : Nat} (h : isK 9 B) : isK 13 (B + 1) := (gr_sub B h.1 h.2).1
theorem gr1l {B : Nat} (h : isK 9 B) : ln (B + 1) = 6 := (gr_sub B h.1 h.2).2.1
theorem gr2 {B : Nat} (h : isK 9 B) : isK 13 (B + 2) := (gr_sub B h.1 h.2).2.2.1
theorem gr2l {B : Nat} (h : isK 9 B) : ln (B + 2) = 6 := (gr_sub B h.1 h.2).2.2.2
theorem pl1 {B : Nat} (h : isK 11 B) : isK 13 (B + 1) := (pl_sub B h.1 h.2).1
theorem pl1l {B : Nat} (h : isK 11 B) : ln (B + 1) = 40 := (pl_sub B h.1 h.2).2.1
theorem pl2 {B : Nat} (h : isK 11 B) : isK 13 (B + 2) := (pl_sub B h.1 h.2).2.2.1
theorem pl2l {B : Nat} (h : isK 11 B) : ln (B + 2) = 40 := (pl_sub B h.1 h.2).2.2.2
theorem room_k : ∀ i, i < 4 → isK 8 (25 + 36 * (i + 1)) := fun i hi => ⟨by omega, by
  have h : ∀ i, i < 4 → kd (25 + 36 * (i + 1)) = 8 := by decide +kernel
  exact h i hi⟩
theorem now_k : isK 8 25 := ⟨by decide, by decide⟩
/-- a read past a write elsewhere; at the place -/
theorem up_ne1 {σ : Mem} {c j c' j' : Nat} {z w : Int} (h : c' ≠ c) (k : σ c' j' = w) : up σ c j z c' j' = w := (up_ne σ z (Or.inl h)).trans k
theorem up_ne2 {σ : Mem} {c j c' j' : Nat} {z w : Int} (h : j' ≠ j) (k : σ c' j' = w) : up σ c j z c' j' = w := (up_ne σ z (Or.inr h)).trans k
theorem cpy_ne {σ : Mem} {a sp b dp n c j : Nat} {w : Int} (h : c ≠ b) (k : σ c j = w) : cpy σ a sp b dp n c j = w := by
  unfold cpy
  rw [if_neg (fun q => h q.1)]
  exact k
