/-! what the reference holds of a state -/
def RR (σ : Mem) (r : Row) : Prop := (∀ j, j < 934 → σ 13 j = r j) ∧ σ 15 0 = r 934 ∧ σ 15 1 = r 935
theorem RR.at {σ : Mem} {r : Row} (h : RR σ r) {m n : Nat} (hn : n < 934) (hm : m = n) : σ 13 m = r n := by
  subst hm
  exact h.1 _ hn
def rs1 (r : Row) (n : Nat) (v : Int) : Row := fun m => if m = n then v else r m
theorem RR.put {σ : Mem} {r : Row} (h : RR σ r) {n : Nat} {v : Int} (hn : n < 934) : RR (up σ 13 n v) (rs1 r n v) := by
  refine ⟨fun j hj => ?_, ?_, ?_⟩
  · unfold rs1
    by_cases e : j = n
    · subst e; rw [up_same, if_pos rfl]
    · rw [up_ne _ _ (Or.inr e), if_neg e]; exact h.1 j hj
  · unfold rs1; rw [up_ne _ _ (Or.inl (by decide)), if_neg (by omega)]; exact h.2.1
  · unfold rs1; rw [up_ne _ _ (Or.inl (by decide)), if_neg (by omega)]; exact h.2.2
theorem RR.fr {σ τ : Mem} {r : Row} (h : RR σ r) (h13 : τ 13 = σ 13) (h15 : τ 15 = σ 15) : RR τ r := by
  unfold RR
  rw [h13, h15]
  exact h
theorem RR.congr {σ : Mem} {r r' : Row} (h : RR σ r) (he : ∀ n, n < 936 → r' n = r n) : RR σ r' :=
  ⟨fun j hj => by rw [he j (by omega)]; exact h.1 j hj, by rw [he 934 (by omega)]; exact h.2.1, by rw [he 935 (by omega)]; exact h.2.2⟩
def MH (σ : Mem) (hs : Nat → Row) (n : Nat) : Prop := n ≤ 4 ∧ σ 12 4 = n ∧ ∀ i, i < n → (∀ j, j < 934 → σ 14 (934 * i + j) = hs i j) ∧ σ 16 (2 * i) = hs i 934 ∧ σ 16 (2 * i + 1) = hs i 935
def MT (σ : Mem) (L : Nat) (t : Nat → Int) : Prop := L ≤ 80 ∧ σ 12 6 = L ∧ ∀ j, j < L → σ 17 j = t j
def MRep (σ : Mem) (s : St) : Prop := RR σ s.1 ∧ MH σ s.2.1 s.2.2.1 ∧ MT σ s.2.2.2.1 s.2.2.2.2
theorem MRep.fr {σ τ : Mem} {s : St} (h : MRep σ s) (hf : frM σ τ) : MRep τ s := by
  obtain ⟨h1, h2, h3⟩ := h
  have e12 := hf 12 (by omega) (by omega)
  have e13 := hf 13 (by omega) (by omega)
  have e14 := hf 14 (by omega) (by omega)
  have e15 := hf 15 (by omega) (by omega)
  have e16 := hf 16 (by omega) (by omega)
  have e17 := hf 17 (by omega) (by omega)
  refine ⟨h1.fr e13 e15, ?_, ?_⟩
  · unfold MH; rw [e12, e14, e16]; exact h2
  · unfold MT; rw [e12, e17]; exact h3
/-- what is written in the row and the sums alone -/
def frR (σ σ' : Mem) : Prop := ∀ x, x ≠ 13 → x ≠ 15 → σ' x = σ x
theorem frR.refl {σ : Mem} : frR σ σ := fun _ _ _ => rfl
theorem frR.trans {σ σ1 σ2 : Mem} (h1 : frR σ σ1) (h2 : frR σ1 σ2) : frR σ σ2 := fun x a b => (h2 x a b).trans (h1 x a b)
theorem frR.up {σ σ' : Mem} {c j : Nat} {z : Int} (h : frR σ σ') (hc : c = 13 ∨ c = 15) : frR σ (up σ' c j z) := fun x a b => by
  rw [up_neC _ _ (by omega)]
  exact h x a b
theorem adist2 (a b : Int) : (if a < b then b - a else a - b) = adist a b := by
  unfold adist
  by_cases h : a < b
  · rw [if_pos h, if_neg (by omega)]; omega
  · rw [if_neg h, if_pos (by omega)]
