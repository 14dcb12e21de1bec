/-! the history: rooms that go round -/
def HRep (σ : Mem) (hs : Nat → Row) (n : Nat) : Prop := n ≤ 4 ∧ σ 1 1 = n ∧ (0 ≤ σ 1 2 ∧ σ 1 2 < 4) ∧ ∀ i, i < n → SRep σ (25 + 36 * (((σ 1 2).toNat + 4 - n + i) % 4 + 1)) (hs i)
def pushH (hs : Nat → Row) (n : Nat) (r : Row) : Nat → Row := fun i => if n < 4 then (if i = n then r else hs i) else if i = 3 then r else hs (i + 1)
def HInv (hs : Nat → Row) (n : Nat) (N : Int) : Prop := ∀ i, i < n → RInv (hs i) N
theorem push_inv {hs : Nat → Row} {n : Nat} {N : Int} {r : Row} (h : HInv hs n N) (hR : RInv r N) (hn : n ≤ 4) : HInv (pushH hs n r) (min 4 (n + 1)) N := by
  intro i hi
  unfold pushH
  by_cases h4 : n < 4
  · rw [if_pos h4]
    by_cases hin : i = n
    · rw [if_pos hin]; exact hR
    · rw [if_neg hin]; exact h i (by omega)
  · rw [if_neg h4]
    by_cases hin : i = 3
    · rw [if_pos hin]; exact hR
    · rw [if_neg hin]; exact h (i + 1) (by omega)
theorem HInv.mono {hs : Nat → Row} {n : Nat} {N N' : Int} (h : HInv hs n N) (hN : N ≤ N') (hM : N' ≤ 400000) : HInv hs n N' := fun i hi => (h i hi).mono hN hM
theorem push_rep {σ τ : Mem} {hs : Nat → Row} {n : Nat} {N : Int} {r : Row} {q : Nat} {a b : Int} (h : HRep σ hs n) (hI : HInv hs n N) (hq : q = (σ 1 2).toNat) (hS : SRep τ (25 + 36 * (q + 1)) r) (hR : RInv r N) (hF : frB σ τ (25 + 36 * (q + 1))) (ha : a = (σ 1 2 + 1) % 4) (hb : b = min 4 ((n : Int) + 1)) : HRep (up (up τ 1 2 a) 1 1 b) (pushH hs n r) (min 4 (n + 1)) := by
  obtain ⟨h1, h2, h3, h4⟩ := h
  have e1 : (up (up τ 1 2 a) 1 1 b) 1 1 = b := up_same _ _ _ _
  have e2 : (up (up τ 1 2 a) 1 1 b) 1 2 = a := by rw [up_ne _ _ (Or.inr (by decide)), up_same]
  have fr : ∀ x, x ≠ 1 → (up (up τ 1 2 a) 1 1 b) x = τ x := fun x hx => by rw [up_neC _ _ hx, up_neC _ _ hx]
  refine ⟨by omega, by rw [e1, hb]; omega, by rw [e2]; omega, fun i hi => ?_⟩
  rw [e2]
  unfold pushH
  by_cases hn4 : n < 4
  · rw [if_pos hn4]
    by_cases hin : i = n
    · rw [if_pos hin]
      rw [show (a.toNat + 4 - min 4 (n + 1) + i) % 4 = q by omega]
      exact hS.fr hR (fun x _ _ => fr x (by omega))
    · rw [if_neg hin]
      have e : (a.toNat + 4 - min 4 (n + 1) + i) % 4 = ((σ 1 2).toNat + 4 - n + i) % 4 := by omega
      rw [e]
      exact (h4 i (by omega)).fr (hI i (by omega)) (fun x _ _ => by rw [fr x (by omega)]; exact hF x (by omega))
  · rw [if_neg hn4]
    by_cases hin : i = 3
    · rw [if_pos hin]
      rw [show (a.toNat + 4 - min 4 (n + 1) + i) % 4 = q by omega]
      exact hS.fr hR (fun x _ _ => fr x (by omega))
    · rw [if_neg hin]
      have e : (a.toNat + 4 - min 4 (n + 1) + i) % 4 = ((σ 1 2).toNat + 4 - n + (i + 1)) % 4 := by omega
      rw [e]
      exact (h4 (i + 1) (by omega)).fr (hI (i + 1) (by omega)) (fun x _ _ => by rw [fr x (by omega)]; exact hF x (by omega))
theorem pop_rep {σ τ : Mem} {hs : Nat → Row} {n : Nat} {N : Int} {a b : Int} (h : HRep σ hs (n + 1)) (hI : HInv hs (n + 1) N) (hF : frB σ τ 25) (ha : a = (σ 1 2 + 4 - 1) % 4) (hb : b = n) : HRep (up (up τ 1 2 a) 1 1 b) hs n := by
  obtain ⟨h1, h2, h3, h4⟩ := h
  have e1 : (up (up τ 1 2 a) 1 1 b) 1 1 = b := up_same _ _ _ _
  have e2 : (up (up τ 1 2 a) 1 1 b) 1 2 = a := by rw [up_ne _ _ (Or.inr (by decide)), up_same]
  have fr : ∀ x, x ≠ 1 → (up (up τ 1 2 a) 1 1 b) x = τ x := fun x hx => by rw [up_neC _ _ hx, up_neC _ _ hx]
  refine ⟨by omega, by rw [e1, hb], by rw [e2]; omega, fun i hi => ?_⟩
  rw [e2]
  have e : (a.toNat + 4 - n + i) % 4 = ((σ 1 2).toNat + 4 - (n + 1) + i) % 4 := by omega
  rw [e]
  exact (h4 i (by omega)).fr (hI i (by omega)) (fun x _ _ => by rw [fr x (by omega)]; exact hF x (by omega))
theorem HRep.fr {σ τ : Mem} {hs : Nat → Row} {n : Nat} {N : Int} (h : HRep σ hs n) (hI : HInv hs n N) (hf : ∀ x, (x = 1 ∨ 61 ≤ x) → τ x = σ x) : HRep τ hs n := by
  obtain ⟨h1, h2, h3, h4⟩ := h
  have e := hf 1 (Or.inl rfl)
  refine ⟨h1, by rw [e]; exact h2, by rw [e]; exact h3, fun i hi => ?_⟩
  rw [e]
  exact (h4 i hi).fr (hI i hi) (fun x _ _ => hf x (by omega))
