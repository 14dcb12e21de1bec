/-! the reference's history -/
theorem rec_fin {μ χ : Mem} {P : Nat → Row} {m : Nat} {r : Row} (m3 : m ≤ 3) (hP : ∀ i, i < m → (∀ j, j < 934 → μ 14 (934 * i + j) = P i j) ∧ μ 16 (2 * i) = P i 934 ∧ μ 16 (2 * i + 1) = P i 935) (hr : P m = r) (c1 : ∀ j, j < 934 → χ 14 (934 * m + j) = r j) (c2 : ∀ q, q < 934 * m → χ 14 q = μ 14 q) (c3 : ∀ x, x ≠ 14 → χ x = μ x) : MH (up (up (up χ 16 (2 * ((m : Nat) : Int)).toNat (r 934)) 16 (2 * ((m : Nat) : Int) + 1).toNat (r 935)) 12 4 (((m : Nat) : Int) + 1)) P (m + 1) := by
  have e14 : (up (up (up χ 16 (2 * ((m : Nat) : Int)).toNat (r 934)) 16 (2 * ((m : Nat) : Int) + 1).toNat (r 935)) 12 4 (((m : Nat) : Int) + 1)) 14 = χ 14 := by
    rw [up_neC _ _ (by decide), up_neC _ _ (by decide), up_neC _ _ (by decide)]
  have e16 : ∀ q, q < 2 * m → (up (up (up χ 16 (2 * ((m : Nat) : Int)).toNat (r 934)) 16 (2 * ((m : Nat) : Int) + 1).toNat (r 935)) 12 4 (((m : Nat) : Int) + 1)) 16 q = μ 16 q := fun q hq => by
    rw [up_ne _ _ (Or.inl (by decide)), up_ne _ _ (Or.inr (by omega)), up_ne _ _ (Or.inr (by omega)), c3 16 (by decide)]
  refine ⟨by omega, by rw [up_same]; omega, fun i hi => ?_⟩
  rw [e14]
  by_cases him : i = m
  · subst him
    rw [hr]
    refine ⟨c1, ?_, ?_⟩
    · rw [up_ne _ _ (Or.inl (by decide)), up_ne _ _ (Or.inr (by omega)), show (2 * ((i : Nat) : Int)).toNat = 2 * i by omega, up_same]
    · rw [up_ne _ _ (Or.inl (by decide)), show (2 * ((i : Nat) : Int) + 1).toNat = 2 * i + 1 by omega, up_same]
  · have h := hP i (by omega)
    refine ⟨fun j hj => ?_, ?_, ?_⟩
    · rw [c2 _ (by omega)]; exact h.1 j hj
    · rw [e16 _ (by omega)]; exact h.2.1
    · rw [e16 _ (by omega)]; exact h.2.2
theorem MRep.chg {σ τ σ' : Mem} {s : St} {r' : Row} (hM : MRep σ s) (hH : MH τ (pushH s.2.1 s.2.2.1 s.1) (min 4 (s.2.2.1 + 1))) (hF : ∀ x, x ≠ 12 → x ≠ 14 → x ≠ 16 → τ x = σ x) (hG : ∀ j, j ≠ 4 → τ 12 j = σ 12 j) (hR : RR σ' r') (hFr : frR τ σ') : MRep σ' (chS s r') ∧ frC σ σ' := by
  obtain ⟨h1, h2, h3⟩ := hM
  refine ⟨⟨hR, ?_, ?_⟩, fun x hx => by rw [hFr x (by omega) (by omega), hF x (by omega) (by omega) (by omega)]⟩
  · unfold MH
    rw [hFr 12 (by decide) (by decide), hFr 14 (by decide) (by decide), hFr 16 (by decide) (by decide)]
    exact hH
  · unfold MT
    rw [hFr 12 (by decide) (by decide), hFr 17 (by decide) (by decide), hG 6 (by decide), hF 17 (by decide) (by decide) (by decide)]
    exact h3
theorem frC.refl {σ : Mem} : frC σ σ := fun _ _ => rfl
theorem put_eq {r : Row} {k : Nat} {t h c : Int} (hk : k < 6) (hc : c = max (r 0) (k + 1)) (n : Nat) : putR r k t h n = rs1 (rs1 (rs1 r (1 + k) t) (7 + k) h) 0 c n := by
  unfold putR rs1
  by_cases h0 : n = 0
  · rw [if_neg (by omega), if_neg (by omega), if_pos h0, if_pos h0, hc]
  rw [if_neg h0, if_neg h0]
  by_cases h7 : n = 7 + k
  · rw [if_neg (by omega), if_pos h7, if_pos h7]
  rw [if_neg h7, if_neg h7]
theorem cut_eq {r : Row} (n : Nat) : cutR r n = rs1 r 0 (r 0 - 1) n := by
  unfold cutR rs1; rfl
theorem sett_eq {r : Row} {k : Nat} {v : Int} (n : Nat) : settR r k v n = rs1 r (13 + k) v n := by
  unfold settR rs1; rfl
def zeroR (r : Row) (P k : Nat) : Row := fun n => if 24 + 91 * P ≤ n ∧ n < 24 + 91 * P + k then 0 else r n
theorem zeroR_step {r : Row} {P k : Nat} (n : Nat) : zeroR r P (k + 1) n = rs1 (zeroR r P k) (24 + 91 * P + k) 0 n := by
  unfold zeroR rs1
  show (if _ then _ else _) = (if n = 24 + 91 * P + k then 0 else (if 24 + 91 * P ≤ n ∧ n < 24 + 91 * P + k then 0 else r n))
  by_cases h : n = 24 + 91 * P + k
  · rw [if_pos (by omega), if_pos h]
  · rw [if_neg h]
    by_cases h2 : 24 + 91 * P ≤ n ∧ n < 24 + 91 * P + k
    · rw [if_pos (by omega), if_pos h2]
    · rw [if_neg (by omega), if_neg h2]
theorem place_eq {r : Row} {x y t : Int} {P : Nat} (hP : P = (r 19).toNat) (n : Nat) : placeR r x y t n = rs1 (rs1 (rs1 (rs1 (zeroR r P 91) (24 + 91 * P + 0) x) (24 + 91 * P + 1) y) (24 + 91 * P + 2) t) 19 (r 19 + 1) n := by
  subst hP
  unfold placeR rs1 zeroR
  by_cases h19 : n = 19
  · rw [if_pos h19, if_pos h19]
  rw [if_neg h19, if_neg h19]
  by_cases h : 24 + 91 * (r 19).toNat ≤ n ∧ n < 24 + 91 * (r 19).toNat + 91
  · rw [if_pos h, if_pos h]
    by_cases h2 : n = 24 + 91 * (r 19).toNat + 2
    · rw [if_neg (by omega), if_neg (by omega), if_pos h2, if_pos h2]
    rw [if_neg h2, if_neg h2]
    by_cases h1 : n = 24 + 91 * (r 19).toNat + 1
    · rw [if_neg (by omega), if_pos h1, if_pos h1]
    rw [if_neg h1, if_neg h1]
  · rw [if_neg h, if_neg h, if_neg (by omega), if_neg (by omega), if_neg (by omega)]
theorem press_eq {r : Row} {P : Nat} {z : Int} (n : Nat) : press1R r P z n = rs1 (rs1 (rs1 (rs1 r (24 + 91 * P + 3) (r (24 + 91 * P + 3) + z)) (24 + 91 * P + 6) 0) (24 + 91 * P + 9) (r (24 + 91 * P + 9) + z)) 23 (r 23 + z) n := by
  unfold press1R rs1
  by_cases h1 : n = 23
  · rw [if_neg (by omega), if_neg (by omega), if_neg (by omega), if_pos h1, if_pos h1, h1]
  rw [if_neg h1, if_neg h1]
  by_cases h2 : n = 24 + 91 * P + 9
  · rw [if_neg (by omega), if_neg (by omega), if_pos h2, if_pos h2, h2]
  rw [if_neg h2, if_neg h2]
  by_cases h3 : n = 24 + 91 * P + 6
  · rw [if_neg (by omega), if_pos h3, if_pos h3]
  rw [if_neg h3, if_neg h3]
  by_cases h4 : n = 24 + 91 * P + 3
  · rw [if_pos h4, if_pos h4, h4]
  rw [if_neg h4, if_neg h4]
