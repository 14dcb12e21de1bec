/-! the search's steps -/
theorem srch_keep {r : Row} {N h : Int} {b k : Nat} {ls m : Int} (hR : RInv r N) (h5 : (freshL r).length < 6) (hb : b ≤ 20) (hk : k < fac (freshL r).length) (hA : (k = 0 ∧ ls = 2147483647) ∨ (1 ≤ k ∧ ls = (bestF r h b (k - 1)).1)) (mA : totF r h b k < ls → m = totF r h b k) (hm : ls ≤ m) (m1 : m ≤ 250000) : 1 ≤ k ∧ bestF r h b k = bestF r h b (k - 1) := by
  have t := tot_b hR h5 hk (h := h) hb
  have hnt : ¬ totF r h b k < ls := fun q => by have := mA q; omega
  have hk1 : 1 ≤ k := by omega
  refine ⟨hk1, ?_⟩
  obtain ⟨q, rfl⟩ : ∃ q, k = q + 1 := ⟨k - 1, by omega⟩
  rw [Nat.add_sub_cancel] at hA ⊢
  rw [bestF, if_neg (by omega)]
theorem srch_new {r : Row} {N h : Int} {b k : Nat} {ls m : Int} (hR : RInv r N) (h5 : (freshL r).length < 6) (hb : b ≤ 20) (hk : k < fac (freshL r).length) (hA : (k = 0 ∧ ls = 2147483647) ∨ (1 ≤ k ∧ ls = (bestF r h b (k - 1)).1)) (mA : totF r h b k < ls → m = totF r h b k) (mB : ls ≤ totF r h b k → ls ≤ m) (hm : m < ls) : bestF r h b k = (m, k) := by
  have hnt : totF r h b k < ls := by
    by_cases q : ls ≤ totF r h b k
    · have := mB q; omega
    · omega
  have e := mA hnt
  cases k with
  | zero => rw [bestF, e]
  | succ q =>
    rw [Nat.add_sub_cancel] at hA
    rw [bestF, if_pos (by omega), e]
theorem last_of {r : Row} {h : Int} {b k : Nat} (h5 : (freshL r).length < 6) (hk : k < fac (freshL r).length) (h1 : ¬ k + 1 < fac (freshL r).length) : lastB r h b = bestF r h b k := by
  unfold lastB
  rw [show fac (freshL r).length - 1 = k by omega]
theorem last_0 {r : Row} {N h : Int} {b k : Nat} (hR : RInv r N) (h5 : (freshL r).length < 6) (hb : b ≤ 20) (hk : k < fac (freshL r).length) (h0 : (bestF r h b k).1 ≤ 0) : lastB r h b = bestF r h b k :=
  best_0 hR h5 hb h0 _ (by omega) (by omega)
