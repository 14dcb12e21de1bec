/-! orders of driving: fresh piles, their rows one after another, lifts on feet apart -/
def filt (p : Nat → Bool) : Nat → List Nat
  | 0 => []
  | n + 1 => if p n = true then filt p n ++ [n] else filt p n
theorem filt_len (p : Nat → Bool) : ∀ n, ((filt p n).length : Int) = cnt p n
  | 0 => by simp [filt, cnt]
  | n + 1 => by
    have := filt_len p n
    rw [filt, cnt]
    split
    · rw [List.length_append, List.length_singleton]; omega
    · omega
theorem filt_lt (p : Nat → Bool) : ∀ (n i : Nat), i < (filt p n).length → (filt p n).getD i 0 < n ∧ p ((filt p n).getD i 0) = true
  | 0, i, h => by simp [filt] at h
  | n + 1, i, h => by
    rw [filt] at h ⊢
    by_cases q : p n = true
    · rw [if_pos q] at h ⊢
      rw [List.length_append, List.length_singleton] at h
      by_cases e : i < (filt p n).length
      · have := filt_lt p n i e
        rw [List.getD_eq_getElem?_getD, List.getElem?_append_left e, ← List.getD_eq_getElem?_getD]
        exact ⟨by omega, this.2⟩
      · have e2 : i = (filt p n).length := by omega
        subst e2
        simp [q]
    · rw [if_neg q] at h ⊢
      have := filt_lt p n i h
      exact ⟨by omega, this.2⟩
theorem filt_mono (p : Nat → Bool) : ∀ (n i j : Nat), i < j → j < (filt p n).length → (filt p n).getD i 0 < (filt p n).getD j 0
  | 0, i, j, _, h => by simp [filt] at h
  | n + 1, i, j, hij, h => by
    rw [filt] at h ⊢
    by_cases q : p n = true
    · rw [if_pos q] at h ⊢
      rw [List.length_append, List.length_singleton] at h
      have hi : i < (filt p n).length := by omega
      rw [List.getD_eq_getElem?_getD, List.getElem?_append_left hi, ← List.getD_eq_getElem?_getD]
      by_cases e : j < (filt p n).length
      · rw [List.getD_eq_getElem?_getD (i := j), List.getElem?_append_left e, ← List.getD_eq_getElem?_getD]
        exact filt_mono p n i j hij e
      · have e2 : j = (filt p n).length := by omega
        subst e2
        have := (filt_lt p n i hi).1
        simpa using this
    · rw [if_neg q] at h ⊢
      exact filt_mono p n i j hij h
theorem filt_snoc (p : Nat → Bool) (n : Nat) (i : Nat) (h : i < (filt p n).length) : (filt p (n + 1)).getD i 0 = (filt p n).getD i 0 := by
  rw [filt]
  split
  · rw [List.getD_eq_getElem?_getD, List.getElem?_append_left h, ← List.getD_eq_getElem?_getD]
  · rfl
theorem filt_last (p : Nat → Bool) (n : Nat) (h : p n = true) : (filt p (n + 1)).getD (filt p n).length 0 = n ∧ (filt p (n + 1)).length = (filt p n).length + 1 := by
  rw [filt, if_pos h]
  simp
theorem filt_skip (p : Nat → Bool) (n : Nat) (h : ¬ p n = true) : filt p (n + 1) = filt p n := by rw [filt, if_neg h]
/-! a blow's lifts on feet apart -/
abbrev Ft : Type := Nat → Int
def putN (ft : Ft) (q : Nat) (z : Int) : Ft := fun j => if j = q then z else ft j
def byF (r : Row) (p : Nat) (b z : Int) (ft : Ft) (q : Nat) : Int := if nearB r p q = true then liftR (ft q) b z else 0
def stF (r : Row) (p : Nat) (b z : Int) (x : Ft × Int) (q : Nat) : Ft × Int := (putN x.1 q (x.1 q - byF r p b z x.1 q), x.2 + byF r p b z x.1 q)
def liftsF (r : Row) (p : Nat) (b z : Int) (ft : Ft) : Nat → Ft × Int
  | 0 => (ft, 0)
  | n + 1 => stF r p b z (liftsF r p b z ft n) n
theorem putN_self (ft : Ft) (q : Nat) : putN ft q (ft q) = ft := by
  funext j
  unfold putN
  split
  · rename_i h; rw [h]
  · rfl
theorem stF_far {r : Row} {p : Nat} {b z : Int} {x : Ft × Int} {q : Nat} (h : ¬ nearB r p q = true) : stF r p b z x q = x := by
  unfold stF byF
  rw [if_neg h, Int.sub_zero, Int.add_zero, putN_self]
theorem liftsF_fold (r : Row) (p : Nat) (b z : Int) (ft : Ft) : ∀ n, liftsF r p b z ft n = (filt (nearB r p) n).foldl (stF r p b z) (ft, 0)
  | 0 => rfl
  | n + 1 => by
    rw [liftsF, filt, liftsF_fold r p b z ft n]
    by_cases h : nearB r p n = true
    · rw [if_pos h, List.foldl_append]; rfl
    · rw [if_neg h, stF_far h]
theorem byF_bd {r : Row} {p : Nat} {b z : Int} {ft : Ft} {q : Nat} (hz : 0 ≤ z) (hq : 0 ≤ ft q) : 0 ≤ byF r p b z ft q ∧ byF r p b z ft q ≤ z ∧ byF r p b z ft q ≤ ft q := by
  unfold byF liftR
  split
  · split <;> omega
  · omega
/-- feet between 0 and the pile's length -/
def FB (r : Row) (ft : Ft) : Prop := ∀ q : Nat, (q : Int) < r 19 → 0 ≤ ft q ∧ ft q ≤ r (24 + 91 * q + 2)
theorem stF_b {r : Row} {p : Nat} {b z : Int} {x : Ft × Int} {q : Nat} (hz : 0 ≤ z) (h : FB r x.1) (hq : (q : Int) < r 19) : FB r (stF r p b z x q).1 ∧ x.2 ≤ (stF r p b z x q).2 ∧ (stF r p b z x q).2 ≤ x.2 + z := by
  have hb := byF_bd (r := r) (p := p) (b := b) hz (h q hq).1
  refine ⟨fun j hj => ?_, by show x.2 ≤ x.2 + byF r p b z x.1 q; omega, by show x.2 + byF r p b z x.1 q ≤ x.2 + z; omega⟩
  show 0 ≤ putN x.1 q _ j ∧ putN x.1 q _ j ≤ _
  unfold putN
  split
  · rename_i e
    subst e
    have := h j hj
    omega
  · exact h j hj
theorem liftsF_b {r : Row} {p : Nat} {b z : Int} {ft : Ft} (hz : 0 ≤ z) (h : FB r ft) : ∀ n : Nat, (n : Int) ≤ r 19 → FB r (liftsF r p b z ft n).1 ∧ 0 ≤ (liftsF r p b z ft n).2 ∧ (liftsF r p b z ft n).2 ≤ n * z
  | 0, _ => ⟨h, by simp [liftsF], by simp [liftsF]⟩
  | n + 1, hn => by
    obtain ⟨a1, a2, a3⟩ := liftsF_b (p := p) (b := b) hz h n (by omega)
    obtain ⟨b1, b2, b3⟩ := stF_b (p := p) (b := b) hz a1 (q := n) (by omega)
    have e : ((n + 1 : Nat) : Int) * z = n * z + z := by rw [Int.natCast_add, Int.add_mul]; omega
    refine ⟨b1, by show 0 ≤ (stF r p b z (liftsF r p b z ft n) n).2; omega, ?_⟩
    show (stF r p b z (liftsF r p b z ft n) n).2 ≤ _
    rw [e]
    omega
/-- the struck one itself is not lifted -/
theorem liftsF_own {r : Row} {p : Nat} {b z : Int} {ft : Ft} : ∀ n : Nat, (liftsF r p b z ft n).1 p = ft p
  | 0 => rfl
  | n + 1 => by
    rw [liftsF]
    by_cases e : nearB r p n = true
    · have hne := (nearB_iff.mp e).1
      show putN (liftsF r p b z ft n).1 n _ p = ft p
      unfold putN
      rw [if_neg hne]
      exact liftsF_own n
    · rw [stF_far e]
      exact liftsF_own n
def trF (r : Row) (p : Nat) (e : Int) : Nat → Ft → Ft × Int
  | 0, ft => (ft, 0)
  | n + 1, ft => if ft p < r (24 + 91 * p + 2) then ((trF r p e n (liftsF r p (ft p + setR r e (ft p) (r (24 + 91 * p + 2))) (byR r (setR r e (ft p) (r (24 + 91 * p + 2)))) (putN ft p (ft p + setR r e (ft p) (r (24 + 91 * p + 2)))) (r 19).toNat).1).1, (liftsF r p (ft p + setR r e (ft p) (r (24 + 91 * p + 2))) (byR r (setR r e (ft p) (r (24 + 91 * p + 2)))) (putN ft p (ft p + setR r e (ft p) (r (24 + 91 * p + 2)))) (r 19).toNat).2 + (trF r p e n (liftsF r p (ft p + setR r e (ft p) (r (24 + 91 * p + 2))) (byR r (setR r e (ft p) (r (24 + 91 * p + 2)))) (putN ft p (ft p + setR r e (ft p) (r (24 + 91 * p + 2)))) (r 19).toNat).1).2) else (ft, 0)
/-- one blow on feet apart -/
def blF (r : Row) (p : Nat) (e : Int) (ft : Ft) : Ft × Int := liftsF r p (ft p + setR r e (ft p) (r (24 + 91 * p + 2))) (byR r (setR r e (ft p) (r (24 + 91 * p + 2)))) (putN ft p (ft p + setR r e (ft p) (r (24 + 91 * p + 2)))) (r 19).toNat
theorem trF_go {r : Row} {p : Nat} {e : Int} {n : Nat} {ft : Ft} (h : ft p < r (24 + 91 * p + 2)) : trF r p e (n + 1) ft = ((trF r p e n (blF r p e ft).1).1, (blF r p e ft).2 + (trF r p e n (blF r p e ft).1).2) := by
  rw [trF, if_pos h]
  rfl
theorem trF_end {r : Row} {p : Nat} {e : Int} {ft : Ft} (h : ¬ ft p < r (24 + 91 * p + 2)) : ∀ n, trF r p e n ft = (ft, 0)
  | 0 => rfl
  | n + 1 => by rw [trF, if_neg h]
theorem putN_b {r : Row} {ft : Ft} (h : FB r ft) {p : Nat} {z : Int} (hz : (p : Int) < r 19 → 0 ≤ z ∧ z ≤ r (24 + 91 * p + 2)) : FB r (putN ft p z) := by
  intro q hq
  unfold putN
  split
  · rename_i e; subst e; exact hz hq
  · exact h q hq
theorem blF_b {r : Row} {N : Int} (hR : RInv r N) {p : Nat} {e : Int} {ft : Ft} (h : FB r ft) (hp : (p : Int) < r 19) : FB r (blF r p e ft).1 ∧ 0 ≤ (blF r p e ft).2 ∧ (blF r p e ft).2 ≤ 2500 := by
  have r19 := hR.2.2.2.2.1
  have hf := h p hp
  have sb := setR_bd r e (ft p) (r (24 + 91 * p + 2)) hf.2
  have bb := (byR_bd hR sb.1 sb.2.1).2
  have hz : (((r 19).toNat : Nat) : Int) ≤ 10 := by omega
  obtain ⟨a1, a2, a3⟩ := liftsF_b (r := r) (p := p) (b := ft p + setR r e (ft p) (r (24 + 91 * p + 2))) (z := byR r (setR r e (ft p) (r (24 + 91 * p + 2)))) bb.1 (putN_b h (p := p) (z := ft p + setR r e (ft p) (r (24 + 91 * p + 2))) (fun _ => by omega)) (r 19).toNat (by omega)
  have m : (((r 19).toNat : Nat) : Int) * byR r (setR r e (ft p) (r (24 + 91 * p + 2))) ≤ 10 * 250 := Int.mul_le_mul hz bb.2 bb.1 (by decide)
  exact ⟨a1, a2, by unfold blF; omega⟩
theorem trF_b {r : Row} {N : Int} (hR : RInv r N) {p : Nat} {e : Int} (hp : (p : Int) < r 19) : ∀ (n : Nat) (ft : Ft), FB r ft → FB r (trF r p e n ft).1 ∧ 0 ≤ (trF r p e n ft).2 ∧ (trF r p e n ft).2 ≤ 2500 * n
  | 0, ft, h => ⟨h, by simp [trF], by simp [trF]⟩
  | n + 1, ft, h => by
    by_cases q : ft p < r (24 + 91 * p + 2)
    · rw [trF_go q]
      obtain ⟨a1, a2, a3⟩ := blF_b hR (e := e) h hp
      obtain ⟨b1, b2, b3⟩ := trF_b hR (e := e) hp n _ a1
      exact ⟨b1, by show 0 ≤ (blF r p e ft).2 + _; omega, by show (blF r p e ft).2 + _ ≤ _; omega⟩
    · rw [trF_end q]
      exact ⟨h, by show (0 : Int) ≤ 0; omega, by show (0 : Int) ≤ _; omega⟩
/-- the first m piles of a row, on feet apart: feet and sum behind them -/
def rowF (r : Row) (e : Int) (b : Nat) (ft : Ft) (w : Nat → Nat) : Nat → Ft × Int
  | 0 => (ft, 0)
  | m + 1 => ((trF r (w m) e b (rowF r e b ft w m).1).1, (rowF r e b ft w m).2 + (trF r (w m) e b (rowF r e b ft w m).1).2)
theorem rowF_b {r : Row} {N : Int} (hR : RInv r N) {e : Int} {b : Nat} (hb : b ≤ 20) {ft : Ft} (h : FB r ft) {w : Nat → Nat} : ∀ m : Nat, (∀ j, j < m → (w j : Int) < r 19) → FB r (rowF r e b ft w m).1 ∧ 0 ≤ (rowF r e b ft w m).2 ∧ (rowF r e b ft w m).2 ≤ 50000 * m
  | 0, _ => ⟨h, by simp [rowF], by simp [rowF]⟩
  | m + 1, hw => by
    obtain ⟨a1, a2, a3⟩ := rowF_b hR (e := e) hb h (w := w) m (fun j hj => hw j (by omega))
    obtain ⟨b1, b2, b3⟩ := trF_b hR (e := e) (hw m (by omega)) b _ a1
    exact ⟨b1, by show 0 ≤ (rowF r e b ft w m).2 + _; omega, by show (rowF r e b ft w m).2 + _ ≤ _; omega⟩
theorem rowF_mono {r : Row} {N : Int} (hR : RInv r N) {e : Int} {b : Nat} (hb : b ≤ 20) {ft : Ft} (h : FB r ft) {w : Nat → Nat} {m : Nat} : ∀ k : Nat, m ≤ k → (∀ j, j < k → (w j : Int) < r 19) → (rowF r e b ft w m).2 ≤ (rowF r e b ft w k).2
  | 0, hk, _ => by
    have : m = 0 := by omega
    subst this
    exact Int.le_refl _
  | k + 1, hk, hw => by
    by_cases q : m = k + 1
    · subst q; exact Int.le_refl _
    · have i := rowF_mono hR (e := e) hb h (w := w) (m := m) k (by omega) (fun j hj => hw j (by omega))
      obtain ⟨a1, a2, a3⟩ := rowF_b hR (e := e) hb h (w := w) k (fun j hj => hw j (by omega))
      obtain ⟨b1, b2, b3⟩ := trF_b hR (e := e) (hw k (by omega)) b _ a1
      show _ ≤ (rowF r e b ft w k).2 + _
      omega
theorem rowF_congr {r : Row} {e : Int} {b : Nat} {ft : Ft} {w w' : Nat → Nat} : ∀ m : Nat, (∀ j, j < m → w j = w' j) → rowF r e b ft w m = rowF r e b ft w' m
  | 0, _ => rfl
  | m + 1, h => by rw [rowF, rowF, rowF_congr m (fun j hj => h j (by omega)), h m (by omega)]
/-! the rows of n piles by their numbers, as the reference lays them -/
def fac : Nat → Nat
  | 0 => 1
  | n + 1 => (n + 1) * fac n
def bitN (t p : Nat) : Nat := (t >>> p) &&& 1
/-- the place behind s free ones; f places are left -/
def plF (t : Nat) : Nat → Int → Nat → Nat
  | 0, _, p => p
  | f + 1, s, p => if bitN t p = 1 ∨ 0 < s then plF t f (s - (if bitN t p = 1 then 0 else 1)) (p + 1) else p
/-- taken, left, rows before the place k -/
def stL (n m : Nat) : Nat → Nat × Nat × Nat
  | 0 => (0, m, fac n)
  | k + 1 => ((stL n m k).1 ||| (1 <<< plF (stL n m k).1 6 (((stL n m k).2.1 / ((stL n m k).2.2 / (n - k)) : Nat) : Int) 0), (stL n m k).2.1 % ((stL n m k).2.2 / (n - k)), (stL n m k).2.2 / (n - k))
def layP (n m k : Nat) : Nat := plF (stL n m k).1 6 (((stL n m k).2.1 / ((stL n m k).2.2 / (n - k)) : Nat) : Int) 0
/-! the next row, as the class makes it -/
def turnP (p : Nat → Nat) : Nat → Int
  | 0 => -1
  | t + 1 => if p (t + 1) < p t then turnP p t else t
def othP (p : Nat → Nat) (t : Nat) : Nat → Nat
  | 0 => 0
  | o + 1 => if t < o + 1 ∧ p (o + 1) < p t then othP p t o else o + 1
def swP (p : Nat → Nat) (a b : Nat) : Nat → Nat := fun i => if i = b then p a else if i = a then p b else p i
def revP : Nat → (Nat → Nat) → Nat → Nat → Nat → Nat
  | 0, p, _, _ => p
  | f + 1, p, l, h => if l < h then revP f (swP p l h) (l + 1) (h - 1) else p
def nextP (n : Nat) (p : Nat → Nat) : Nat → Nat := revP 3 (swP p (turnP p (n - 1)).toNat (othP p (turnP p (n - 1)).toNat (n - 1))) ((turnP p (n - 1)).toNat + 1) (n - 1)
theorem lay_ok : ∀ n, n < 6 → ∀ m, m < fac n → ∀ k, k < n → layP n m k < n ∧ (stL n m k).1 < 32 ∧ 1 ≤ (stL n m k).2.2 / (n - k) ∧ (stL n m k).2.2 ≤ 120 ∧ (stL n m k).2.1 ≤ 120 := by decide +kernel
theorem lay_turn : ∀ n, n < 6 → ∀ m, m < fac n → (0 ≤ turnP (layP n m) (n - 1) ↔ m + 1 < fac n) := by decide +kernel
theorem lay_next : ∀ n, n < 6 → ∀ m, m < fac n → m + 1 < fac n → ∀ i, i < n → nextP n (layP n m) i = layP n (m + 1) i := by decide +kernel
theorem lay_id : ∀ n, n < 6 → ∀ i, i < n → layP n 0 i = i := by decide +kernel
theorem fac_bd : ∀ n, n < 6 → 1 ≤ fac n ∧ fac n ≤ 120 := by decide
/-! the answers -/
def freshL (r : Row) : List Nat := filt (freshP r) (r 19).toNat
def feet0 (r : Row) : Ft := fun q => r (24 + 91 * q + 3)
def rowN (r : Row) (m : Nat) : Nat → Nat := fun i => (freshL r).getD (layP (freshL r).length m i) 0
def totF (r : Row) (h : Int) (b m : Nat) : Int := (rowF r (energyR r h) b (feet0 r) (rowN r m) (freshL r).length).2
/-- the least sum among the first k + 1 rows, and the first row that has it -/
def bestF (r : Row) (h : Int) (b : Nat) : Nat → Int × Nat
  | 0 => (totF r h b 0, 0)
  | k + 1 => if totF r h b (k + 1) < (bestF r h b k).1 then (totF r h b (k + 1), k + 1) else bestF r h b k
def lastB (r : Row) (h : Int) (b : Nat) : Int × Nat := bestF r h b (fac (freshL r).length - 1)
def orderX (s : St) (h b i : Int) : Int := if (100 ≤ h ∧ h ≤ 3000) ∧ (1 ≤ b ∧ b ≤ 20) ∧ 0 ≤ i then (if 5 < ((freshL s.1).length : Int) then -2 else if ((freshL s.1).length : Int) ≤ i then -4 else (rowN s.1 (lastB s.1 h b.toNat).2 i.toNat : Int)) else -1
def leastX (s : St) (h b : Int) : Int := if (100 ≤ h ∧ h ≤ 3000) ∧ 1 ≤ b ∧ b ≤ 20 then (if 5 < ((freshL s.1).length : Int) then -2 else (lastB s.1 h b.toNat).1) else -1
theorem FB0 {r : Row} {N : Int} (hR : RInv r N) : FB r (feet0 r) := fun q hq => by
  have := (hR.2.2.2.2.2.2 q hq).f
  unfold feet0
  omega
theorem row_lt {r : Row} (h5 : (freshL r).length < 6) {m : Nat} (hm : m < fac (freshL r).length) {i : Nat} (hi : i < (freshL r).length) : (rowN r m i : Int) < r 19 := by
  have a := (lay_ok _ h5 m hm i hi).1
  have b := (filt_lt (freshP r) (r 19).toNat _ a).1
  unfold rowN freshL
  unfold freshL at b
  omega
theorem tot_b {r : Row} {N : Int} (hR : RInv r N) (h5 : (freshL r).length < 6) {m : Nat} (hm : m < fac (freshL r).length) {h : Int} {b : Nat} (hb : b ≤ 20) : 0 ≤ totF r h b m ∧ totF r h b m ≤ 250000 := by
  obtain ⟨a1, a2, a3⟩ := rowF_b hR (e := energyR r h) hb (FB0 hR) (w := rowN r m) (freshL r).length (fun j hj => row_lt h5 hm hj)
  unfold totF
  omega
theorem best_b {r : Row} {N : Int} (hR : RInv r N) (h5 : (freshL r).length < 6) {h : Int} {b : Nat} (hb : b ≤ 20) : ∀ k, k < fac (freshL r).length → 0 ≤ (bestF r h b k).1 ∧ (bestF r h b k).1 ≤ 250000 ∧ (bestF r h b k).2 ≤ k
  | 0, hk => by
    have := tot_b hR h5 hk (h := h) hb
    exact ⟨this.1, this.2, Nat.le_refl 0⟩
  | k + 1, hk => by
    have i := best_b hR h5 (h := h) hb k (by omega)
    have := tot_b hR h5 hk (h := h) hb
    rw [bestF]
    split
    · exact ⟨this.1, this.2, Nat.le_refl _⟩
    · exact ⟨i.1, i.2.1, by omega⟩
/-- no order has less than none -/
theorem best_0 {r : Row} {N : Int} (hR : RInv r N) (h5 : (freshL r).length < 6) {h : Int} {b : Nat} (hb : b ≤ 20) {k : Nat} (h0 : (bestF r h b k).1 ≤ 0) : ∀ j, j < fac (freshL r).length → k ≤ j → bestF r h b j = bestF r h b k
  | 0, hj, hk => by
    have : k = 0 := by omega
    rw [this]
  | j + 1, hj, hk => by
    by_cases e : k = j + 1
    · rw [e]
    · have i := best_0 hR h5 hb h0 j (by omega) (by omega)
      have t := tot_b hR h5 hj (h := h) hb
      rw [bestF, i, if_neg (by omega)]
