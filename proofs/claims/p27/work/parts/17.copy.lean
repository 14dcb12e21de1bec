/-! states copied, ground changed, over rows -/
def mCopyG (σ : Mem) (c d : Nat) : Mem := up (cpy (cpy σ (d + 1) 0 (c + 1) 0 6) (d + 2) 0 (c + 2) 0 6) c 2 (σ d 2)
def mPut (σ : Mem) (c : Nat) (k t h : Int) : Mem := up (up (up σ (c + 1) k.toNat t) (c + 2) k.toNat h) c 2 (max (σ c 2) (k + 1))
theorem mCopyG_ne {σ : Mem} {c d x j : Nat} {w : Int} (h0 : x ≠ c) (h1 : x ≠ c + 1) (h2 : x ≠ c + 2) (k : σ x j = w) : mCopyG σ c d x j = w := by
  simp [mCopyG, up, cpy, h0, h1, h2, k]
theorem mPut_ne {σ : Mem} {c x j : Nat} {a b t w : Int} (h0 : x ≠ c) (h1 : x ≠ c + 1) (h2 : x ≠ c + 2) (k : σ x j = w) : mPut σ c a b t x j = w := by
  simp [mPut, up, h0, h1, h2, k]
theorem mCopyP_ne {σ : Mem} {c d x j : Nat} {w : Int} (h0 : x ≠ c) (h1 : x ≠ c + 1) (h2 : x ≠ c + 2) (k : σ x j = w) : mCopyP σ c d x j = w := by
  simp [mCopyP, h0, h1, h2, k]
theorem mStart_ne {σ : Mem} {c x j : Nat} {a b t w : Int} (h0 : x ≠ c) (k : σ x j = w) : mStart σ c a b t x j = w := by
  simp [mStart, up, h0, k]
theorem SRep.fr {σ τ : Mem} {D : Nat} {r : Row} {N : Int} (h : SRep σ D r) (hR : RInv r N) (hf : ∀ x, D ≤ x → x < D + 36 → τ x = σ x) : SRep τ D r := by
  have r19 := hR.2.2.2.2.1
  obtain ⟨a0, a1, a2, a3, a4, b, aP⟩ := h
  refine ⟨?_, fun j hj => ?_, fun j hj => ?_, fun j hj => ?_, ?_, ?_, fun k hk => ?_⟩
  · rw [hf _ (by omega) (by omega)]; exact a0
  · rw [hf _ (by omega) (by omega)]; exact a1 j hj
  · rw [hf _ (by omega) (by omega)]; exact a2 j hj
  · rw [hf _ (by omega) (by omega)]; exact a3 j hj
  · rw [hf _ (by omega) (by omega)]; exact a4
  · rw [hf D (by omega) (by omega)]; exact b
  · exact (aP k hk).keep (hf _ (by omega) (by omega)) (hf _ (by omega) (by omega)) (hf _ (by omega) (by omega)) (fun _ _ => rfl) (hR.2.2.2.2.2.2 k hk).f.2.2.2.2.2.2.2.2
theorem copyP_prep {τ : Mem} {c d i : Nat} {r : Row} (h : PRep τ d r i) (hk : r (24 + 91 * i + 10) ≤ 40) : PRep (mCopyP τ c d) c r i := by
  refine ⟨fun k hk => ?_, ?_, fun j hj => ?_⟩
  · have e : mCopyP τ c d c (3 + k) = τ d (3 + k) := by
      unfold mCopyP
      rw [if_pos ⟨rfl, by omega, by omega⟩]
    rw [e]; exact h.1 k hk
  · have e : mCopyP τ c d c 2 = τ d 2 := by
      unfold mCopyP
      rw [if_pos ⟨rfl, by omega, by omega⟩]
    rw [e]; exact h.2.1
  · have e1 : mCopyP τ c d (c + 1) j = τ (d + 1) j := by
      unfold mCopyP
      rw [if_neg (by omega), if_pos ⟨rfl, by omega⟩]
    have e2 : mCopyP τ c d (c + 2) j = τ (d + 2) j := by
      unfold mCopyP
      rw [if_neg (by omega), if_neg (by omega), if_pos ⟨rfl, by omega⟩]
    rw [e1, e2]; exact h.2.2 j hj
theorem copy0 {σ : Mem} {B D : Nat} {r : Row} (hS : SRep σ D r) (hsep : B + 36 ≤ D ∨ D + 36 ≤ B) : (up (cpy (mCopyG σ (B + 1) (D + 1)) (D + 4) 0 (B + 4) 0 6) B 3 (r 19)) (B + 1) 2 = r 0 ∧ (∀ j, j < 6 → (up (cpy (mCopyG σ (B + 1) (D + 1)) (D + 4) 0 (B + 4) 0 6) B 3 (r 19)) (B + 1 + 1) j = r (1 + j)) ∧ (∀ j, j < 6 → (up (cpy (mCopyG σ (B + 1) (D + 1)) (D + 4) 0 (B + 4) 0 6) B 3 (r 19)) (B + 1 + 2) j = r (7 + j)) ∧ (∀ j, j < 6 → (up (cpy (mCopyG σ (B + 1) (D + 1)) (D + 4) 0 (B + 4) 0 6) B 3 (r 19)) (B + 4) j = r (13 + j)) ∧ (up (cpy (mCopyG σ (B + 1) (D + 1)) (D + 4) 0 (B + 4) 0 6) B 3 (r 19)) B 3 = r 19 ∧ frB σ (up (cpy (mCopyG σ (B + 1) (D + 1)) (D + 4) 0 (B + 4) 0 6) B 3 (r 19)) B := by
  obtain ⟨a0, a1, a2, a3, a4, b, aP⟩ := hS
  have n1 : D + 1 + 2 ≠ B + 1 + 1 := by omega
  have n2 : D + 1 + 1 ≠ B + 1 + 2 := by omega
  have g : ∀ j, mCopyG σ (B + 1) (D + 1) (D + 4) j = σ (D + 4) j := fun j => mCopyG_ne (by omega) (by omega) (by omega) rfl
  have u : ∀ x j, x ≠ B → x ≠ B + 4 → (up (cpy (mCopyG σ (B + 1) (D + 1)) (D + 4) 0 (B + 4) 0 6) B 3 (r 19)) x j = mCopyG σ (B + 1) (D + 1) x j := fun x j h1 h2 => by
    rw [up_ne _ _ (Or.inl h1)]
    exact cpy_ne h2 rfl
  refine ⟨?_, fun j hj => ?_, fun j hj => ?_, fun j hj => ?_, up_same _ _ _ _, fun x hx => funext fun j => ?_⟩
  · rw [u _ _ (by omega) (by omega), ← a0]; unfold mCopyG; exact up_same _ _ _ _
  · rw [u _ _ (by omega) (by omega), ← a1 j hj]
    unfold mCopyG
    rw [up_ne _ _ (Or.inl (by omega))]
    refine (cpy_ne (by omega) rfl).trans ?_
    unfold cpy
    rw [if_pos ⟨rfl, by omega, by omega⟩]; simp
  · rw [u _ _ (by omega) (by omega), ← a2 j hj]
    unfold mCopyG
    rw [up_ne _ _ (Or.inl (by omega))]
    show (if _ then _ else _) = _
    rw [if_pos ⟨rfl, by omega, by omega⟩]
    refine (cpy_ne (by omega) rfl).trans ?_
    simp
  · rw [up_ne _ _ (Or.inl (by omega)), ← a3 j hj]
    show (if _ then _ else _) = _
    rw [if_pos ⟨rfl, by omega, by omega⟩, g]
    simp
  · rw [u _ _ (by omega) (by omega)]
    exact mCopyG_ne (by omega) (by omega) (by omega) rfl
theorem copy1 {τ : Mem} {B : Nat} {r : Row} {N : Int} (hR : RInv r N) (k2 : τ (B + 1) 2 = r 0) (k3 : ∀ j, j < 6 → τ (B + 1 + 1) j = r (1 + j)) (k4 : ∀ j, j < 6 → τ (B + 1 + 2) j = r (7 + j)) (k5 : ∀ j, j < 6 → τ (B + 4) j = r (13 + j)) (k6 : τ B 3 = r 19) (k7 : ∀ q : Nat, (q : Int) < r 19 → PRep τ (B + 5 + 1 + 3 * q) r q) : SRep (up (up (up (up (up (up τ B 4 (r 20)) B 5 (r 934)) B 6 (r 935)) B 7 (r 21)) B 8 (r 22)) B 9 (r 23)) B r := by
  have r19 := hR.2.2.2.2.1
  generalize hσ' : (up (up (up (up (up (up τ B 4 (r 20)) B 5 (r 934)) B 6 (r 935)) B 7 (r 21)) B 8 (r 22)) B 9 (r 23)) = σ'
  have hne : ∀ x, x ≠ B → σ' x = τ x := fun x h0 => funext fun j => by
    rw [← hσ', up_ne _ _ (Or.inl h0), up_ne _ _ (Or.inl h0), up_ne _ _ (Or.inl h0), up_ne _ _ (Or.inl h0), up_ne _ _ (Or.inl h0), up_ne _ _ (Or.inl h0)]
  refine ⟨?_, fun j hj => ?_, fun j hj => ?_, fun j hj => ?_, ?_, ?_, fun k hk => ?_⟩
  · rw [hne _ (by omega)]; exact k2
  · rw [hne _ (by omega)]; exact k3 j hj
  · rw [hne _ (by omega)]; exact k4 j hj
  · rw [hne _ (by omega)]; exact k5 j hj
  · rw [← hσ']; simp [up]; exact k6
  · rw [← hσ']; simp [up]
  · exact (k7 k hk).keep (hne _ (by omega)) (hne _ (by omega)) (hne _ (by omega)) (fun _ _ => rfl) (hR.2.2.2.2.2.2 k hk).f.2.2.2.2.2.2.2.2
/-! rows changed -/
def putR (r : Row) (k : Nat) (t h : Int) : Row := fun n => if n = 1 + k then t else if n = 7 + k then h else if n = 0 then max (r 0) (k + 1) else r n
def cutR (r : Row) : Row := fun n => if n = 0 then r 0 - 1 else r n
def settR (r : Row) (k : Nat) (v : Int) : Row := fun n => if n = 13 + k then v else r n
def placeR (r : Row) (x y t : Int) : Row := fun n => if n = 19 then r 19 + 1 else if 24 + 91 * (r 19).toNat ≤ n ∧ n < 24 + 91 * (r 19).toNat + 91 then (if n = 24 + 91 * (r 19).toNat + 0 then x else if n = 24 + 91 * (r 19).toNat + 1 then y else if n = 24 + 91 * (r 19).toNat + 2 then t else 0) else r n
theorem PInv.keep {r r' : Row} {N N' : Int} {i : Nat} (h : PInv r N i) (hN : N ≤ N') (hr : ∀ k, k < 11 → r' (24 + 91 * i + k) = r (24 + 91 * i + k)) : PInv r' N' i := by
  have h6 := h.f
  unfold PInv
  rw [hr 0 (by decide), hr 1 (by decide), hr 2 (by decide), hr 3 (by decide), hr 4 (by decide), hr 5 (by decide), hr 6 (by decide), hr 10 (by decide)]
  omega
theorem RInv.mono {r : Row} {N N' : Int} (h : RInv r N) (hN : N ≤ N') (hM : N' ≤ 400000) : RInv r N' := by
  obtain ⟨a0, a1, a2, a3, a4, a5, a6⟩ := h
  exact ⟨a0, a1, a2, a3, a4, by omega, fun i hi => (a6 i hi).keep hN (fun _ _ => rfl)⟩
theorem put_inv {r : Row} {N : Int} (hR : RInv r N) {k : Nat} {t h : Int} (hk : k < 6) (hk2 : (k : Int) ≤ r 0) (ht : 100 ≤ t ∧ t ≤ 20000) (hh : 1 ≤ h ∧ h ≤ 500) : RInv (putR r k t h) N := by
  obtain ⟨a0, a1, a2, a3, a4, a5, a6⟩ := hR
  have e : ∀ n, n ≠ 1 + k → n ≠ 7 + k → n ≠ 0 → putR r k t h n = r n := fun n h1 h2 h3 => by unfold putR; rw [if_neg h1, if_neg h2, if_neg h3]
  have e0 : putR r k t h 0 = max (r 0) (k + 1) := by unfold putR; rw [if_neg (by omega), if_neg (by omega), if_pos rfl]
  have e1 : putR r k t h (1 + k) = t := by unfold putR; rw [if_pos rfl]
  have e7 : putR r k t h (7 + k) = h := by unfold putR; rw [if_neg (by omega), if_pos rfl]
  refine ⟨by rw [e0]; omega, fun j hj => ?_, fun j hj => ?_, ?_, ?_, ?_, fun i hi => ?_⟩
  · by_cases hjk : j = k
    · subst hjk; rw [e1]; omega
    · rw [e _ (by omega) (by omega) (by omega)]; exact a1 j hj
  · rw [e0] at hj
    by_cases hjk : j = k
    · subst hjk; rw [e1, e7]; omega
    · rw [e _ (by omega) (by omega) (by omega), e (7 + j) (by omega) (by omega) (by omega)]; exact a2 j (by omega)
  · rw [e _ (by omega) (by omega) (by omega), e _ (by omega) (by omega) (by omega), e _ (by omega) (by omega) (by omega), e _ (by omega) (by omega) (by omega), e _ (by omega) (by omega) (by omega), e _ (by omega) (by omega) (by omega)]; exact a3
  · rw [e _ (by omega) (by omega) (by omega)]; exact a4
  · rw [e _ (by omega) (by omega) (by omega), e _ (by omega) (by omega) (by omega), e _ (by omega) (by omega) (by omega), e _ (by omega) (by omega) (by omega)]; exact a5
  · rw [e _ (by omega) (by omega) (by omega)] at hi
    exact (a6 i hi).keep (Int.le_refl _) (fun k' _ => e _ (by omega) (by omega) (by omega))
theorem cut_inv {r : Row} {N : Int} (hR : RInv r N) (h1 : 1 < r 0) : RInv (cutR r) N := by
  obtain ⟨a0, a1, a2, a3, a4, a5, a6⟩ := hR
  have e : ∀ n, n ≠ 0 → cutR r n = r n := fun n h3 => by unfold cutR; rw [if_neg h3]
  have e0 : cutR r 0 = r 0 - 1 := by unfold cutR; rw [if_pos rfl]
  refine ⟨by rw [e0]; omega, fun j hj => ?_, fun j hj => ?_, ?_, ?_, ?_, fun i hi => ?_⟩
  · rw [e _ (by omega)]; exact a1 j hj
  · rw [e0] at hj
    rw [e _ (by omega), e _ (by omega)]; exact a2 j (by omega)
  · rw [e _ (by omega), e _ (by omega), e _ (by omega), e _ (by omega), e _ (by omega), e _ (by omega)]; exact a3
  · rw [e _ (by omega)]; exact a4
  · rw [e _ (by omega), e _ (by omega), e _ (by omega), e _ (by omega)]; exact a5
  · rw [e _ (by omega)] at hi
    exact (a6 i hi).keep (Int.le_refl _) (fun k' _ => e _ (by omega))
theorem sett_inv {r : Row} {N : Int} (hR : RInv r N) {k : Nat} {v : Int} (hk : k < 6) (hv : leastS.getD k 0 ≤ v ∧ v ≤ mostS.getD k 0) : RInv (settR r k v) N := by
  obtain ⟨a0, a1, a2, a3, a4, a5, a6⟩ := hR
  have e : ∀ n, n ≠ 13 + k → settR r k v n = r n := fun n h3 => by unfold settR; rw [if_neg h3]
  have ek : settR r k v (13 + k) = v := by unfold settR; rw [if_pos rfl]
  refine ⟨by rw [e _ (by omega)]; exact a0, fun j hj => ?_, fun j hj => ?_, ?_, ?_, ?_, fun i hi => ?_⟩
  · rw [e _ (by omega)]; exact a1 j hj
  · rw [e _ (by omega)] at hj
    rw [e _ (by omega), e _ (by omega)]; exact a2 j (by omega)
  · rcases (show k = 0 ∨ k = 1 ∨ k = 2 ∨ k = 3 ∨ k = 4 ∨ k = 5 by omega) with rfl | rfl | rfl | rfl | rfl | rfl <;> simp [leastS, mostS] at hv <;> simp [settR] <;> omega
  · rw [e _ (by omega)]; exact a4
  · rw [e _ (by omega), e _ (by omega), e _ (by omega), e _ (by omega)]; exact a5
  · rw [e _ (by omega)] at hi
    exact (a6 i hi).keep (Int.le_refl _) (fun k' _ => e _ (by omega))
theorem place_inv {r : Row} {N : Int} (hR : RInv r N) (hN : 0 ≤ N) {x y t : Int} (h19 : r 19 < 10) (hx : 0 ≤ x ∧ x ≤ 20000) (hy : 0 ≤ y ∧ y ≤ 20000) (ht : 1000 ≤ t ∧ t ≤ 50000) : RInv (placeR r x y t) N := by
  obtain ⟨a0, a1, a2, a3, a4, a5, a6⟩ := hR
  have e : ∀ n, n ≠ 19 → (n < 24 + 91 * (r 19).toNat ∨ 24 + 91 * (r 19).toNat + 91 ≤ n) → placeR r x y t n = r n := fun n h1 h2 => by unfold placeR; rw [if_neg h1, if_neg (by omega)]
  have e19 : placeR r x y t 19 = r 19 + 1 := by unfold placeR; rw [if_pos rfl]
  have ek : ∀ k, k < 91 → placeR r x y t (24 + 91 * (r 19).toNat + k) = if k = 0 then x else if k = 1 then y else if k = 2 then t else 0 := fun k hk => by
    unfold placeR
    rw [if_neg (by omega), if_pos (by omega)]
    by_cases h0 : k = 0
    · rw [if_pos (by omega), if_pos h0]
    rw [if_neg (by omega), if_neg h0]
    by_cases h1 : k = 1
    · rw [if_pos (by omega), if_pos h1]
    rw [if_neg (by omega), if_neg h1]
    by_cases h2 : k = 2
    · rw [if_pos (by omega), if_pos h2]
    rw [if_neg (by omega), if_neg h2]
  refine ⟨by rw [e _ (by omega) (by omega)]; exact a0, fun j hj => ?_, fun j hj => ?_, ?_, ?_, ?_, fun i hi => ?_⟩
  · rw [e _ (by omega) (by omega)]; exact a1 j hj
  · rw [e _ (by omega) (by omega)] at hj
    rw [e _ (by omega) (by omega), e _ (by omega) (by omega)]; exact a2 j (by omega)
  · rw [e _ (by omega) (by omega), e _ (by omega) (by omega), e _ (by omega) (by omega), e _ (by omega) (by omega), e _ (by omega) (by omega), e _ (by omega) (by omega)]; exact a3
  · rw [e19]; omega
  · rw [e _ (by omega) (by omega), e _ (by omega) (by omega), e _ (by omega) (by omega), e _ (by omega) (by omega)]; exact a5
  · rw [e19] at hi
    by_cases hi2 : (i : Int) < r 19
    · exact (a6 i hi2).keep (Int.le_refl _) (fun k' _ => e _ (by omega) (by omega))
    · have ei : i = (r 19).toNat := by omega
      subst ei
      unfold PInv
      rw [ek 0 (by decide), ek 1 (by decide), ek 2 (by decide), ek 3 (by decide), ek 4 (by decide), ek 5 (by decide), ek 6 (by decide), ek 10 (by decide)]
      simp
      omega
theorem put_rep {σ : Mem} {B : Nat} {r : Row} {N : Int} (hS : SRep σ B r) (hR : RInv r N) {k : Nat} {t h : Int} (hk : k < 6) : SRep (mPut σ (B + 1) (k : Int) t h) B (putR r k t h) := by
  have r19 := hR.2.2.2.2.1
  obtain ⟨a0, a1, a2, a3, a4, b, aP⟩ := hS
  have e : ∀ n, n ≠ 1 + k → n ≠ 7 + k → n ≠ 0 → putR r k t h n = r n := fun n h1 h2 h3 => by unfold putR; rw [if_neg h1, if_neg h2, if_neg h3]
  have hne : ∀ x, x ≠ B + 1 → x ≠ B + 1 + 1 → x ≠ B + 1 + 2 → mPut σ (B + 1) (k : Int) t h x = σ x := fun x h0 h1 h2 => funext fun j => mPut_ne h0 h1 h2 rfl
  refine ⟨?_, fun j hj => ?_, fun j hj => ?_, fun j hj => ?_, ?_, ?_, fun q hq => ?_⟩
  · have e0 : putR r k t h 0 = max (r 0) (k + 1) := by unfold putR; rw [if_neg (by omega), if_neg (by omega), if_pos rfl]
    rw [e0, ← a0]; simp [mPut, up]
  · by_cases hjk : j = k
    · subst hjk
      have e1 : putR r j t h (1 + j) = t := by unfold putR; rw [if_pos rfl]
      rw [e1]; simp [mPut, up]
    · rw [e _ (by omega) (by omega) (by omega), ← a1 j hj]; simp [mPut, up, hjk]
  · by_cases hjk : j = k
    · subst hjk
      have e1 : putR r j t h (7 + j) = h := by unfold putR; rw [if_neg (by omega), if_pos rfl]
      rw [e1]; simp [mPut, up]
    · rw [e _ (by omega) (by omega) (by omega), ← a2 j hj]; simp [mPut, up, hjk]
  · rw [hne _ (by omega) (by omega) (by omega), e _ (by omega) (by omega) (by omega)]; exact a3 j hj
  · rw [hne _ (by omega) (by omega) (by omega), e _ (by omega) (by omega) (by omega)]; exact a4
  · rw [hne _ (by omega) (by omega) (by omega), e _ (by omega) (by omega) (by omega), e _ (by omega) (by omega) (by omega), e _ (by omega) (by omega) (by omega), e _ (by omega) (by omega) (by omega), e _ (by omega) (by omega) (by omega), e _ (by omega) (by omega) (by omega)]; exact b
  · rw [e _ (by omega) (by omega) (by omega)] at hq
    exact (aP q hq).keep (hne _ (by omega) (by omega) (by omega)) (hne _ (by omega) (by omega) (by omega)) (hne _ (by omega) (by omega) (by omega)) (fun k' _ => e _ (by omega) (by omega) (by omega)) (hR.2.2.2.2.2.2 q hq).f.2.2.2.2.2.2.2.2
theorem cut_rep {σ : Mem} {B : Nat} {r : Row} {N : Int} (hS : SRep σ B r) (hR : RInv r N) : SRep (up σ (B + 1) 2 (r 0 - 1)) B (cutR r) := by
  have r19 := hR.2.2.2.2.1
  obtain ⟨a0, a1, a2, a3, a4, b, aP⟩ := hS
  have e : ∀ n, n ≠ 0 → cutR r n = r n := fun n h3 => by unfold cutR; rw [if_neg h3]
  have hne : ∀ x, x ≠ B + 1 → up σ (B + 1) 2 (r 0 - 1) x = σ x := fun x h0 => up_neC _ _ h0
  refine ⟨?_, fun j hj => ?_, fun j hj => ?_, fun j hj => ?_, ?_, ?_, fun q hq => ?_⟩
  · rw [up_same]; unfold cutR; rw [if_pos rfl]
  · rw [hne _ (by omega), e _ (by omega)]; exact a1 j hj
  · rw [hne _ (by omega), e _ (by omega)]; exact a2 j hj
  · rw [hne _ (by omega), e _ (by omega)]; exact a3 j hj
  · rw [hne _ (by omega), e _ (by omega)]; exact a4
  · rw [hne _ (by omega), e _ (by omega), e _ (by omega), e _ (by omega), e _ (by omega), e _ (by omega), e _ (by omega)]; exact b
  · rw [e _ (by omega)] at hq
    exact (aP q hq).keep (hne _ (by omega)) (hne _ (by omega)) (hne _ (by omega)) (fun k' _ => e _ (by omega)) (hR.2.2.2.2.2.2 q hq).f.2.2.2.2.2.2.2.2
theorem sett_rep {σ : Mem} {B : Nat} {r : Row} {N : Int} (hS : SRep σ B r) (hR : RInv r N) {k : Nat} {v : Int} (hk : k < 6) : SRep (up σ (B + 4) k v) B (settR r k v) := by
  have r19 := hR.2.2.2.2.1
  obtain ⟨a0, a1, a2, a3, a4, b, aP⟩ := hS
  have e : ∀ n, n ≠ 13 + k → settR r k v n = r n := fun n h3 => by unfold settR; rw [if_neg h3]
  have hne : ∀ x, x ≠ B + 4 → up σ (B + 4) k v x = σ x := fun x h0 => up_neC _ _ h0
  refine ⟨?_, fun j hj => ?_, fun j hj => ?_, fun j hj => ?_, ?_, ?_, fun q hq => ?_⟩
  · rw [hne _ (by omega), e _ (by omega)]; exact a0
  · rw [hne _ (by omega), e _ (by omega)]; exact a1 j hj
  · rw [hne _ (by omega), e _ (by omega)]; exact a2 j hj
  · by_cases hjk : j = k
    · subst hjk
      rw [up_same]; unfold settR; rw [if_pos rfl]
    · rw [up_ne _ _ (Or.inr hjk), e _ (by omega)]; exact a3 j hj
  · rw [hne _ (by omega), e _ (by omega)]; exact a4
  · rw [hne _ (by omega), e _ (by omega), e _ (by omega), e _ (by omega), e _ (by omega), e _ (by omega), e _ (by omega)]; exact b
  · rw [e _ (by omega)] at hq
    exact (aP q hq).keep (hne _ (by omega)) (hne _ (by omega)) (hne _ (by omega)) (fun k' _ => e _ (by omega)) (hR.2.2.2.2.2.2 q hq).f.2.2.2.2.2.2.2.2
theorem place_rep {σ : Mem} {B : Nat} {r : Row} {N : Int} (hS : SRep σ B r) (hR : RInv r N) {x y t : Int} (h19 : r 19 < 10) : SRep (mStart (up σ B 3 (r 19 + 1)) (B + 5 + 1 + 3 * (r 19).toNat) x y t) B (placeR r x y t) := by
  have r19 := hR.2.2.2.2.1
  obtain ⟨a0, a1, a2, a3, a4, b, aP⟩ := hS
  have e : ∀ n, n ≠ 19 → (n < 24 + 91 * (r 19).toNat ∨ 24 + 91 * (r 19).toNat + 91 ≤ n) → placeR r x y t n = r n := fun n h1 h2 => by unfold placeR; rw [if_neg h1, if_neg (by omega)]
  have e19 : placeR r x y t 19 = r 19 + 1 := by unfold placeR; rw [if_pos rfl]
  have hne : ∀ z, z ≠ B → z ≠ B + 5 + 1 + 3 * (r 19).toNat → mStart (up σ B 3 (r 19 + 1)) (B + 5 + 1 + 3 * (r 19).toNat) x y t z = σ z := fun z h0 h1 => funext fun j => mStart_ne h1 (up_ne _ _ (Or.inl h0))
  have hB : ∀ j, mStart (up σ B 3 (r 19 + 1)) (B + 5 + 1 + 3 * (r 19).toNat) x y t B j = up σ B 3 (r 19 + 1) B j := fun j => mStart_ne (by omega) rfl
  refine ⟨?_, fun j hj => ?_, fun j hj => ?_, fun j hj => ?_, ?_, ⟨?_, ?_, ?_, ?_, ?_, ?_⟩, fun q hq => ?_⟩
  · rw [hne _ (by omega) (by omega), e _ (by omega) (by omega)]; exact a0
  · rw [hne _ (by omega) (by omega), e _ (by omega) (by omega)]; exact a1 j hj
  · rw [hne _ (by omega) (by omega), e _ (by omega) (by omega)]; exact a2 j hj
  · rw [hne _ (by omega) (by omega), e _ (by omega) (by omega)]; exact a3 j hj
  · rw [hB, up_same, e19]
  · rw [hB, up_ne _ _ (Or.inr (by decide)), e _ (by omega) (by omega)]; exact b.1
  · rw [hB, up_ne _ _ (Or.inr (by decide)), e _ (by omega) (by omega)]; exact b.2.1
  · rw [hB, up_ne _ _ (Or.inr (by decide)), e _ (by omega) (by omega)]; exact b.2.2.1
  · rw [hB, up_ne _ _ (Or.inr (by decide)), e _ (by omega) (by omega)]; exact b.2.2.2.1
  · rw [hB, up_ne _ _ (Or.inr (by decide)), e _ (by omega) (by omega)]; exact b.2.2.2.2.1
  · rw [hB, up_ne _ _ (Or.inr (by decide)), e _ (by omega) (by omega)]; exact b.2.2.2.2.2
  · rw [e19] at hq
    by_cases hq2 : (q : Int) < r 19
    · exact (aP q hq2).keep (hne _ (by omega) (by omega)) (hne _ (by omega) (by omega)) (hne _ (by omega) (by omega)) (fun k' _ => e _ (by omega) (by omega)) (hR.2.2.2.2.2.2 q hq2).f.2.2.2.2.2.2.2.2
    · have eq : q = (r 19).toNat := by omega
      subst eq
      have ek : ∀ k, k < 91 → placeR r x y t (24 + 91 * (r 19).toNat + k) = if k = 0 then x else if k = 1 then y else if k = 2 then t else 0 := fun k hk => by
        unfold placeR
        rw [if_neg (by omega), if_pos (by omega)]
        by_cases h0 : k = 0
        · rw [if_pos (by omega), if_pos h0]
        rw [if_neg (by omega), if_neg h0]
        by_cases h1 : k = 1
        · rw [if_pos (by omega), if_pos h1]
        rw [if_neg (by omega), if_neg h1]
        by_cases h2 : k = 2
        · rw [if_pos (by omega), if_pos h2]
        rw [if_neg (by omega), if_neg h2]
      refine ⟨fun k hk => ?_, ?_, fun j hj => ?_⟩
      · rw [ek k (by omega)]
        rcases (show k = 0 ∨ k = 1 ∨ k = 2 ∨ k = 3 ∨ k = 4 ∨ k = 5 ∨ k = 6 ∨ k = 7 ∨ k = 8 ∨ k = 9 by omega) with rfl | rfl | rfl | rfl | rfl | rfl | rfl | rfl | rfl | rfl <;> simp [mStart, up]
      · rw [ek 10 (by decide)]; simp [mStart, up]
      · rw [ek 10 (by decide)] at hj
        simp at hj
        omega
