/-! ===== kept blows and blows; steps of the law's runs ===== -/
def BInv (r : Row) : Prop := ∀ i : Nat, (i : Int) < r 19 → r (24 + 91 * i + 10) = min 40 (r (24 + 91 * i + 4))
theorem BInv.congr {r r' : Row} (h : BInv r) (h19 : r' 19 = r 19) (h10 : ∀ i : Nat, (i : Int) < r 19 → r' (24 + 91 * i + 10) = r (24 + 91 * i + 10)) (h4 : ∀ i : Nat, (i : Int) < r 19 → r' (24 + 91 * i + 4) = r (24 + 91 * i + 4)) : BInv r' := by
  intro i hi
  rw [h19] at hi
  rw [h10 i hi, h4 i hi]
  exact h i hi
theorem BInv.hit {r : Row} {N : Int} (h : BInv r) (hR : RInv r N) (hN : N < 400000) {i : Nat} (hi : (i : Int) < r 19) {f : Int} (h0 : 0 ≤ f) (h1 : f ≤ 3000) : BInv (hitR r i f) ∧ hitR r i f 19 = r 19 := by
  obtain ⟨e1, e2, e3, e4⟩ := hit1_inv hR hN hi h0 h1
  have r19 := hR.2.2.2.2.1
  have k1 : BInv (hit1R r i f) := by
    intro q hq
    rw [e3] at hq
    have b := hR.kept hq
    have hq4 := (hR.2.2.2.2.2.2 q hq).2.2.2.2.1
    have hb := h q hq
    unfold hit1R
    by_cases hqi : q = i
    · subst hqi
      rw [struckR_own (k := 10) (by omega) (by omega), struckR_own (k := 4) (by omega) (by omega)]
      simp only [if_neg (show ¬ (10 = 3) by decide), if_neg (show ¬ (10 = 4) by decide), if_neg (show ¬ (10 = 5) by decide), if_neg (show ¬ (10 = 6) by decide), if_neg (show ¬ (10 = 7) by decide), if_pos, if_neg (show ¬ (4 = 3) by decide)]
      split <;> omega
    · rw [struckR_other hqi (by omega) (by omega), struckR_other hqi (by omega) (by omega)]
      exact hb
  refine ⟨k1.congr (liftsR_st _ 19 (fun a _ => by omega) (by omega)) (fun q hq => liftsR_st _ _ (fun a _ => by omega) (by omega)) (fun q hq => liftsR_st _ _ (fun a _ => by omega) (by omega)), (hit_inv hR hN hi h0 h1).2⟩
theorem BInv.drive {p : Nat} {f e : Int} (h0 : 0 ≤ f) (h1 : f ≤ 3000) : ∀ (n : Nat) (r : Row) (N : Int), RInv r N → BInv r → N + n ≤ 400000 → (p : Int) < r 19 → BInv (driveR p f e n r).1 ∧ (driveR p f e n r).1 19 = r 19 ∧ 0 ≤ (driveR p f e n r).2 ∧ (driveR p f e n r).2 ≤ n
  | 0, r, N, hR, hB, hN, hp => ⟨hB, rfl, Int.le_refl _, Int.le_refl _⟩
  | n + 1, r, N, hR, hB, hN, hp => by
    have a := hit_inv hR (by omega) hp h0 h1
    have k := hB.hit hR (by omega) hp h0 h1
    rw [driveR]
    split
    · obtain ⟨b1, b2, b3, b4⟩ := BInv.drive (e := e) h0 h1 n (hitR r p f) (N + 1) a.1 k.1 (by omega) (by rw [a.2]; exact hp)
      exact ⟨b1, b2.trans k.2, by show 0 ≤ (driveR p f e n (hitR r p f)).2 + 1; omega, by show (driveR p f e n (hitR r p f)).2 + 1 ≤ ((n + 1 : Nat) : Int); omega⟩
    · exact ⟨k.1, k.2, by show (0 : Int) ≤ 1; decide, by show (1 : Int) ≤ ((n + 1 : Nat) : Int); omega⟩
/-- a call's answer and the state behind it: a change, or nothing -/
def SR (s : St) (a : Int) (s' : St) : Prop := ((0 ≤ a ∧ a ≤ 100000) ∧ ∃ r', s' = chS s r' ∧ BInv r' ∧ r' 19 = s.1 19) ∨ (a = -2 ∧ s' = s)
theorem SR.cut {s : St} {N : Int} (hR : RInv s.1 N) (hB : BInv s.1) : SR s (cutX s).1 (cutX s).2 := by
  have r0 := hR.1
  have r19 := hR.2.2.2.2.1
  unfold cutX
  by_cases h : s.1 0 = 1
  · rw [if_pos h]
    exact Or.inr ⟨rfl, rfl⟩
  · rw [if_neg h]
    refine Or.inl ⟨by show 0 ≤ s.1 0 - 1 ∧ s.1 0 - 1 ≤ 100000; omega, _, rfl, hB.congr ?_ (fun i hi => ?_) (fun i hi => ?_), ?_⟩ <;> unfold cutR <;> rw [if_neg (by omega)]
theorem SR.set {s : St} {N : Int} (hR : RInv s.1 N) (hB : BInv s.1) {v : Int} (hv : 0 ≤ v ∧ v < 51) : SR s (setX s 5 v).1 (setX s 5 v).2 := by
  have r18 := hR.2.2.2.1.2.2.2.2.2
  have hc : (0 ≤ (5 : Int) ∧ (5 : Int) < 6) ∧ leastS.getD (5 : Int).toNat 0 ≤ v ∧ v ≤ mostS.getD (5 : Int).toNat 0 := by
    have e1 : leastS.getD (5 : Int).toNat 0 = 0 := rfl
    have e2 : mostS.getD (5 : Int).toNat 0 = 50 := rfl
    rw [e1, e2]
    omega
  unfold setX
  rw [if_pos hc]
  have e5 : (5 : Int).toNat = 5 := rfl
  refine Or.inl ⟨by show 0 ≤ s.1 18 ∧ s.1 18 ≤ 100000; omega, _, rfl, hB.congr ?_ (fun i hi => ?_) (fun i hi => ?_), ?_⟩ <;> unfold settR <;> rw [e5, if_neg (by omega)]
theorem SR.test {s : St} {N : Int} (hR : RInv s.1 N) (hB : BInv s.1) {p f : Int} (hp : 0 ≤ p ∧ p < s.1 19) (hf : 1 ≤ f ∧ f ≤ 100000) : SR s (testX s p f).1 (testX s p f).2 := by
  have r19 := hR.2.2.2.2.1
  have hq := hR.2.2.2.2.2.2 p.toNat (by omega)
  have hq4 := hq.2.2.2.1
  unfold testX
  rw [if_pos ⟨hp, hf⟩]
  by_cases h : f ≤ heldR s.1 p.toNat
  · rw [if_pos h, if_pos h]
    exact Or.inl ⟨by show (0 : Int) ≤ 0 ∧ (0 : Int) ≤ 100000; decide, _, rfl, hB, rfl⟩
  · rw [if_neg h, if_neg h]
    refine Or.inl ⟨?_, _, rfl, hB.congr (press1R_ne (by omega)) (fun i hi => press1R_ne (by omega)) (fun i hi => press1R_ne (by omega)), press1R_ne (by omega)⟩
    show 0 ≤ pressZ s.1 p.toNat f ∧ pressZ s.1 p.toNat f ≤ 100000
    have hq2 := hq.2.2.1
    unfold pressZ
    omega
/-- what a refused blow says of the pile -/
def SD (s : St) (p a : Int) : Prop := a = -2 → pileOfX s p 3 = pileOfX s p 2
theorem down_eq {s : St} {N : Int} (hR : RInv s.1 N) {p : Int} (hp : 0 ≤ p ∧ p < s.1 19) (h : s.1 (24 + 91 * p.toNat + 2) ≤ s.1 (24 + 91 * p.toNat + 3)) : pileOfX s p 3 = pileOfX s p 2 := by
  have hq := (hR.2.2.2.2.2.2 p.toNat (by omega)).2.2.2.1
  have e3 : pileOfX s p 3 = s.1 (24 + 91 * p.toNat + 3) := by
    unfold pileOfX
    rw [if_pos ⟨hp, by decide⟩]
    rfl
  have e2 : pileOfX s p 2 = s.1 (24 + 91 * p.toNat + 2) := by
    unfold pileOfX
    rw [if_pos ⟨hp, by decide⟩]
    rfl
  rw [e2, e3]
  omega
theorem SR.strike {s : St} {N : Int} (hR : RInv s.1 N) (hN : N < 400000) (hB : BInv s.1) {p f : Int} (hp : 0 ≤ p ∧ p < s.1 19) (hf : 100 ≤ f ∧ f ≤ 3000) : SR s (strikeX s p f).1 (strikeX s p f).2 ∧ SD (strikeX s p f).2 p (strikeX s p f).1 := by
  have r19 := hR.2.2.2.2.1
  unfold strikeX
  rw [if_pos ⟨hp, hf⟩]
  by_cases h : s.1 (24 + 91 * p.toNat + 2) ≤ s.1 (24 + 91 * p.toNat + 3)
  · rw [if_pos h]
    exact ⟨Or.inr ⟨rfl, rfl⟩, fun _ => down_eq hR hp h⟩
  · rw [if_neg h]
    have k := hB.hit hR hN (i := p.toNat) (by omega) (f := f) (by omega) (by omega)
    have hb := setR_bd s.1 (energyR s.1 f) (s.1 (24 + 91 * p.toNat + 3)) (s.1 (24 + 91 * p.toNat + 2)) (by omega)
    have hb2 : 0 ≤ blowS s.1 p.toNat f ∧ blowS s.1 p.toNat f ≤ 100000 := ⟨hb.1, Int.le_trans hb.2.1 (by decide)⟩
    exact ⟨Or.inl ⟨hb2, _, rfl, k.1, k.2⟩, fun e => by
      have e' : blowS s.1 p.toNat f = -2 := e
      omega⟩
theorem SR.drive {s : St} {N : Int} (hR : RInv s.1 N) (hN : N + 600 ≤ 400000) (hB : BInv s.1) {p f e m : Int} (hp : 0 ≤ p ∧ p < s.1 19) (hf : 100 ≤ f ∧ f ≤ 3000) (he : 0 ≤ e ∧ e ≤ 500) (hm : 1 ≤ m ∧ m ≤ 100) : SR s (driveX s p f e m).1 (driveX s p f e m).2 ∧ SD (driveX s p f e m).2 p (driveX s p f e m).1 := by
  have r19 := hR.2.2.2.2.1
  unfold driveX
  rw [if_pos ⟨hp, hf, he, hm⟩]
  by_cases h : s.1 (24 + 91 * p.toNat + 2) ≤ s.1 (24 + 91 * p.toNat + 3)
  · rw [if_pos h]
    exact ⟨Or.inr ⟨rfl, rfl⟩, fun _ => down_eq hR hp h⟩
  · rw [if_neg h]
    obtain ⟨b1, b2, b3, b4⟩ := BInv.drive (p := p.toNat) (f := f) (e := e) (by omega) (by omega) m.toNat s.1 N hR hB (by omega) (by omega)
    exact ⟨Or.inl ⟨⟨b3, by show (driveR p.toNat f e m.toNat s.1).2 ≤ 100000; omega⟩, _, rfl, b1, b2⟩, fun q => by
      have q' : (driveR p.toNat f e m.toNat s.1).2 = -2 := q
      omega⟩
theorem pileOfX_4 {s : St} {p : Int} (hp : 0 ≤ p ∧ p < s.1 19) : pileOfX s p 4 = s.1 (24 + 91 * p.toNat + 4) := by
  unfold pileOfX
  rw [if_pos ⟨hp, by decide⟩]
  rfl
theorem kept_eq {s : St} (hB : BInv s.1) {p : Int} (hp : 0 ≤ p ∧ p < s.1 19) : pileOfX s p 12 = min 40 (pileOfX s p 4) := by
  rw [pileOfX_12 hp, pileOfX_4 hp]
  exact hB p.toNat (by omega)
/-! the law's run: its object, its row of looks, the states looked at -/
def MI (σ : Mem) (s : St) (N : Int) (c : Nat) (W : Nat → Row) : Prop := CRep σ s N ∧ SInv s ∧ BInv s.1 ∧ s.1 19 = 10 ∧ s.2.2.1 = 4 ∧ (∀ j, j < c → σ 12 j = hashR (W j)) ∧ ∀ j, 1 ≤ j → j ≤ 4 → j ≤ c → s.2.1 (4 - j) = W (c - j)
theorem push_4 {hs : Nat → Row} {r : Row} : pushH hs 4 r 3 = r ∧ ∀ j, j < 3 → pushH hs 4 r j = hs (j + 1) := by
  refine ⟨?_, fun j hj => ?_⟩
  · unfold pushH
    rw [if_neg (by decide), if_pos rfl]
  · unfold pushH
    rw [if_neg (by decide), if_neg (by omega)]
/-- a step: the states looked at go on -/
theorem MI.step {σ σ' : Mem} {s s' : St} {N N' : Int} {c : Nat} {W : Nat → Row} {a : Int} (h : MI σ s N c W) (hl : σ 12 c = hashR s.1) (hC : CRep σ' s' N') (hS : SInv s') (hR : SR s a s') (hf : frM σ σ') : ((0 ≤ a ∧ a ≤ 100000) ∧ MI σ' s' N' (c + 1) (fun j => if j = c then s.1 else W j)) ∨ (a = -2 ∧ s' = s ∧ MI σ' s N' c W ∧ σ' 12 c = hashR s.1) := by
  obtain ⟨h1, h2, h3, h4, h5, h6, h7⟩ := h
  have e12 : σ' 12 = σ 12 := hf 12 (by decide) (by decide)
  rcases hR with ⟨ha, r', rfl, hB, h19⟩ | ⟨ha, rfl⟩
  · refine Or.inl ⟨ha, hC, hS, hB, h19.trans h4, ?_, fun j hj => ?_, fun j j1 j4 jc => ?_⟩
    · show min 4 (s.2.2.1 + 1) = 4
      omega
    · rw [e12]
      show σ 12 j = hashR (if j = c then s.1 else W j)
      by_cases e : j = c
      · subst e
        rw [if_pos rfl]
        exact hl
      · rw [if_neg e]
        exact h6 j (by omega)
    · show pushH s.2.1 s.2.2.1 s.1 (4 - j) = (if c + 1 - j = c then s.1 else W (c + 1 - j))
      rw [h5]
      by_cases e : j = 1
      · subst e
        rw [if_pos (by omega)]
        exact push_4.1
      · rw [if_neg (by omega), push_4.2 (4 - j) (by omega)]
        have := h7 (j - 1) (by omega) (by omega) (by omega)
        rw [show 4 - j + 1 = 4 - (j - 1) by omega, this, show c + 1 - j = c - (j - 1) by omega]
  · exact Or.inr ⟨ha, rfl, ⟨hC, hS, h3, h4, h5, fun j hj => by rw [e12]; exact h6 j hj, h7⟩, by rw [e12]; exact hl⟩
theorem cnt_all {p : Nat → Bool} : ∀ n, (∀ j, j < n → p j = true) → cnt p n = n
  | 0, _ => rfl
  | n + 1, h => by
    rw [cnt, cnt_all n (fun j hj => h j (by omega)), if_pos (h n (by omega))]
    omega
/-! what the law sets up: strata, piles -/
theorem putX_e {s : St} {k t h : Int} (hk : s.1 0 = k) (h1 : 0 ≤ k ∧ k < 6) (ht : 100 ≤ t ∧ t ≤ 20000) (hh : 1 ≤ h ∧ h ≤ 500) : stratumX s k t h = (k + 1, chS s (putR s.1 k.toNat t h)) ∧ putR s.1 k.toNat t h 0 = k + 1 ∧ putR s.1 k.toNat t h 19 = s.1 19 := by
  have e0 : putR s.1 k.toNat t h 0 = k + 1 := by
    unfold putR
    rw [if_neg (by omega), if_neg (by omega), if_pos rfl]
    omega
  refine ⟨?_, e0, ?_⟩
  · unfold stratumX
    rw [if_pos ⟨by omega, by omega, ht.1, ht.2, hh.1, hh.2⟩, if_neg (by omega), e0]
  · unfold putR
    rw [if_neg (by omega), if_neg (by omega), if_neg (by omega)]
/-- k piles stand in a row, none of them struck -/
def QI (r : Row) (k : Nat) : Prop := r 19 = k ∧ ∀ j : Nat, j < k → r (24 + 91 * j + 0) = 500 * j ∧ r (24 + 91 * j + 4) = 0 ∧ r (24 + 91 * j + 10) = 0
theorem QI.free {r : Row} {k : Nat} (h : QI r k) {x y : Int} (hx : ∀ j : Nat, j < k → x ≠ 500 * j) : ¬ 0 < cnt (takenP r x y) k := fun q => by
  obtain ⟨j, hj, hp⟩ := (cnt_pos k).mp q
  have h1 : (decide (r (24 + 91 * j + 0) = x) && decide (r (24 + 91 * j + 1) = y)) = true := hp
  rw [Bool.and_eq_true] at h1
  have h2 := of_decide_eq_true h1.1
  rw [(h.2 j hj).1] at h2
  exact hx j hj h2.symm
theorem QI.place {r : Row} {k : Nat} (h : QI r k) {y t : Int} : QI (placeR r (500 * k) y t) (k + 1) := by
  obtain ⟨h19, hj⟩ := h
  have e : (r 19).toNat = k := by omega
  refine ⟨?_, fun j hjk => ?_⟩
  · unfold placeR
    rw [if_pos rfl]
    omega
  · unfold placeR
    rw [e]
    by_cases q : j = k
    · subst q
      refine ⟨?_, ?_, ?_⟩
      · rw [if_neg (by omega), if_pos (by omega), if_pos rfl]
      · rw [if_neg (by omega), if_pos (by omega), if_neg (by omega), if_neg (by omega), if_neg (by omega)]
      · rw [if_neg (by omega), if_pos (by omega), if_neg (by omega), if_neg (by omega), if_neg (by omega)]
    · have := hj j (by omega)
      refine ⟨?_, ?_, ?_⟩
      · rw [if_neg (by omega), if_neg (by omega)]; exact this.1
      · rw [if_neg (by omega), if_neg (by omega)]; exact this.2.1
      · rw [if_neg (by omega), if_neg (by omega)]; exact this.2.2
theorem pileX_e {s : St} {k : Nat} (hk : k < 10) (hQ : QI s.1 k) {y t : Int} (hy : 0 ≤ y ∧ y ≤ 20000) (ht : 1000 ≤ t ∧ t ≤ 50000) : pileX s (500 * k) y t = ((k : Int), chS s (placeR s.1 (500 * k) y t)) ∧ placeR s.1 (500 * k) y t 0 = s.1 0 := by
  have e : (s.1 19).toNat = k := by have := hQ.1; omega
  refine ⟨?_, ?_⟩
  · unfold pileX
    rw [if_pos ⟨by omega, hy, ht⟩, e, if_neg (hQ.free (fun j hj => by omega)), if_neg (by have := hQ.1; omega), hQ.1]
  · unfold placeR
    rw [if_neg (by omega), if_neg (by omega)]
theorem QI.fresh {s : St} (h : QI s.1 10) : 5 < ((freshL s.1).length : Int) := by
  unfold freshL
  rw [filt_len]
  have e : (s.1 19).toNat = 10 := by have := h.1; omega
  rw [e, cnt_all 10 (fun j hj => by
    show decide (s.1 (24 + 91 * j + 4) = 0) = true
    exact decide_eq_true (h.2 j hj).2.1)]
  decide
theorem QI.b {r : Row} (h : QI r 10) : BInv r := by
  intro i hi
  have h1 := h.1
  have h2 := h.2 i (by omega)
  rw [h2.2.1, h2.2.2]
  decide
