/-! ===== rows written out, changed: the same as a list ===== -/
def putL (k : Nat) (v : Int) (L : List (Nat × Int)) : List (Nat × Int) := (k, v) :: L.filter (fun e => e.1 != k)
def updL : List (Nat × Int) → List (Nat × Int) → List (Nat × Int)
  | [], L => L
  | q :: t, L => putL q.1 q.2 (updL t L)
def updR : List (Nat × Int) → Row → Row
  | [], r => r
  | q :: t, r => upv (updR t r) q.1 q.2
theorem rowL_del (k : Nat) : ∀ (L : List (Nat × Int)) (n : Nat), n ≠ k → rowL (L.filter (fun e => e.1 != k)) n = rowL L n
  | [], n, h => rfl
  | q :: t, n, h => by
    by_cases e : q.1 = k
    · have e2 : (q.1 != k) = false := by simp [e]
      rw [List.filter_cons, e2]
      have ih := rowL_del k t n h
      rw [if_neg (by decide), ih]
      show rowL t n = upv (rowL t) q.1 q.2 n
      unfold upv
      rw [if_neg (by omega)]
    · have e2 : (q.1 != k) = true := by simp [e]
      rw [List.filter_cons, e2, if_pos rfl]
      have ih := rowL_del k t n h
      show upv (rowL (t.filter (fun e => e.1 != k))) q.1 q.2 n = upv (rowL t) q.1 q.2 n
      unfold upv
      rw [ih]
theorem rowL_put (k : Nat) (v : Int) (L : List (Nat × Int)) : rowL (putL k v L) = upv (rowL L) k v := by
  funext n
  show upv (rowL (L.filter (fun e => e.1 != k))) k v n = upv (rowL L) k v n
  unfold upv
  by_cases h : n = k
  · rw [if_pos h, if_pos h]
  · rw [if_neg h, if_neg h, rowL_del k L n h]
theorem rowL_upd : ∀ (U L : List (Nat × Int)), rowL (updL U L) = updR U (rowL L)
  | [], L => rfl
  | q :: t, L => by rw [updL, rowL_put, rowL_upd t L, updR]
theorem put_eq (L : List (Nat × Int)) (k : Nat) (t h : Int) : putR (rowL L) k t h = rowL (updL [(1 + k, t), (7 + k, h), (0, max (rowL L 0) (k + 1))] L) := by
  rw [rowL_upd]
  funext n
  rfl
theorem sett_eq (L : List (Nat × Int)) (k : Nat) (v : Int) : settR (rowL L) k v = rowL (updL [(13 + k, v)] L) := by
  rw [rowL_upd]
  funext n
  rfl
theorem rowL_out {a : Nat} : ∀ {L : List (Nat × Int)}, L.all (fun e => decide (e.1 < a) || decide (a + 91 ≤ e.1)) = true → ∀ n, a ≤ n → n < a + 91 → rowL L n = 0
  | [], _, n, _, _ => rfl
  | q :: t, h, n, h1, h2 => by
    rw [List.all_cons, Bool.and_eq_true] at h
    have hq : q.1 < a ∨ a + 91 ≤ q.1 := by simpa using h.1
    show upv (rowL t) q.1 q.2 n = 0
    unfold upv
    rw [if_neg (by omega)]
    exact rowL_out h.2 n h1 h2
theorem place_eq {L : List (Nat × Int)} {q : Nat} {x y t : Int} (h19 : (rowL L 19).toNat = q) (hL : L.all (fun e => decide (e.1 < 24 + 91 * q) || decide (24 + 91 * q + 91 ≤ e.1)) = true) : placeR (rowL L) x y t = rowL (updL [(19, rowL L 19 + 1), (24 + 91 * q + 0, x), (24 + 91 * q + 1, y), (24 + 91 * q + 2, t)] L) := by
  rw [rowL_upd]
  funext n
  unfold placeR
  rw [h19]
  show _ = (if n = 19 then rowL L 19 + 1 else if n = 24 + 91 * q + 0 then x else if n = 24 + 91 * q + 1 then y else if n = 24 + 91 * q + 2 then t else rowL L n)
  by_cases h : n = 19
  · rw [if_pos h, if_pos h]
  · rw [if_neg h, if_neg h]
    by_cases hr : 24 + 91 * q ≤ n ∧ n < 24 + 91 * q + 91
    · rw [if_pos hr, rowL_out hL n hr.1 hr.2]
    · rw [if_neg hr, if_neg (by omega), if_neg (by omega), if_neg (by omega)]
def pressL (L : List (Nat × Int)) (i : Nat) (z : Int) : List (Nat × Int) := updL [(24 + 91 * i + 3, rowL L (24 + 91 * i + 3) + z), (24 + 91 * i + 6, 0), (24 + 91 * i + 9, rowL L (24 + 91 * i + 9) + z), (23, rowL L 23 + z)] L
theorem press_eq (L : List (Nat × Int)) (i : Nat) (z : Int) : press1R (rowL L) i z = rowL (pressL L i z) := by
  unfold pressL
  rw [rowL_upd]
  funext n
  unfold press1R
  show _ = (if n = 24 + 91 * i + 3 then rowL L (24 + 91 * i + 3) + z else if n = 24 + 91 * i + 6 then 0 else if n = 24 + 91 * i + 9 then rowL L (24 + 91 * i + 9) + z else if n = 23 then rowL L 23 + z else rowL L n)
  by_cases h1 : n = 24 + 91 * i + 3
  · rw [if_pos h1, if_pos h1, h1]
  rw [if_neg h1, if_neg h1]
  by_cases h2 : n = 24 + 91 * i + 6
  · rw [if_pos h2, if_pos h2]
  rw [if_neg h2, if_neg h2]
  by_cases h3 : n = 24 + 91 * i + 9
  · rw [if_pos h3, if_pos h3, h3]
  rw [if_neg h3, if_neg h3]
  by_cases h4 : n = 23
  · rw [if_pos h4, if_pos h4, h4]
  rw [if_neg h4, if_neg h4]
def lift1L (L : List (Nat × Int)) (q : Nat) (z : Int) : List (Nat × Int) := updL [(24 + 91 * q + 3, rowL L (24 + 91 * q + 3) - z), (24 + 91 * q + 6, 1), (24 + 91 * q + 8, rowL L (24 + 91 * q + 8) + z), (22, rowL L 22 + z)] L
theorem lift1_eq (L : List (Nat × Int)) (q : Nat) (z : Int) : lift1R (rowL L) q z = rowL (lift1L L q z) := by
  unfold lift1L
  rw [rowL_upd]
  funext n
  unfold lift1R
  show _ = (if n = 24 + 91 * q + 3 then rowL L (24 + 91 * q + 3) - z else if n = 24 + 91 * q + 6 then 1 else if n = 24 + 91 * q + 8 then rowL L (24 + 91 * q + 8) + z else if n = 22 then rowL L 22 + z else rowL L n)
  by_cases h1 : n = 24 + 91 * q + 3
  · rw [if_pos h1, if_pos h1, h1]
  rw [if_neg h1, if_neg h1]
  by_cases h2 : n = 24 + 91 * q + 6
  · rw [if_pos h2, if_pos h2]
  rw [if_neg h2, if_neg h2]
  by_cases h3 : n = 24 + 91 * q + 8
  · rw [if_pos h3, if_pos h3, h3]
  rw [if_neg h3, if_neg h3]
  by_cases h4 : n = 22
  · rw [if_pos h4, if_pos h4, h4]
  rw [if_neg h4, if_neg h4]
def liftsL (L : List (Nat × Int)) (p : Nat) (z : Int) : Nat → List (Nat × Int)
  | 0 => L
  | q + 1 => if 0 < liftZ (rowL (liftsL L p z q)) p q z then lift1L (liftsL L p z q) q (liftZ (rowL (liftsL L p z q)) p q z) else liftsL L p z q
theorem lifts_eq (L : List (Nat × Int)) (p : Nat) (z : Int) : ∀ n, liftsR (rowL L) p z n = rowL (liftsL L p z n)
  | 0 => rfl
  | q + 1 => by
    rw [liftsR, lifts_eq L p z q, liftsL]
    split
    · rw [lift1_eq]
    · rfl
def hit1L (L : List (Nat × Int)) (i : Nat) (s l e hd : Int) (k : Nat) : List (Nat × Int) := updL [(24 + 91 * i + 3, rowL L (24 + 91 * i + 3) + s), (24 + 91 * i + 4, rowL L (24 + 91 * i + 4) + 1), (24 + 91 * i + 5, l), (24 + 91 * i + 6, 0), (24 + 91 * i + 7, rowL L (24 + 91 * i + 7) + s), (20, rowL L 20 + 1), (21, rowL L 21 + s), (934, rowL L 934 + e), (935, rowL L 935 + s * hd), (24 + 91 * i + 10, (k : Int) + 1), (24 + 91 * i + 11 + k, s), (24 + 91 * i + 51 + k, l)] L
theorem struck_eq {L : List (Nat × Int)} {i : Nat} {s l e hd : Int} {k : Nat} (hi : i < 10) (hk : rowL L (24 + 91 * i + 10) = k) (hk2 : k < 40) : struckR (rowL L) i s l e hd = rowL (hit1L L i s l e hd k) := by
  unfold hit1L
  rw [rowL_upd]
  funext n
  unfold struckR keptR
  show _ = (if n = 24 + 91 * i + 3 then rowL L (24 + 91 * i + 3) + s else if n = 24 + 91 * i + 4 then rowL L (24 + 91 * i + 4) + 1 else if n = 24 + 91 * i + 5 then l else if n = 24 + 91 * i + 6 then 0 else if n = 24 + 91 * i + 7 then rowL L (24 + 91 * i + 7) + s else if n = 20 then rowL L 20 + 1 else if n = 21 then rowL L 21 + s else if n = 934 then rowL L 934 + e else if n = 935 then rowL L 935 + s * hd else if n = 24 + 91 * i + 10 then (k : Int) + 1 else if n = 24 + 91 * i + 11 + k then s else if n = 24 + 91 * i + 51 + k then l else rowL L n)
  rw [hk, Int.toNat_natCast]
  have h40 : ¬ ((k : Int) = 40) := by omega
  rw [if_neg h40, if_neg h40, if_neg h40]
  by_cases h1 : n = 24 + 91 * i + 3
  · rw [if_pos h1, if_pos h1, h1]
  rw [if_neg h1, if_neg h1]
  by_cases h2 : n = 24 + 91 * i + 4
  · rw [if_pos h2, if_pos h2, h2]
  rw [if_neg h2, if_neg h2]
  by_cases h3 : n = 24 + 91 * i + 5
  · rw [if_pos h3, if_pos h3]
  rw [if_neg h3, if_neg h3]
  by_cases h4 : n = 24 + 91 * i + 6
  · rw [if_pos h4, if_pos h4]
  rw [if_neg h4, if_neg h4]
  by_cases h5 : n = 24 + 91 * i + 7
  · rw [if_pos h5, if_pos h5, h5]
  rw [if_neg h5, if_neg h5]
  by_cases h6 : n = 20
  · rw [if_pos h6, if_pos h6, h6]
  rw [if_neg h6, if_neg h6]
  by_cases h7 : n = 21
  · rw [if_pos h7, if_pos h7, h7]
  rw [if_neg h7, if_neg h7]
  by_cases h8 : n = 934
  · rw [if_pos h8, if_pos h8, h8]
  rw [if_neg h8, if_neg h8]
  by_cases h9 : n = 935
  · rw [if_pos h9, if_pos h9, h9]
  rw [if_neg h9, if_neg h9]
  by_cases ha : n = 24 + 91 * i + 10
  · rw [if_pos ha, if_pos ha]
  rw [if_neg ha, if_neg ha]
  by_cases hb : 24 + 91 * i + 11 ≤ n ∧ n < 24 + 91 * i + 51
  · rw [if_pos hb]
    by_cases hc : n = 24 + 91 * i + 11 + k
    · rw [if_pos hc, if_pos hc]
    · rw [if_neg hc, if_neg hc, if_neg (by omega)]
  · rw [if_neg hb, if_neg (show ¬ n = 24 + 91 * i + 11 + k by omega)]
    by_cases hc : 24 + 91 * i + 51 ≤ n ∧ n < 24 + 91 * i + 91
    · rw [if_pos hc]
    · rw [if_neg hc, if_neg (by omega)]
def hitL (L : List (Nat × Int)) (p : Nat) (h s l e hd z : Int) (k m : Nat) : List (Nat × Int) := liftsL (hit1L L p s l e hd k) p z m
theorem hit_eq {L L' : List (Nat × Int)} {p : Nat} {h : Int} (s l e hd z : Int) (k m : Nat) (hp : p < 10) (hk : rowL L (24 + 91 * p + 10) = k) (hk2 : k < 40) (hs : blowS (rowL L) p h = s) (he : energyR (rowL L) h = e) (hl : loadR (rowL L) e s = l) (hh : hardR (rowL L) (rowL L (24 + 91 * p + 3)) = hd) (hz : byR (rowL (hit1L L p s l e hd k)) s = z) (hm : (rowL L 19).toNat = m) (hL : hitL L p h s l e hd z k m = L') : hitR (rowL L) p h = rowL L' := by
  subst hs; subst he; subst hl; subst hh; subst hm; subst hL
  have e1 : hit1R (rowL L) p h = rowL (hit1L L p (blowS (rowL L) p h) (loadR (rowL L) (energyR (rowL L) h) (blowS (rowL L) p h)) (energyR (rowL L) h) (hardR (rowL L) (rowL L (24 + 91 * p + 3))) k) := struck_eq hp hk hk2
  unfold hitR hitL
  rw [e1, hz, lifts_eq]
theorem drive_go {p n : Nat} {h e c s : Int} {r r1 r2 : Row} (h1 : hitR r p h = r1) (hb : blowS r p h = s) (hc : e < s ∧ r1 (24 + 91 * p + 3) < r1 (24 + 91 * p + 2)) (h2 : driveR p h e n r1 = (r2, c)) : driveR p h e (n + 1) r = (r2, c + 1) := by
  subst hb
  rw [driveR, h1, if_pos hc, h2]
theorem drive_end {p n : Nat} {h e s : Int} {r r1 : Row} (h1 : hitR r p h = r1) (hb : blowS r p h = s) (hc : ¬ (e < s ∧ r1 (24 + 91 * p + 3) < r1 (24 + 91 * p + 2))) : driveR p h e (n + 1) r = (r1, 1) := by
  subst hb
  rw [driveR, h1, if_neg hc]
theorem hits_go {p n : Nat} {h c : Int} {r r1 r2 : Row} (hc : r (24 + 91 * p + 3) < r (24 + 91 * p + 2)) (h1 : hitR r p h = r1) (h2 : hitsR p h n r1 = (r2, c)) : hitsR p h (n + 1) r = (r2, c + 1) := by
  rw [hitsR, if_pos hc, h1, h2]
theorem hits_end {p n : Nat} {h : Int} {r : Row} (hc : ¬ r (24 + 91 * p + 3) < r (24 + 91 * p + 2)) : hitsR p h (n + 1) r = (r, 0) := by
  rw [hitsR, if_neg hc]
theorem hits_0 {p : Nat} {h : Int} {r : Row} : hitsR p h 0 r = (r, 0) := rfl
theorem car_go {C : Int → Int} {L k p t : Nat} {s s' h c1 c2 : Int} {r r1 r2 : Row} (hlt : s < L) (hp : (pP C s).toNat = p) (hh : pH C s = h) (ht : (pT C s).toNat = t) (he : pE C s = s') (h1 : hitsR p h t r = (r1, c1)) (h2 : carR C L k s' r1 = (r2, c2)) : carR C L (k + 1) s r = (r2, c1 + c2) := by
  rw [carR, if_pos hlt, hp, hh, ht, he, h1, h2]
theorem car_end {C : Int → Int} {L k : Nat} {s : Int} {r : Row} (h : ¬ s < L) : carR C L (k + 1) s r = (r, 0) := by
  rw [carR, if_neg h]
/-! falls: a higher one drives no less -/
theorem blowS_mono {r : Row} {N : Int} (hR : RInv r N) {p : Nat} {h h' : Int} (hh : h ≤ h') : blowS r p h ≤ blowS r p h' := by
  have hd := hardR_bd hR (r (24 + 91 * p + 3))
  obtain ⟨-, -, -, ⟨⟨a1, a2⟩, ⟨b1, b2⟩, -⟩, -⟩ := hR
  have e1 : r 13 * h ≤ r 13 * h' := Int.mul_le_mul_of_nonneg_left hh (by omega)
  have e2 : r 13 * h * r 14 ≤ r 13 * h' * r 14 := Int.mul_le_mul_of_nonneg_right e1 (by omega)
  have e3 : energyR r h ≤ energyR r h' := Int.ediv_le_ediv (by decide) e2
  have e4 : energyR r h / hardR r (r (24 + 91 * p + 3)) ≤ energyR r h' / hardR r (r (24 + 91 * p + 3)) := Int.ediv_le_ediv (by omega) e3
  unfold blowS setR freeR
  omega
theorem fall_at {r : Row} {p : Nat} {e H : Int} (hH : e ≤ blowS r p H) (hlow : ∀ h, h < H → ¬ e ≤ blowS r p h) : ∀ (n : Nat) (h : Int), h ≤ H → H < h + n → fallR r p e n h = H
  | 0, h, h1, h2 => absurd h1 (by omega)
  | n + 1, h, h1, h2 => by
    rw [fallR]
    by_cases q : h = H
    · subst q; rw [if_pos hH]
    · rw [if_neg (hlow h (by omega))]
      exact fall_at hH hlow n (h + 1) (by omega) (by omega)
theorem fall_no {r : Row} {p : Nat} {e : Int} : ∀ (n : Nat) (h : Int), (∀ j, h ≤ j → j < h + n → ¬ e ≤ blowS r p j) → fallR r p e n h = -4
  | 0, h, _ => rfl
  | n + 1, h, hj => by
    rw [fallR, if_neg (hj h (by omega) (by omega))]
    exact fall_no n (h + 1) (fun j a b => hj j (by omega) (by omega))
theorem fallFor_at {s : St} {N : Int} (hR : RInv s.1 N) {p e : Int} (H : Int) (hc : (0 ≤ p ∧ p < s.1 19) ∧ 0 ≤ e ∧ e ≤ 500) (hd : ¬ s.1 (24 + 91 * p.toNat + 2) ≤ s.1 (24 + 91 * p.toNat + 3)) (h1 : 100 ≤ H ∧ H ≤ 3000) (hH : e ≤ blowS s.1 p.toNat H) (hlow : ¬ e ≤ blowS s.1 p.toNat (H - 1)) : fallForX s p e = H := by
  unfold fallForX
  rw [if_pos hc, if_neg hd]
  refine fall_at hH (fun h hh q => hlow (Int.le_trans q (blowS_mono hR (by omega)))) 2901 100 h1.1 (by omega)
theorem fallFor_no {s : St} {N : Int} (hR : RInv s.1 N) {p e : Int} (hc : (0 ≤ p ∧ p < s.1 19) ∧ 0 ≤ e ∧ e ≤ 500) (hd : ¬ s.1 (24 + 91 * p.toNat + 2) ≤ s.1 (24 + 91 * p.toNat + 3)) (hlow : ¬ e ≤ blowS s.1 p.toNat 3000) : fallForX s p e = -4 := by
  unfold fallForX
  rw [if_pos hc, if_neg hd]
  exact fall_no 2901 100 (fun j _ hj q => hlow (Int.le_trans q (blowS_mono hR (by omega))))
/-! a text of which only its first characters count -/
def txL (t : List Int) : Nat → Int := fun j => t.getD j 0
theorem CRep.tx {σ : Mem} {s : St} {N : Int} {r : Row} {h : Nat → Row} {n L : Nat} {t : Nat → Int} (hC : CRep σ s N) (e1 : s.1 = r) (e2 : s.2.1 = h) (e3 : s.2.2.1 = n) (hL : s.2.2.2.1 = L) (ht : ∀ j, j < L → s.2.2.2.2 j = t j) : CRep σ (r, h, n, L, t) N := by
  subst e1; subst e2; subst e3; subst hL
  obtain ⟨c1, c2, c3, c4, ⟨c5, c6, c7⟩⟩ := hC
  refine ⟨c1, c2, c3, c4, ⟨c5, c6, fun j hj => ?_⟩⟩
  have h := c7 j hj
  rw [ht j hj] at h
  exact h
theorem texS_keep (a b c : Int) (s : St) : (texS a b c s).1 = s.1 ∧ (texS a b c s).2.1 = s.2.1 ∧ (texS a b c s).2.2.1 = s.2.2.1 := by
  unfold texS
  have h1 := tyW_keep a 8 (clearX s).2
  have h2 := tyW_keep b 8 (tyW a 8 (clearX s).2)
  have h3 := tyW_keep c 8 (tyW b 8 (tyW a 8 (clearX s).2))
  exact ⟨h3.1.trans (h2.1.trans h1.1), h3.2.1.trans (h2.2.1.trans h1.2.1), h3.2.2.trans (h2.2.2.trans h1.2.2)⟩
