/-! records: the text's characters, numbers, parts, faults; what is carried -/
def chT (L : Nat) (t : Nat → Int) (p : Int) : Int := if 0 ≤ p ∧ p < L then t p.toNat else 0
def dg (C : Int → Int) : Nat → Int → Int
  | 0, _ => 0
  | n + 1, p => if 48 ≤ C p ∧ C p ≤ 57 then dg C n (p + 1) + 1 else 0
def num (C : Int → Int) (p : Int) : Nat → Int
  | 0 => 0
  | n + 1 => num C p n * 10 + C (p + n) - 48
def dA (C : Int → Int) (s : Int) : Int := dg C 80 (s + 2)
def dB (C : Int → Int) (s : Int) : Int := dg C 80 (s + 2 + dA C s + 1)
def pF (C : Int → Int) (s : Int) : Prop := dg C 80 s = 1 ∧ C (s + 1) = 58 ∧ (3 ≤ dA C s ∧ dA C s ≤ 4) ∧ (C (s + 2 + dA C s) = 42 ∧ (1 ≤ dB C s ∧ dB C s ≤ 2) ∧ C (s + 2 + dA C s + 1 + dB C s) = 59 ∨ C (s + 2 + dA C s) = 59)
def pP (C : Int → Int) (s : Int) : Int := num C s 1
def pH (C : Int → Int) (s : Int) : Int := num C (s + 2) (dA C s).toNat
def pT (C : Int → Int) (s : Int) : Int := if C (s + 2 + dA C s) = 42 then num C (s + 2 + dA C s + 1) (dB C s).toNat else 1
def pE (C : Int → Int) (s : Int) : Int := if C (s + 2 + dA C s) = 42 then s + 2 + dA C s + 1 + dB C s + 1 else s + 2 + dA C s + 1
def pF_dec (C : Int → Int) (s : Int) : Decidable (pF C s) := by unfold pF; infer_instance
def rsn (C : Int → Int) (s n : Int) : Int := @ite Int (pF C s) (pF_dec C s) (if n ≤ pP C s then 2 else if (100 ≤ pH C s ∧ pH C s ≤ 3000) ∧ 1 ≤ pT C s ∧ pT C s ≤ 40 then 0 else 3) 1
def fltT (C : Int → Int) (L : Nat) (n : Int) : Nat → Int → Int × Int
  | 0, s => (0, s)
  | k + 1, s => if s < L then (if rsn C s n = 0 then fltT C L n k (pE C s) else (rsn C s n, s)) else (0, s)
def carR (C : Int → Int) (L : Nat) : Nat → Int → Row → Row × Int
  | 0, _, r => (r, 0)
  | k + 1, s, r => if s < L then ((carR C L k (pE C s) (hitsR (pP C s).toNat (pH C s) (pT C s).toNat r).1).1, (hitsR (pP C s).toNat (pH C s) (pT C s).toNat r).2 + (carR C L k (pE C s) (hitsR (pP C s).toNat (pH C s) (pT C s).toNat r).1).2) else (r, 0)
theorem dg_bd (C : Int → Int) : ∀ (n : Nat) (p : Int), 0 ≤ dg C n p ∧ dg C n p ≤ n
  | 0, p => by simp [dg]
  | n + 1, p => by
    have := dg_bd C n (p + 1)
    rw [dg]
    split <;> omega
/-- digits up to a bound, by the digits at all -/
theorem dg_min (C : Int → Int) : ∀ (m n : Nat) (p : Int), m ≤ n → dg C m p = min (m : Int) (dg C n p)
  | 0, n, p, _ => by have := dg_bd C n p; rw [dg]; omega
  | m + 1, 0, p, h => absurd h (by omega)
  | m + 1, n + 1, p, h => by
    have e := dg_min C m n (p + 1) (by omega)
    have b := dg_bd C n (p + 1)
    rw [dg, dg]
    split <;> omega
/-- what stands at a digit, behind the digits -/
theorem dg_at (C : Int → Int) : ∀ (n : Nat) (p : Int) (k : Int), 0 ≤ k → k < dg C n p → 48 ≤ C (p + k) ∧ C (p + k) ≤ 57
  | 0, p, k, h, h2 => by rw [dg] at h2; omega
  | n + 1, p, k, h, h2 => by
    rw [dg] at h2
    by_cases q : 48 ≤ C p ∧ C p ≤ 57
    · rw [if_pos q] at h2
      by_cases hk : k = 0
      · subst hk; simpa using q
      · have := dg_at C n (p + 1) (k - 1) (by omega) (by omega)
        rw [show p + 1 + (k - 1) = p + k by omega] at this
        exact this
    · rw [if_neg q] at h2; omega
theorem dg_end (C : Int → Int) : ∀ (n : Nat) (p : Int), dg C n p < n → ¬ (48 ≤ C (p + dg C n p) ∧ C (p + dg C n p) ≤ 57)
  | 0, p, h => by have := dg_bd C 0 p; omega
  | n + 1, p, h => by
    rw [dg] at h ⊢
    by_cases q : 48 ≤ C p ∧ C p ≤ 57
    · rw [if_pos q] at h ⊢
      have := dg_end C n (p + 1) (by omega)
      rw [show p + (dg C n (p + 1) + 1) = p + 1 + dg C n (p + 1) by omega]
      exact this
    · rw [if_neg q]; simpa using q
/-- characters between 0 and 126 -/
def CB (C : Int → Int) : Prop := ∀ p, 0 ≤ C p ∧ C p ≤ 126
theorem num_bd {C : Int → Int} (h : CB C) (p : Int) : ∀ n : Nat, n ≤ 4 → -53328 ≤ num C p n ∧ num C p n ≤ 86658 := by
  have s : ∀ n : Nat, num C p (n + 1) = num C p n * 10 + C (p + n) - 48 := fun n => rfl
  intro n hn
  have h0 : num C p 0 = 0 := rfl
  have a0 := h (p + (0 : Nat)); have a1 := h (p + (1 : Nat)); have a2 := h (p + (2 : Nat)); have a3 := h (p + (3 : Nat))
  have b0 := s 0; have b1 := s 1; have b2 := s 2; have b3 := s 3
  rcases (show n = 0 ∨ n = 1 ∨ n = 2 ∨ n = 3 ∨ n = 4 by omega) with rfl | rfl | rfl | rfl | rfl <;> simp only [Nat.zero_add, Nat.reduceAdd] at b0 b1 b2 b3 <;> omega
theorem num_nn {C : Int → Int} {p : Int} : ∀ n : Nat, (∀ k : Int, 0 ≤ k → k < n → 48 ≤ C (p + k) ∧ C (p + k) ≤ 57) → 0 ≤ num C p n
  | 0, _ => by simp [num]
  | n + 1, h => by
    have i := num_nn n (fun k a b => h k a (by omega))
    have q := h n (by omega) (by omega)
    rw [num]
    omega
theorem num_1 {C : Int → Int} (p : Int) : num C p 1 = C p - 48 := by
  show num C p 0 * 10 + C (p + (0 : Nat)) - 48 = C p - 48
  rw [show p + ((0 : Nat) : Int) = p by omega]
  simp [num]
theorem chT_bd {L : Nat} {t : Nat → Int} (h : ∀ j, j < L → 32 ≤ t j ∧ t j ≤ 126) : CB (chT L t) := by
  intro p
  unfold chT
  split
  · rename_i q
    have := h p.toNat (by omega)
    omega
  · omega
theorem chT_in {L : Nat} {t : Nat → Int} {p : Int} (h : chT L t p ≠ 0) : 0 ≤ p ∧ p < L := by
  unfold chT at h
  by_cases q : 0 ≤ p ∧ p < L
  · exact q
  · rw [if_neg q] at h; exact absurd rfl h
theorem pF.b {C : Int → Int} {s : Int} (h : pF C s) : (48 ≤ C s ∧ C s ≤ 57) ∧ (0 ≤ pP C s ∧ pP C s ≤ 9) ∧ 0 ≤ pH C s ∧ 0 ≤ pT C s ∧ s + 6 ≤ pE C s ∧ C (pE C s - 1) = 59 := by
  obtain ⟨h1, h2, h3, h4⟩ := h
  have a := dg_at C 80 s 0 (by omega) (by omega)
  rw [show s + 0 = s by omega] at a
  have hp : pP C s = C s - 48 := num_1 s
  refine ⟨a, by omega, num_nn _ (fun k b c => dg_at C 80 (s + 2) k b (by unfold dA at c h3; omega)), ?_, ?_, ?_⟩
  · unfold pT
    split
    · exact num_nn _ (fun k b c => dg_at C 80 _ k b (by have := dg_bd C 80 (s + 2 + dA C s + 1); unfold dB at c; omega))
    · decide
  · unfold pE
    have := dg_bd C 80 (s + 2 + dA C s + 1)
    unfold dB
    split <;> omega
  · unfold pE
    split
    · rename_i q
      rcases h4 with ⟨-, -, z⟩ | z
      · rw [show s + 2 + dA C s + 1 + dB C s + 1 - 1 = s + 2 + dA C s + 1 + dB C s by omega]; exact z
      · omega
    · rcases h4 with ⟨z, -⟩ | z
      · rename_i q; exact absurd z q
      · rw [show s + 2 + dA C s + 1 - 1 = s + 2 + dA C s by omega]; exact z
theorem pF.hi {C : Int → Int} {s : Int} (h : pF C s) (hb : CB C) : pH C s ≤ 86658 ∧ pT C s ≤ 86658 := by
  obtain ⟨h1, h2, h3, h4⟩ := h
  refine ⟨(num_bd hb _ _ (by omega)).2, ?_⟩
  unfold pT
  by_cases q : C (s + 2 + dA C s) = 42
  · rw [if_pos q]
    rcases h4 with ⟨-, z, -⟩ | z
    · exact (num_bd hb _ _ (by omega)).2
    · omega
  · rw [if_neg q]; decide
theorem pF.lt {L : Nat} {t : Nat → Int} {s : Int} (h : pF (chT L t) s) : 0 ≤ s ∧ s < L ∧ pE (chT L t) s ≤ L := by
  have b := h.b
  have b1 := chT_in (L := L) (t := t) (p := s) (by omega)
  have b2 := chT_in (L := L) (t := t) (p := pE (chT L t) s - 1) (by omega)
  omega
theorem rsn_bd (C : Int → Int) (s n : Int) : 0 ≤ rsn C s n ∧ rsn C s n ≤ 3 := by
  unfold rsn
  split
  · split
    · omega
    · split <;> omega
  · omega
theorem rsn_0 {C : Int → Int} {s n : Int} (h : rsn C s n = 0) : pF C s ∧ pP C s < n ∧ (100 ≤ pH C s ∧ pH C s ≤ 3000) ∧ 1 ≤ pT C s ∧ pT C s ≤ 40 := by
  unfold rsn at h
  by_cases q : pF C s
  · rw [if_pos q] at h
    by_cases q2 : n ≤ pP C s
    · rw [if_pos q2] at h; omega
    · rw [if_neg q2] at h
      by_cases q3 : (100 ≤ pH C s ∧ pH C s ≤ 3000) ∧ 1 ≤ pT C s ∧ pT C s ≤ 40
      · exact ⟨q, by omega, q3⟩
      · rw [if_neg q3] at h; omega
  · rw [if_neg q] at h; omega
theorem rsn_no {C : Int → Int} {s n : Int} (h : ¬ pF C s) : rsn C s n = 1 := by unfold rsn; rw [if_neg h]
theorem rsn_2 {C : Int → Int} {s n : Int} (h : pF C s) (h2 : n ≤ pP C s) : rsn C s n = 2 := by unfold rsn; rw [if_pos h, if_pos h2]
theorem rsn_3 {C : Int → Int} {s n : Int} (h : pF C s) (h2 : ¬ n ≤ pP C s) (h3 : ¬ ((100 ≤ pH C s ∧ pH C s ≤ 3000) ∧ 1 ≤ pT C s ∧ pT C s ≤ 40)) : rsn C s n = 3 := by unfold rsn; rw [if_pos h, if_neg h2, if_neg h3]
theorem rsn_4 {C : Int → Int} {s n : Int} (h : pF C s) (h2 : ¬ n ≤ pP C s) (h3 : (100 ≤ pH C s ∧ pH C s ≤ 3000) ∧ 1 ≤ pT C s ∧ pT C s ≤ 40) : rsn C s n = 0 := by unfold rsn; rw [if_pos h, if_neg h2, if_pos h3]
theorem fltT_bd (C : Int → Int) (L : Nat) (n : Int) : ∀ (k : Nat) (s : Int), 0 ≤ (fltT C L n k s).1 ∧ (fltT C L n k s).1 ≤ 3
  | 0, s => by simp [fltT]
  | k + 1, s => by
    rw [fltT]
    split
    · split
      · exact fltT_bd C L n k _
      · exact rsn_bd C s n
    · simp
theorem fltT_done {C : Int → Int} {L : Nat} {n s : Int} (h : ¬ s < L) : ∀ k, fltT C L n k s = (0, s)
  | 0 => rfl
  | k + 1 => by rw [fltT, if_neg h]
theorem carR_done {C : Int → Int} {L : Nat} {s : Int} {r : Row} (h : ¬ s < L) : ∀ k, carR C L k s r = (r, 0)
  | 0 => rfl
  | k + 1 => by rw [carR, if_neg h]
/-- where no fault is, the part at hand has none -/
theorem fltT_0 {C : Int → Int} {L : Nat} {n s : Int} {k : Nat} (h : (fltT C L n (k + 1) s).1 = 0) (hs : s < L) : rsn C s n = 0 ∧ (fltT C L n k (pE C s)).1 = 0 := by
  rw [fltT, if_pos hs] at h
  by_cases q : rsn C s n = 0
  · rw [if_pos q] at h; exact ⟨q, h⟩
  · rw [if_neg q] at h; exact absurd h q
def faultX (s : St) (w : Int) : Int := if 0 ≤ w ∧ w ≤ 1 then (if (fltT (chT s.2.2.2.1 s.2.2.2.2) s.2.2.2.1 (s.1 19) 80 0).1 = 0 then -4 else if w = 0 then (fltT (chT s.2.2.2.1 s.2.2.2.2) s.2.2.2.1 (s.1 19) 80 0).2 else (fltT (chT s.2.2.2.1 s.2.2.2.2) s.2.2.2.1 (s.1 19) 80 0).1) else -1
def carryX (s : St) : Int × St := if (fltT (chT s.2.2.2.1 s.2.2.2.2) s.2.2.2.1 (s.1 19) 80 0).1 = 0 then ((carR (chT s.2.2.2.1 s.2.2.2.2) s.2.2.2.1 80 0 s.1).2, chS s (carR (chT s.2.2.2.1 s.2.2.2.2) s.2.2.2.1 80 0 s.1).1) else (-2, s)
/-- the text stays where its characters and its length stay -/
theorem TRep.up3 {σ : Mem} {L : Nat} {t : Nat → Int} (h : TRep σ L t) {j : Nat} {z : Int} (hj : j ≠ 1) : TRep (up σ 3 j z) L t := by
  obtain ⟨h1, h2, h3⟩ := h
  refine ⟨h1, by rw [up_ne _ _ (Or.inr (Ne.symm hj))]; exact h2, fun k hk => ?_⟩
  rw [up_ne _ _ (Or.inl (by decide))]
  exact h3 k hk
def fr3 (σ σ' : Mem) : Prop := ∀ x j, ¬ (x = 3 ∧ 2 ≤ j ∧ j ≤ 6) → σ' x j = σ x j
theorem fr3.refl {σ : Mem} : fr3 σ σ := fun _ _ _ => rfl
theorem fr3.trans {σ τ υ : Mem} (h : fr3 σ τ) (k : fr3 τ υ) : fr3 σ υ := fun x j q => (k x j q).trans (h x j q)
theorem fr3.up {σ τ : Mem} (h : fr3 σ τ) {j : Nat} {z : Int} (hj : 2 ≤ j ∧ j ≤ 6) : fr3 σ (up τ 3 j z) := fun x i q => by
  rw [up_ne _ _ (show x ≠ 3 ∨ i ≠ j from by by_cases e : x = 3; exact Or.inr (fun e2 => q ⟨e, by omega⟩); exact Or.inl e)]
  exact h x i q
theorem fr3.c {σ τ : Mem} (h : fr3 σ τ) {x : Nat} (hx : x ≠ 3) : τ x = σ x := funext fun j => h x j (fun q => hx q.1)
theorem TRep.f3 {σ τ : Mem} {L : Nat} {t : Nat → Int} (h : TRep σ L t) (hf : fr3 σ τ) : TRep τ L t := by
  obtain ⟨h1, h2, h3⟩ := h
  refine ⟨h1, by rw [hf 3 1 (by omega)]; exact h2, fun k hk => ?_⟩
  rw [hf 4 k (by omega)]
  exact h3 k hk
theorem TRep.cb {σ : Mem} {L : Nat} {t : Nat → Int} (h : TRep σ L t) : CB (chT L t) := chT_bd (fun j hj => (h.2.2 j hj).2)
theorem CRep.f3 {σ τ : Mem} {s : St} {N : Int} (h : CRep σ s N) (hf : fr3 σ τ) : CRep τ s N :=
  ⟨h.1.fr h.2.1 (fun x _ _ => hf.c (by omega)), h.2.1, h.2.2.1.fr h.2.2.2.1 (fun x _ => hf.c (by omega)), h.2.2.2.1, h.2.2.2.2.f3 hf⟩
theorem SRep.f3 {σ τ : Mem} {r : Row} {N : Int} (h : SRep σ 25 r) (hR : RInv r N) (hf : fr3 σ τ) : SRep τ 25 r := h.fr hR (fun x _ _ => hf.c (by omega))
theorem carry_fin {σ τ0 τ1 τ υ : Mem} {s : St} {N N' : Int} {ρ : Row} (hC : CRep σ s N) (f0 : fr3 σ τ0) (hH : HRep τ1 (pushH s.2.1 s.2.2.1 s.1) (min 4 (s.2.2.1 + 1))) (hF : ∀ x, x < 25 → x ≠ 1 → τ1 x = τ0 x) (hS : SRep τ 25 ρ) (hR : RInv ρ N') (hN' : N' ≤ N + 600) (hT : TRep τ s.2.2.2.1 s.2.2.2.2) (f2 : ∀ x, x ≠ 3 → (x < 25 ∨ 61 ≤ x) → τ x = τ1 x) (f3 : fr3 τ υ) (hN : N + 600 ≤ 400000) : CRep υ (chS s ρ) (N + 600) ∧ frM σ υ := by
  obtain ⟨c1, c2, c3, c4, c5⟩ := hC
  have hI := push_inv (c4.mono (N' := N + 600) (by omega) hN) (c2.mono (N' := N + 600) (by omega) hN) c3.1
  refine ⟨⟨hS.f3 hR f3, hR.mono hN' hN, hH.fr hI (fun x hx => by rw [f3.c (by omega), f2 x (by omega) (by omega)]), hI, hT.f3 f3⟩, fun x h1 h2 => ?_⟩
  rw [f3.c (by omega), f2 x (by omega) (by omega), hF x h2 (by omega), f0.c (by omega)]
