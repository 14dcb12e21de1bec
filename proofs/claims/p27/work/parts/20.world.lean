/-! the whole state: row, history, text; what the class holds of it; the answers -/
abbrev St : Type := Row × (Nat → Row) × Nat × Nat × (Nat → Int)
def TRep (σ : Mem) (L : Nat) (t : Nat → Int) : Prop := L ≤ 80 ∧ σ 3 1 = L ∧ ∀ j, j < L → σ 4 j = t j ∧ 32 ≤ t j ∧ t j ≤ 126
def CRep (σ : Mem) (s : St) (N : Int) : Prop := SRep σ 25 s.1 ∧ RInv s.1 N ∧ HRep σ s.2.1 s.2.2.1 ∧ HInv s.2.1 s.2.2.1 N ∧ TRep σ s.2.2.2.1 s.2.2.2.2
def frM (σ σ' : Mem) : Prop := ∀ x, 12 ≤ x → x < 25 → σ' x = σ x
def frC (σ σ' : Mem) : Prop := ∀ x, (x < 12 ∨ 25 ≤ x) → σ' x = σ x
def chS (s : St) (r : Row) : St := (r, pushH s.2.1 s.2.2.1 s.1, min 4 (s.2.2.1 + 1), s.2.2.2.1, s.2.2.2.2)
theorem zI_wrap (z : Int) : zI z = zI (z + 4294967296) := by
  have e : zI 4294967296 = 0 := by decide
  rw [← zI_add, e, Int32.add_zero]
theorem TRep.fr {σ τ : Mem} {L : Nat} {t : Nat → Int} (h : TRep σ L t) (h3 : τ 3 = σ 3) (h4 : τ 4 = σ 4) : TRep τ L t := by
  unfold TRep
  rw [h3, h4]
  exact h
theorem CRep.mono {σ : Mem} {s : St} {N N' : Int} (h : CRep σ s N) (hN : N ≤ N') (hM : N' ≤ 400000) : CRep σ s N' := ⟨h.1, h.2.1.mono hN hM, h.2.2.1, h.2.2.2.1.mono hN hM, h.2.2.2.2⟩
theorem CRep.fr {σ τ : Mem} {s : St} {N : Int} (h : CRep σ s N) (hf : frC σ τ) : CRep τ s N :=
  ⟨h.1.fr h.2.1 (fun x _ _ => hf x (by omega)), h.2.1, h.2.2.1.fr h.2.2.2.1 (fun x _ => hf x (by omega)), h.2.2.2.1, h.2.2.2.2.fr (hf 3 (by omega)) (hf 4 (by omega))⟩
theorem CRep.chg {σ τ σ' : Mem} {s : St} {N : Int} {r' : Row} (hC : CRep σ s N) (hH : HRep τ (pushH s.2.1 s.2.2.1 s.1) (min 4 (s.2.2.1 + 1))) (hF : ∀ x, x < 25 → x ≠ 1 → τ x = σ x) (hS' : SRep σ' 25 r') (hR' : RInv r' (N + 600)) (hFB : frB τ σ' 25) (hN : N + 600 ≤ 400000) : CRep σ' (chS s r') (N + 600) ∧ frM σ σ' := by
  obtain ⟨c1, c2, c3, c4, c5⟩ := hC
  have hI := push_inv (c4.mono (N' := N + 600) (by omega) hN) (c2.mono (N' := N + 600) (by omega) hN) c3.1
  refine ⟨⟨hS', hR', hH.fr hI (fun x hx => hFB x (by omega)), hI, ?_⟩, fun x h1 h2 => by rw [hFB x (by omega), hF x h2 (by omega)]⟩
  exact c5.fr (by rw [hFB 3 (by omega), hF 3 (by omega) (by omega)]) (by rw [hFB 4 (by omega), hF 4 (by omega) (by omega)])
theorem frB_put {τ : Mem} {B : Nat} {k t h : Int} : frB τ (mPut τ (B + 1) k t h) B := fun x hx => funext fun j => mPut_ne (by omega) (by omega) (by omega) rfl
theorem frM.refl {σ : Mem} : frM σ σ := fun _ _ _ => rfl
theorem cnt_pos {p : Nat → Bool} : ∀ n, 0 < cnt p n ↔ ∃ j, j < n ∧ p j = true
  | 0 => by simp [cnt]
  | n + 1 => by
    have ih := cnt_pos (p := p) n
    have hb := cnt_bd p n
    rw [cnt]
    constructor
    · intro h
      by_cases hp : p n = true
      · exact ⟨n, by omega, hp⟩
      · rw [if_neg hp] at h
        obtain ⟨j, h1, h2⟩ := ih.mp (by omega)
        exact ⟨j, by omega, h2⟩
    · rintro ⟨j, h1, h2⟩
      by_cases hj : j = n
      · subst hj; rw [if_pos h2]; omega
      · have := ih.mpr ⟨j, by omega, h2⟩
        split <;> omega
/-! the answers -/
def stratumX (s : St) (k t h : Int) : Int × St := if 0 ≤ k ∧ k ≤ s.1 0 ∧ 100 ≤ t ∧ t ≤ 20000 ∧ 1 ≤ h ∧ h ≤ 500 then (if k = 6 then (-3, s) else (putR s.1 k.toNat t h 0, chS s (putR s.1 k.toNat t h))) else (-1, s)
def cutX (s : St) : Int × St := if s.1 0 = 1 then (-2, s) else (s.1 0 - 1, chS s (cutR s.1))
def feetP (r : Row) (k : Int) : Nat → Bool := fun j => decide (((layR r (r (24 + 91 * j + 3)) : Nat) : Int) = k)
def groundX (s : St) (k w : Int) : Int := if 0 ≤ k ∧ k < s.1 0 ∧ 0 ≤ w ∧ w ≤ 3 then (if w = 0 then s.1 (1 + k.toNat) else if w = 1 then s.1 (7 + k.toNat) else if w = 2 then sumT (fun j => s.1 (1 + j)) k.toNat else cnt (feetP s.1 k) (s.1 19).toNat) else -1
def atX (s : St) (d : Int) : Int := if 0 ≤ d ∧ d ≤ 200000 then (if (layR s.1 d : Int) < s.1 0 then layR s.1 d else -4) else -1
def setX (s : St) (k v : Int) : Int × St := if (0 ≤ k ∧ k < 6) ∧ leastS.getD k.toNat 0 ≤ v ∧ v ≤ mostS.getD k.toNat 0 then (s.1 (13 + k.toNat), chS s (settR s.1 k.toNat v)) else (-1, s)
def looseP (r : Row) : Nat → Bool := fun j => decide (r (24 + 91 * j + 6) = 1)
def freshP (r : Row) : Nat → Bool := fun j => decide (r (24 + 91 * j + 4) = 0)
def countX (s : St) (w : Int) : Int := if 10 ≤ w ∧ w ≤ 15 then s.1 (13 + (w - 10).toNat) else if w = 0 then s.1 0 else if w = 1 then s.1 19 else if w = 2 then cnt (looseP s.1) (s.1 19).toNat else if w = 3 then s.1 20 else if w = 4 then s.2.2.1 else if w = 5 then s.2.2.2.1 else if w = 6 then sumT (fun j => s.1 (24 + 91 * j + 3)) (s.1 19).toNat else if w = 20 then s.1 934 else if w = 21 then s.1 935 else if w = 22 then s.1 21 else if w = 23 then s.1 22 else if w = 24 then s.1 23 else -1
def takenP (r : Row) (x y : Int) : Nat → Bool := fun j => decide (r (24 + 91 * j + 0) = x) && decide (r (24 + 91 * j + 1) = y)
def pileX (s : St) (x y t : Int) : Int × St := if (0 ≤ x ∧ x ≤ 20000) ∧ (0 ≤ y ∧ y ≤ 20000) ∧ 1000 ≤ t ∧ t ≤ 50000 then (if 0 < cnt (takenP s.1 x y) (s.1 19).toNat then (-2, s) else if s.1 19 = 10 then (-3, s) else (s.1 19, chS s (placeR s.1 x y t))) else (-1, s)
def allowR (r : Row) (i : Nat) : Int := if r (24 + 91 * i + 6) = 1 then r (24 + 91 * i + 5) * 100 / r 16 / 2 else r (24 + 91 * i + 5) * 100 / r 16
def pileOfX (s : St) (p w : Int) : Int := if (0 ≤ p ∧ p < s.1 19) ∧ 0 ≤ w ∧ w ≤ 12 then (if w = 5 then (if s.1 (24 + 91 * p.toNat + 4) = 0 then -4 else s.1 (24 + 91 * p.toNat + 5)) else if w = 6 then (if s.1 (24 + 91 * p.toNat + 4) = 0 then -4 else allowR s.1 p.toNat) else if w = 7 then s.1 (24 + 91 * p.toNat + 6) else if w = 8 then s.1 (24 + 91 * p.toNat + 7) else if w = 9 then s.1 (24 + 91 * p.toNat + 8) else if w = 10 then s.1 (24 + 91 * p.toNat + 9) else if w = 11 then cnt (fun j => nearB s.1 p.toNat j) (s.1 19).toNat else if w = 12 then s.1 (24 + 91 * p.toNat + 10) else s.1 (24 + 91 * p.toNat + w.toNat)) else -1
def blowX (s : St) (p i w : Int) : Int := if (0 ≤ p ∧ p < s.1 19) ∧ 0 ≤ i ∧ 0 ≤ w ∧ w ≤ 1 then (if s.1 (24 + 91 * p.toNat + 10) ≤ i then -4 else if w = 0 then s.1 (24 + 91 * p.toNat + 11 + (s.1 (24 + 91 * p.toNat + 10) - 1 - i).toNat) else s.1 (24 + 91 * p.toNat + 51 + (s.1 (24 + 91 * p.toNat + 10) - 1 - i).toNat)) else -1
def downP (r : Row) (p : Nat) : Prop := r (24 + 91 * p + 2) ≤ r (24 + 91 * p + 3)
def strikeX (s : St) (p h : Int) : Int × St := if (0 ≤ p ∧ p < s.1 19) ∧ 100 ≤ h ∧ h ≤ 3000 then (if s.1 (24 + 91 * p.toNat + 2) ≤ s.1 (24 + 91 * p.toNat + 3) then (-2, s) else (blowS s.1 p.toNat h, chS s (hitR s.1 p.toNat h))) else (-1, s)
/-- blows alike until a set is at most e, or the pile is down, or there were n -/
def driveR (p : Nat) (h e : Int) : Nat → Row → Row × Int
  | 0, r => (r, 0)
  | n + 1, r => if e < blowS r p h ∧ hitR r p h (24 + 91 * p + 3) < hitR r p h (24 + 91 * p + 2) then ((driveR p h e n (hitR r p h)).1, (driveR p h e n (hitR r p h)).2 + 1) else (hitR r p h, 1)
def driveX (s : St) (p h e m : Int) : Int × St := if (0 ≤ p ∧ p < s.1 19) ∧ (100 ≤ h ∧ h ≤ 3000) ∧ (0 ≤ e ∧ e ≤ 500) ∧ 1 ≤ m ∧ m ≤ 100 then (if s.1 (24 + 91 * p.toNat + 2) ≤ s.1 (24 + 91 * p.toNat + 3) then (-2, s) else ((driveR p.toNat h e m.toNat s.1).2, chS s (driveR p.toNat h e m.toNat s.1).1)) else (-1, s)
def wouldX (s : St) (p h : Int) : Int := if (0 ≤ p ∧ p < s.1 19) ∧ 100 ≤ h ∧ h ≤ 3000 then (if s.1 (24 + 91 * p.toNat + 2) ≤ s.1 (24 + 91 * p.toNat + 3) then -2 else blowS s.1 p.toNat h) else -1
/-- the least fall from h on, n falls being left; none: -4 -/
def fallR (r : Row) (p : Nat) (e : Int) : Nat → Int → Int
  | 0, _ => -4
  | n + 1, h => if e ≤ blowS r p h then h else fallR r p e n (h + 1)
def fallForX (s : St) (p e : Int) : Int := if (0 ≤ p ∧ p < s.1 19) ∧ 0 ≤ e ∧ e ≤ 500 then (if s.1 (24 + 91 * p.toNat + 2) ≤ s.1 (24 + 91 * p.toNat + 3) then -2 else fallR s.1 p.toNat e 2901 100) else -1
def testX (s : St) (p f : Int) : Int × St := if (0 ≤ p ∧ p < s.1 19) ∧ 1 ≤ f ∧ f ≤ 100000 then ((if f ≤ heldR s.1 p.toNat then 0 else pressZ s.1 p.toNat f), chS s (if f ≤ heldR s.1 p.toNat then s.1 else press1R s.1 p.toNat (pressZ s.1 p.toNat f))) else (-1, s)
def undoX (s : St) : Int × St := if s.2.2.1 = 0 then (-2, s) else (((s.2.2.1 - 1 : Nat) : Int), (s.2.1 (s.2.2.1 - 1), s.2.1, s.2.2.1 - 1, s.2.2.2.1, s.2.2.2.2))
def typeX (s : St) (c : Int) : Int × St := if 32 ≤ c ∧ c ≤ 126 then (if s.2.2.2.1 = 80 then (-3, s) else (((s.2.2.2.1 + 1 : Nat) : Int), (s.1, s.2.1, s.2.2.1, s.2.2.2.1 + 1, fun j => if j = s.2.2.2.1 then c else s.2.2.2.2 j))) else (-1, s)
def clearX (s : St) : Int × St := ((s.2.2.2.1 : Int), (s.1, s.2.1, s.2.2.1, 0, s.2.2.2.2))
