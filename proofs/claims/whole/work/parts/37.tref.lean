/-! records, as the reference reads them -/
def rA (C : Int → Int) (s : Int) : Int := dg C 4 (s + 2)
def rB (C : Int → Int) (s : Int) : Int := dg C 2 (s + 2 + rA C s + 1)
def qF (C : Int → Int) (s : Int) : Prop := dg C 1 s = 1 ∧ C (s + 1) = 58 ∧ 3 ≤ rA C s ∧ (C (s + 2 + rA C s) = 42 ∧ 1 ≤ rB C s ∧ C (s + 2 + rA C s + 1 + rB C s) = 59 ∨ C (s + 2 + rA C s) = 59)
theorem qF_iff {C : Int → Int} {s : Int} : qF C s ↔ pF C s := by
  have m1 := dg_min C 1 80 s (by omega)
  have b1 := dg_bd C 80 s
  have e1 := dg_at C 80 s 1 (by omega)
  have x1 := dg_end C 80 s
  have m2 := dg_min C 4 80 (s + 2) (by omega)
  have b2 := dg_bd C 80 (s + 2)
  have e2 := dg_at C 80 (s + 2) 4 (by omega)
  constructor
  · rintro ⟨h1, h2, h3, h4⟩
    unfold rA at h3
    have hA : dg C 4 (s + 2) = dg C 80 (s + 2) := by
      by_cases q : dg C 80 (s + 2) ≤ 4
      · omega
      · have e := e2 (by omega)
        have z : rA C s = 4 := by unfold rA; omega
        rw [z] at h4
        omega
    have hA' : rA C s = dA C s := hA
    have hd1 : dg C 80 s = 1 := by omega
    refine ⟨hd1, h2, by unfold dA; omega, ?_⟩
    rcases h4 with ⟨a, b, c⟩ | a
    · left
      have m3 := dg_min C 2 80 (s + 2 + rA C s + 1) (by omega)
      have b3 := dg_bd C 80 (s + 2 + rA C s + 1)
      have e3 := dg_at C 80 (s + 2 + rA C s + 1) 2 (by omega)
      have hB : rB C s = dg C 80 (s + 2 + rA C s + 1) := by
        by_cases q : dg C 80 (s + 2 + rA C s + 1) ≤ 2
        · unfold rB; omega
        · have e := e3 (by omega)
          have z : rB C s = 2 := by unfold rB; omega
          rw [z] at c
          omega
      have hB' : rB C s = dB C s := by rw [hB]; unfold dB; rw [hA']
      rw [← hA', ← hB']
      have b4 := dg_bd C 2 (s + 2 + rA C s + 1)
      exact ⟨a, ⟨b, by unfold rB; omega⟩, c⟩
    · right
      rw [← hA']; exact a
  · rintro ⟨h1, h2, h3, h4⟩
    have hA : rA C s = dA C s := by unfold rA dA; unfold dA at h3; omega
    refine ⟨by omega, h2, by omega, ?_⟩
    rw [hA]
    rcases h4 with ⟨a, b, c⟩ | a
    · left
      have m3 := dg_min C 2 80 (s + 2 + dA C s + 1) (by omega)
      have hB : rB C s = dB C s := by unfold rB; rw [hA]; unfold dB; unfold dB at b; omega
      rw [hB]
      exact ⟨a, b.1, c⟩
    · exact Or.inr a
theorem qF.v {C : Int → Int} {s : Int} (h : qF C s) : pH C s = num C (s + 2) (dg C 4 (s + 2)).toNat ∧ (C (s + 2 + dg C 4 (s + 2)) = 42 → pT C s = num C (s + 2 + dg C 4 (s + 2) + 1) (dg C 2 (s + 2 + dg C 4 (s + 2) + 1)).toNat ∧ pE C s = s + 2 + dg C 4 (s + 2) + 1 + dg C 2 (s + 2 + dg C 4 (s + 2) + 1) + 1) ∧ (¬ C (s + 2 + dg C 4 (s + 2)) = 42 → pT C s = 1 ∧ pE C s = s + 2 + dg C 4 (s + 2) + 1) := by
  have hp := qF_iff.mp h
  obtain ⟨h1, h2, h3, h4⟩ := hp
  have m2 := dg_min C 4 80 (s + 2) (by omega)
  have hA : dg C 4 (s + 2) = dA C s := by unfold dA; unfold dA at h3; omega
  rw [hA]
  refine ⟨rfl, fun q => ?_, fun q => ?_⟩
  · have m3 := dg_min C 2 80 (s + 2 + dA C s + 1) (by omega)
    have hB : dg C 2 (s + 2 + dA C s + 1) = dB C s := by
      rcases h4 with ⟨a, b, c⟩ | a
      · unfold dB; unfold dB at b; omega
      · omega
    rw [hB]
    unfold pT pE
    rw [if_pos q, if_pos q]
    exact ⟨rfl, rfl⟩
  · unfold pT pE
    rw [if_neg q, if_neg q]
    exact ⟨rfl, rfl⟩
theorem MT.ch {σ : Mem} {L : Nat} {t : Nat → Int} (h : MT σ L t) {p : Int} (h0 : 0 ≤ p) (h1 : p < L) : σ 17 p.toNat = chT L t p := by
  unfold chT
  rw [if_pos ⟨h0, h1⟩]
  exact h.2.2 p.toNat (by omega)
theorem ch_out {L : Nat} {t : Nat → Int} {p : Int} (h : ¬ p < L) : chT L t p = 0 := by unfold chT; rw [if_neg (by omega)]
def frD (b : Nat) (σ σ' : Mem) : Prop := ∀ x j, ¬ (x = 12 ∧ 17 ≤ j ∧ j ≤ b) → σ' x j = σ x j
theorem frD.refl {b : Nat} {σ : Mem} : frD b σ σ := fun _ _ _ => rfl
theorem frD.trans {b : Nat} {σ τ υ : Mem} (h : frD b σ τ) (k : frD b τ υ) : frD b σ υ := fun x j q => (k x j q).trans (h x j q)
theorem frD.up {b : Nat} {σ τ : Mem} (h : frD b σ τ) {j : Nat} {z : Int} (hj : 17 ≤ j ∧ j ≤ b) : frD b σ (up τ 12 j z) := fun x i q => by
  rw [up_ne _ _ (show x ≠ 12 ∨ i ≠ j from by by_cases e : x = 12; exact Or.inr (fun e2 => q ⟨e, by omega⟩); exact Or.inl e)]
  exact h x i q
theorem frD.mono {b b' : Nat} {σ τ : Mem} (h : frD b σ τ) (hb : b ≤ b') : frD b' σ τ := fun x j q => h x j (fun y => q ⟨y.1, y.2.1, by omega⟩)
theorem frD.c {b : Nat} {σ τ : Mem} (h : frD b σ τ) {x : Nat} (hx : x ≠ 12) : τ x = σ x := funext fun j => h x j (fun q => hx q.1)
theorem MT.fD {b : Nat} {σ τ : Mem} {L : Nat} {t : Nat → Int} (h : MT σ L t) (hf : frD b σ τ) : MT τ L t :=
  ⟨h.1, by rw [hf 12 6 (by omega)]; exact h.2.1, fun j hj => by rw [hf 17 j (by omega)]; exact h.2.2 j hj⟩
theorem RR.fD {b : Nat} {σ τ : Mem} {r : Row} (h : RR σ r) (hf : frD b σ τ) : RR τ r := h.fr (hf.c (by decide)) (hf.c (by decide))
theorem MH.fD {b : Nat} {σ τ : Mem} {hs : Nat → Row} {n : Nat} (h : MH σ hs n) (hf : frD b σ τ) : MH τ hs n := by
  obtain ⟨h1, h2, h3⟩ := h
  refine ⟨h1, by rw [hf 12 4 (by omega)]; exact h2, ?_⟩
  rw [hf.c (show 14 ≠ 12 by decide), hf.c (show 16 ≠ 12 by decide)]
  exact h3
theorem MRep.fD {b : Nat} {σ τ : Mem} {s : St} (h : MRep σ s) (hf : frD b σ τ) : MRep τ s := ⟨h.1.fD hf, h.2.1.fD hf, h.2.2.fD hf⟩
theorem frD.C {b : Nat} {σ τ : Mem} (h : frD b σ τ) : frC σ τ := fun x hx => h.c (by omega)
theorem mcarry_fin {σ τ0 μ χ υ : Mem} {s : St} {ρ : Row} (hM : MRep σ s) (f0 : frD 21 σ τ0) (hH : MH μ (pushH s.2.1 s.2.2.1 s.1) (min 4 (s.2.2.1 + 1))) (hF : ∀ x, x ≠ 12 → x ≠ 14 → x ≠ 16 → μ x = τ0 x) (hG : ∀ j, j ≠ 4 → μ 12 j = τ0 12 j) (h4 : RR χ ρ) (h5 : ∀ x j, x ≠ 13 → x ≠ 15 → ¬ (x = 12 ∧ 17 ≤ j ∧ j ≤ 20) → χ x j = μ x j) (f3 : frD 20 χ υ) : MRep υ (chS s ρ) ∧ frC σ υ := by
  obtain ⟨m1, m2, m3⟩ := hM
  obtain ⟨t1, t2, t3⟩ := m3
  refine ⟨⟨h4.fD f3, ?_, ⟨t1, ?_, fun j hj => ?_⟩⟩, fun x hx => ?_⟩
  · obtain ⟨a1, a2, a3⟩ := hH
    refine ⟨a1, by rw [f3 12 4 (by omega), h5 12 4 (by decide) (by decide) (by omega)]; exact a2, fun i hi => ?_⟩
    obtain ⟨b1, b2, b3⟩ := a3 i hi
    have e14 : ∀ j, υ 14 j = μ 14 j := fun j => by rw [f3 14 j (by omega), h5 14 j (by decide) (by decide) (by omega)]
    have e16 : ∀ j, υ 16 j = μ 16 j := fun j => by rw [f3 16 j (by omega), h5 16 j (by decide) (by decide) (by omega)]
    exact ⟨fun j hj => by rw [e14]; exact b1 j hj, by rw [e16]; exact b2, by rw [e16]; exact b3⟩
  · show υ 12 6 = _
    rw [f3 12 6 (by omega), h5 12 6 (by decide) (by decide) (by omega), hG 6 (by decide), f0 12 6 (by omega)]
    exact t2
  · rw [f3 17 j (by omega), h5 17 j (by decide) (by decide) (by omega), hF 17 (by decide) (by decide) (by decide), f0 17 j (by omega)]
    exact t3 j hj
  · funext j
    rw [f3 x j (by omega), h5 x j (by omega) (by omega) (by omega), hF x (by omega) (by omega) (by omega), f0 x j (by omega)]
theorem blowsN_nn {r : Row} {e len d : Int} : ∀ (k : Nat) (f : Int), blowsN r e len d k f = -4 ∨ 0 ≤ blowsN r e len d k f
  | 0, f => by rw [blowsN]; split <;> omega
  | k + 1, f => by
    have q := blowsN_nn (r := r) (e := e) (len := len) (d := d) k (f + setR r e f len)
    rw [blowsN]
    split
    · split
      · omega
      · split <;> omega
    · omega
theorem blowsN_step {r : Row} {e len d T f n : Int} {fu : Nat} (hf : f < d) (hfu : d - f ≤ fu) (hz : ¬ setR r e f len = 0) (h : (T = -4 ↔ blowsN r e len d fu f = -4) ∧ (¬ T = -4 → T = blowsN r e len d fu f + n)) : (T = -4 ↔ blowsN r e len d (fu - 1) (f + setR r e f len) = -4) ∧ (¬ T = -4 → T = blowsN r e len d (fu - 1) (f + setR r e f len) + (n + 1)) := by
  obtain ⟨q, rfl⟩ : ∃ q, fu = q + 1 := ⟨fu - 1, by omega⟩
  rw [Nat.add_sub_cancel]
  rw [blowsN, if_pos hf, if_neg hz] at h
  have nn := blowsN_nn (r := r) (e := e) (len := len) (d := d) q (f + setR r e f len)
  by_cases z : blowsN r e len d q (f + setR r e f len) = -4
  · rw [if_pos z] at h
    exact ⟨⟨fun _ => z, fun _ => h.1.mpr rfl⟩, fun y => absurd (h.1.mpr rfl) y⟩
  · rw [if_neg z] at h
    exact ⟨⟨fun y => by have := h.1.mp y; omega, fun y => absurd y z⟩, fun y => by have := h.2 y; omega⟩
