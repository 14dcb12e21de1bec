/-! how many blows to a depth -/
def blowsN (r : Row) (e len d : Int) : Nat → Int → Int
  | 0, f => if f < d then -4 else 0
  | k + 1, f => if f < d then (if setR r e f len = 0 then -4 else if blowsN r e len d k (f + setR r e f len) = -4 then -4 else blowsN r e len d k (f + setR r e f len) + 1) else 0
def freeN (r : Row) (e d : Int) : Nat → Int → Int
  | 0, f => if f < d then -4 else 0
  | k + 1, f => if f < d then (if freeR r e (hardR r f) = 0 then -4 else if freeN r e d k (f + freeR r e (hardR r f)) = -4 then -4 else freeN r e d k (f + freeR r e (hardR r f)) + 1) else 0
theorem blowsN_done {r : Row} {e len d f : Int} (h : d ≤ f) : ∀ k, blowsN r e len d k f = 0
  | 0 => by rw [blowsN, if_neg (by omega)]
  | k + 1 => by rw [blowsN, if_neg (by omega)]
theorem freeN_done {r : Row} {e d f : Int} (h : d ≤ f) : ∀ k, freeN r e d k f = 0
  | 0 => by rw [freeN, if_neg (by omega)]
  | k + 1 => by rw [freeN, if_neg (by omega)]
theorem blowsN_free {r : Row} {e len d : Int} (hd : d ≤ len) : ∀ (k : Nat) (f : Int), blowsN r e len d k f = freeN r e d k f
  | 0, f => by rw [blowsN, freeN]
  | k + 1, f => by
    rw [blowsN, freeN]
    by_cases h : f < d
    · rw [if_pos h, if_pos h]
      have hb := freeR_bd r e (hardR r f)
      by_cases h2 : freeR r e (hardR r f) ≤ len - f
      · have es : setR r e f len = freeR r e (hardR r f) := by unfold setR; omega
        rw [es, blowsN_free hd k]
      · have es : setR r e f len = len - f := by unfold setR; omega
        rw [es, blowsN_done (by omega), freeN_done (by omega), if_neg (show ¬ len - f = 0 by omega), if_neg (show ¬ freeR r e (hardR r f) = 0 by omega)]
    · rw [if_neg h, if_neg h]
theorem blowsN_short {r : Row} {e len d : Int} (hd : len < d) : ∀ (k : Nat) (f : Int), f ≤ len → blowsN r e len d k f = -4
  | 0, f, h => by rw [blowsN, if_pos (by omega)]
  | k + 1, f, h => by
    rw [blowsN, if_pos (by omega)]
    have hs := setR_bd r e f len h
    rw [blowsN_short hd k _ (by omega)]
    split <;> rfl
/-- the layers: where a depth lies -/
theorem lay_spec {th : Nat → Int} {d : Int} : ∀ (n i : Nat) (b : Int), b ≤ d → (∀ j, i ≤ j → j < i + n → 0 ≤ th j) → (∃ q : Int, q = b + (sumT th (lay th d n i b) - sumT th i) ∧ q ≤ d ∧ (lay th d n i b < i + n → d < q + th (lay th d n i b)))
  | 0, i, b, h, _ => ⟨b, by rw [lay]; omega, h, fun q => by rw [lay] at q; omega⟩
  | n + 1, i, b, h, ht => by
    rw [lay]
    by_cases hd : d < b + th i
    · rw [if_pos hd]
      exact ⟨b, by omega, h, fun _ => hd⟩
    · rw [if_neg hd]
      obtain ⟨q, q1, q2, q3⟩ := lay_spec (th := th) (d := d) n (i + 1) (b + th i) (by omega) (fun j a1 a2 => ht j (by omega) (by omega))
      have e : sumT th (i + 1) = sumT th i + th i := rfl
      exact ⟨q, by rw [q1, e]; omega, q2, fun z => q3 (by omega)⟩
theorem sumT_mono {th : Nat → Int} {i j n : Nat} (hij : i ≤ j) (hj : j ≤ n) (ht : ∀ k, k < n → 0 ≤ th k) : sumT th i ≤ sumT th j := by
  induction j with
  | zero =>
    have : i = 0 := by omega
    subst this
    exact Int.le_refl _
  | succ j ih =>
    by_cases h : i = j + 1
    · subst h; exact Int.le_refl _
    · have h1 := ih (by omega) (by omega)
      have h2 := ht j (by omega)
      rw [show sumT th (j + 1) = sumT th j + th j from rfl]
      omega
abbrev thR (r : Row) : Nat → Int := fun j => r (1 + j)
theorem layR_spec {r : Row} {N : Int} (hR : RInv r N) {d : Int} (hd : 0 ≤ d) : sumT (thR r) (layR r d) ≤ d ∧ ((layR r d : Int) < r 0 → d < sumT (thR r) (layR r d + 1)) := by
  have r0 := hR.1
  obtain ⟨q, q1, q2, q3⟩ := lay_spec (th := thR r) (d := d) (r 0).toNat 0 0 hd (fun j _ hj => (hR.2.1 j (by omega)).1)
  have e : lay (thR r) d (r 0).toNat 0 0 = layR r d := rfl
  rw [e] at q1 q3
  have e0 : sumT (thR r) 0 = 0 := rfl
  rw [e0] at q1
  refine ⟨by omega, fun h => ?_⟩
  have := q3 (by omega)
  rw [show sumT (thR r) (layR r d + 1) = sumT (thR r) (layR r d) + thR r (layR r d) from rfl]
  omega
theorem layR_of {r : Row} {N : Int} (hR : RInv r N) {d : Int} {k : Nat} (hk : (k : Int) ≤ r 0) (h0 : sumT (thR r) k ≤ d) (h1 : (k : Int) < r 0 → d < sumT (thR r) (k + 1)) : layR r d = k := by
  have r0 := hR.1
  have ht : ∀ j, j < 6 → 0 ≤ thR r j := fun j hj => (hR.2.1 j hj).1
  have hz := sumT_mono (th := thR r) (Nat.zero_le k) (show k ≤ 6 by omega) ht
  have e0 : sumT (thR r) 0 = 0 := rfl
  obtain ⟨a, b⟩ := layR_spec hR (d := d) (by omega)
  have hl := layR_le r d
  rcases Nat.lt_trichotomy (layR r d) k with h | h | h
  · have := b (by omega)
    have := sumT_mono (th := thR r) (i := layR r d + 1) (j := k) (n := 6) (by omega) (by omega) ht
    omega
  · exact h
  · have := h1 (by omega)
    have := sumT_mono (th := thR r) (i := k + 1) (j := layR r d) (n := 6) (by omega) (by omega) ht
    omega
/-- blows alike within a layer -/
theorem freeN_run {r : Row} {N e d z en : Int} (hR : RInv r N) {k : Nat} (hk : (k : Int) ≤ r 0) (hz : 0 < z) (hfz : freeR r e (if (k : Int) < r 0 then r (7 + k) else 2000) = z) (hen : en ≤ d) (he2 : (k : Int) < r 0 → en ≤ sumT (thR r) (k + 1)) : ∀ (m fu : Nat) (f : Int), sumT (thR r) k ≤ f → f + ((m : Int) - 1) * z < en → d - f ≤ fu → (freeN r e d fu f = -4 ↔ freeN r e d (fu - m) (f + m * z) = -4) ∧ (¬ freeN r e d fu f = -4 → freeN r e d fu f = freeN r e d (fu - m) (f + m * z) + m)
  | 0, fu, f, _, _, _ => by simp
  | m + 1, fu, f, h0, h1, h2 => by
    have e1 : (((m + 1 : Nat) : Int) - 1) * z = (m : Int) * z := by rw [show (((m + 1 : Nat) : Int) - 1) = (m : Int) by omega]
    have e2 : (((m + 1 : Nat) : Int)) * z = (m : Int) * z + z := by rw [show (((m + 1 : Nat) : Int)) = (m : Int) + 1 by omega, Int.add_mul]; omega
    have e3 : ((m : Int) - 1) * z = (m : Int) * z - z := by rw [Int.sub_mul]; omega
    have hm0 : 0 ≤ (m : Int) * z := Int.mul_nonneg (by omega) (by omega)
    rw [e1] at h1
    have hfd : f < d := by omega
    have hlay : layR r f = k := layR_of hR hk h0 (fun q => by have := he2 q; omega)
    have hh : hardR r f = (if (k : Int) < r 0 then r (7 + k) else 2000) := by unfold hardR; rw [hlay]
    obtain ⟨fu', rfl⟩ : ∃ q, fu = q + 1 := ⟨fu - 1, by omega⟩
    obtain ⟨i1, i2⟩ := freeN_run (d := d) (en := en) hR hk hz hfz hen he2 m fu' (f + z) (by omega) (by rw [e3]; omega) (by omega)
    have e4 : f + ((m + 1 : Nat) : Int) * z = f + z + (m : Int) * z := by rw [e2]; omega
    rw [freeN, if_pos hfd, hh, hfz, if_neg (by omega), e4, show fu' + 1 - (m + 1) = fu' - m by omega]
    by_cases h4 : freeN r e d fu' (f + z) = -4
    · rw [if_pos h4]
      exact ⟨⟨fun _ => i1.mp h4, fun _ => rfl⟩, fun q => absurd rfl q⟩
    · rw [if_neg h4]
      have i3 := i2 h4
      have nb : ∀ (k : Nat) (f : Int), freeN r e d k f = -4 ∨ 0 ≤ freeN r e d k f := by
        intro k
        induction k with
        | zero => intro f; rw [freeN]; split <;> omega
        | succ k ih =>
          intro f
          rw [freeN]
          split
          · split
            · omega
            · split
              · omega
              · rcases ih (f + freeR r e (hardR r f)) with h | h <;> omega
          · omega
      have n1 := nb fu' (f + z)
      have n2 := nb (fu' - m) (f + z + (m : Int) * z)
      refine ⟨⟨fun q => by omega, fun q => absurd (i1.mpr q) h4⟩, fun _ => by omega⟩
def blowsToX (s : St) (p h d : Int) : Int := if (0 ≤ p ∧ p < s.1 19) ∧ (100 ≤ h ∧ h ≤ 3000) ∧ 0 ≤ d ∧ d ≤ 50000 then blowsN s.1 (energyR s.1 h) (s.1 (24 + 91 * p.toNat + 2)) d 50000 (s.1 (24 + 91 * p.toNat + 3)) else -1
theorem ceil_spec {a z : Int} (ha : 0 < a) (hz : 0 < z) : 1 ≤ (a + z - 1) / z ∧ a ≤ (a + z - 1) / z * z ∧ ((a + z - 1) / z - 1) * z < a ∧ (a + z - 1) / z ≤ a ∧ (a + z - 1) / z * z ≤ a + z - 1 := by
  have e := Int.mul_ediv_add_emod (a + z - 1) z
  have m0 := Int.emod_nonneg (a + z - 1) (show z ≠ 0 by omega)
  have m1 := Int.emod_lt_of_pos (a + z - 1) hz
  have c : (a + z - 1) / z * z = z * ((a + z - 1) / z) := Int.mul_comm _ _
  have s : ((a + z - 1) / z - 1) * z = (a + z - 1) / z * z - z := by rw [Int.sub_mul]; omega
  have h1 : 1 ≤ (a + z - 1) / z := by
    have := Int.le_ediv_of_mul_le (a := 1) (b := a + z - 1) hz (by omega)
    exact this
  have h2 : (a + z - 1) / z ≤ a := by
    have h3 : (a + z - 1) / z * 1 ≤ (a + z - 1) / z * z := Int.mul_le_mul_of_nonneg_left (by omega) (by omega)
    by_cases h4 : (a + z - 1) / z = 1
    · omega
    · have h5 : ((a + z - 1) / z - 1) * 1 ≤ ((a + z - 1) / z - 1) * z := Int.mul_le_mul_of_nonneg_left (by omega) (by omega)
      omega
  refine ⟨h1, by omega, by omega, h2, by omega⟩
theorem freeN_zero {r : Row} {N e d f : Int} (hR : RInv r N) {k fu : Nat} (hk : (k : Int) ≤ r 0) (h0 : sumT (thR r) k ≤ f) (h1 : (k : Int) < r 0 → f < sumT (thR r) (k + 1)) (hfd : f < d) (hz : freeR r e (if (k : Int) < r 0 then r (7 + k) else 2000) ≤ 0) (hfu : d - f ≤ fu) : freeN r e d fu f = -4 := by
  have hlay : layR r f = k := layR_of hR hk h0 h1
  have hh : hardR r f = (if (k : Int) < r 0 then r (7 + k) else 2000) := by unfold hardR; rw [hlay]
  obtain ⟨q, rfl⟩ : ∃ q, fu = q + 1 := ⟨fu - 1, by omega⟩
  have hb := freeR_bd r e (if (k : Int) < r 0 then r (7 + k) else 2000)
  rw [freeN, if_pos hfd, hh, if_pos (by omega)]
