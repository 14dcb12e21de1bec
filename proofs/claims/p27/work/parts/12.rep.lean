/-! a state as a row of numbers (934 places as the reference has them; 934, 935: the sums of energy, of work), and how the class's cells hold it -/
abbrev Row : Type := Nat → Int
def PRep (σ : Mem) (c : Nat) (r : Row) (i : Nat) : Prop := (∀ k, k < 10 → σ c (3 + k) = r (24 + 91 * i + k)) ∧ σ c 2 = r (24 + 91 * i + 10) ∧ ∀ j : Nat, (j : Int) < r (24 + 91 * i + 10) → σ (c + 1) j = r (24 + 91 * i + 11 + j) ∧ σ (c + 2) j = r (24 + 91 * i + 51 + j)
def SRep (σ : Mem) (B : Nat) (r : Row) : Prop := σ (B + 1) 2 = r 0 ∧ (∀ j, j < 6 → σ (B + 1 + 1) j = r (1 + j)) ∧ (∀ j, j < 6 → σ (B + 1 + 2) j = r (7 + j)) ∧ (∀ j, j < 6 → σ (B + 4) j = r (13 + j)) ∧ σ B 3 = r 19 ∧ (σ B 4 = r 20 ∧ σ B 5 = r 934 ∧ σ B 6 = r 935 ∧ σ B 7 = r 21 ∧ σ B 8 = r 22 ∧ σ B 9 = r 23) ∧ ∀ i : Nat, (i : Int) < r 19 → PRep σ (B + 5 + 1 + 3 * i) r i
def PInv (r : Row) (N : Int) (i : Nat) : Prop := (0 ≤ r (24 + 91 * i + 0) ∧ r (24 + 91 * i + 0) ≤ 20000) ∧ (0 ≤ r (24 + 91 * i + 1) ∧ r (24 + 91 * i + 1) ≤ 20000) ∧ (1000 ≤ r (24 + 91 * i + 2) ∧ r (24 + 91 * i + 2) ≤ 50000) ∧ (0 ≤ r (24 + 91 * i + 3) ∧ r (24 + 91 * i + 3) ≤ r (24 + 91 * i + 2)) ∧ (0 ≤ r (24 + 91 * i + 4) ∧ r (24 + 91 * i + 4) ≤ N) ∧ (0 ≤ r (24 + 91 * i + 5) ∧ r (24 + 91 * i + 5) ≤ 100000) ∧ (r (24 + 91 * i + 6) = 0 ∨ r (24 + 91 * i + 6) = 1) ∧ (0 ≤ r (24 + 91 * i + 10) ∧ r (24 + 91 * i + 10) ≤ 40)
def RInv (r : Row) (N : Int) : Prop := (1 ≤ r 0 ∧ r 0 ≤ 6) ∧ (∀ j, j < 6 → 0 ≤ r (1 + j) ∧ r (1 + j) ≤ 20000) ∧ (∀ j : Nat, (j : Int) < r 0 → 100 ≤ r (1 + j) ∧ 1 ≤ r (7 + j) ∧ r (7 + j) ≤ 500) ∧ ((100 ≤ r 13 ∧ r 13 ≤ 10000) ∧ (10 ≤ r 14 ∧ r 14 ≤ 100) ∧ (0 ≤ r 15 ∧ r 15 ≤ 50) ∧ (100 ≤ r 16 ∧ r 16 ≤ 500) ∧ (0 ≤ r 17 ∧ r 17 ≤ 10000) ∧ (0 ≤ r 18 ∧ r 18 ≤ 50)) ∧ (0 ≤ r 19 ∧ r 19 ≤ 10) ∧ ((0 ≤ r 20 ∧ r 20 ≤ N) ∧ (0 ≤ r 21 ∧ r 21 ≤ 500 * N) ∧ (0 ≤ r 22 ∧ r 22 ≤ 2250 * N) ∧ (0 ≤ r 23 ∧ r 23 ≤ 100 * N) ∧ N ≤ 400000) ∧ ∀ i : Nat, (i : Int) < r 19 → PInv r N i
/-! spec words over rows -/
def layR (r : Row) (d : Int) : Nat := lay (fun j => r (1 + j)) d (r 0).toNat 0 0
def hardR (r : Row) (d : Int) : Int := if (layR r d : Int) < r 0 then r (7 + layR r d) else 2000
def energyR (r : Row) (h : Int) : Int := r 13 * h * r 14 / 10000
def freeR (r : Row) (e res : Int) : Int := min 500 (max 0 (e / res - r 15))
def setR (r : Row) (e foot len : Int) : Int := min (len - foot) (freeR r e (hardR r foot))
def loadR (r : Row) (e s : Int) : Int := if s + r 15 ≤ 0 then 100000 else min 100000 (e / (s + r 15))
def adist (a b : Int) : Int := if 0 ≤ a - b then a - b else -(a - b)
def nearB (r : Row) (i j : Nat) : Bool := decide (i ≠ j) && (decide (adist (r (24 + 91 * i + 0)) (r (24 + 91 * j + 0)) ≤ r 17) && decide (adist (r (24 + 91 * i + 1)) (r (24 + 91 * j + 1)) ≤ r 17))
def liftR (foot struck lift : Int) : Int := if 0 < foot ∧ foot < struck then min foot lift else 0
def byR (r : Row) (s : Int) : Int := s * r 18 / 100
/-- how many of the first n hold -/
def cnt (p : Nat → Bool) : Nat → Int
  | 0 => 0
  | n + 1 => cnt p n + (if p n then 1 else 0)
theorem cnt_bd (p : Nat → Bool) : ∀ n, 0 ≤ cnt p n ∧ cnt p n ≤ n
  | 0 => by simp [cnt]
  | n + 1 => by
    have := cnt_bd p n
    rw [cnt]
    split <;> omega
theorem nearB_iff {r : Row} {i j : Nat} : nearB r i j = true ↔ i ≠ j ∧ adist (r (24 + 91 * i + 0)) (r (24 + 91 * j + 0)) ≤ r 17 ∧ adist (r (24 + 91 * i + 1)) (r (24 + 91 * j + 1)) ≤ r 17 := by
  unfold nearB
  simp only [Bool.and_eq_true, decide_eq_true_eq]
/-! what follows of them -/
theorem SRep.g {σ : Mem} {B : Nat} {r : Row} {N : Int} (h : SRep σ B r) (hR : RInv r N) : GInv σ (B + 1) := by
  obtain ⟨s0, s1, -⟩ := h
  obtain ⟨r0, r1, -⟩ := hR
  refine ⟨by omega, by omega, fun j hj => ?_⟩
  rw [s1 j hj]
  exact r1 j hj
theorem lay_eq {σ : Mem} {B : Nat} {r : Row} {N : Int} (h : SRep σ B r) (hR : RInv r N) (d : Int) : lay (σ (B + 1 + 1)) d (σ (B + 1) 2).toNat 0 0 = layR r d := by
  obtain ⟨s0, s1, -⟩ := h
  obtain ⟨r0, -⟩ := hR
  unfold layR
  rw [s0]
  exact lay_congr _ 0 0 (fun j hj => s1 j (by omega))
theorem layR_le (r : Row) (d : Int) : layR r d ≤ (r 0).toNat := by
  have := lay_le (fun j => r (1 + j)) d (r 0).toNat 0 0
  unfold layR
  omega
theorem hard_eq {σ : Mem} {B : Nat} {r : Row} {N : Int} (h : SRep σ B r) (hR : RInv r N) (d : Int) : (if 0 ≤ ((lay (σ (B + 1 + 1)) d (σ (B + 1) 2).toNat 0 0 : Nat) : Int) ∧ ((lay (σ (B + 1 + 1)) d (σ (B + 1) 2).toNat 0 0 : Nat) : Int) < σ (B + 1) 2 then σ (B + 1 + 2) ((lay (σ (B + 1 + 1)) d (σ (B + 1) 2).toNat 0 0 : Nat) : Int).toNat else 2000) = hardR r d := by
  rw [lay_eq h hR]
  obtain ⟨s0, s1, s2, -⟩ := h
  obtain ⟨r0, -⟩ := hR
  unfold hardR
  rw [s0, Int.toNat_natCast]
  by_cases hl : (layR r d : Int) < r 0
  · rw [if_pos ⟨by omega, hl⟩, if_pos hl, s2 _ (by omega)]
  · rw [if_neg (fun q => hl q.2), if_neg hl]
theorem hardR_bd {r : Row} {N : Int} (hR : RInv r N) (d : Int) : 1 ≤ hardR r d ∧ hardR r d ≤ 2000 := by
  unfold hardR
  split
  · rename_i h
    have := hR.2.2.1 (layR r d) h
    omega
  · omega
theorem energyR_bd {r : Row} {N : Int} (hR : RInv r N) {h : Int} (h0 : 0 ≤ h) (h1 : h ≤ 3000) : (0 ≤ r 13 * h ∧ r 13 * h ≤ 30000000) ∧ (0 ≤ r 13 * h * r 14 ∧ r 13 * h * r 14 ≤ 3000000000) ∧ 0 ≤ energyR r h ∧ energyR r h ≤ 300000 := by
  obtain ⟨-, -, -, ⟨⟨a1, a2⟩, ⟨b1, b2⟩, -⟩, -⟩ := hR
  have e1 : 0 ≤ r 13 * h := Int.mul_nonneg (by omega) h0
  have e2 : r 13 * h ≤ 10000 * 3000 := Int.mul_le_mul a2 h1 h0 (by decide)
  have e3 : 0 ≤ r 13 * h * r 14 := Int.mul_nonneg e1 (by omega)
  have e4 : r 13 * h * r 14 ≤ 30000000 * 100 := Int.mul_le_mul (by omega) b2 (by omega) (by decide)
  unfold energyR
  refine ⟨⟨e1, by omega⟩, ⟨e3, by omega⟩, ?_, ?_⟩ <;> omega
theorem div_bd {a b M : Int} (ha : 0 ≤ a) (hM : a ≤ M) (hb : 1 ≤ b) : 0 ≤ a / b ∧ a / b ≤ M := by
  refine ⟨Int.ediv_nonneg ha (by omega), Int.le_trans (Int.ediv_le_self b ha) hM⟩
theorem freeR_bd (r : Row) (e res : Int) : 0 ≤ freeR r e res ∧ freeR r e res ≤ 500 := by
  unfold freeR
  omega
theorem setR_bd (r : Row) (e foot len : Int) (h : foot ≤ len) : 0 ≤ setR r e foot len ∧ setR r e foot len ≤ 500 ∧ setR r e foot len ≤ len - foot := by
  have := freeR_bd r e (hardR r foot)
  unfold setR
  omega
theorem byR_bd {r : Row} {N : Int} (hR : RInv r N) {s : Int} (h0 : 0 ≤ s) (h1 : s ≤ 500) : (0 ≤ s * r 18 ∧ s * r 18 ≤ 25000) ∧ 0 ≤ byR r s ∧ byR r s ≤ 250 := by
  obtain ⟨-, -, -, ⟨-, -, -, -, -, ⟨a1, a2⟩⟩, -⟩ := hR
  have e1 : 0 ≤ s * r 18 := Int.mul_nonneg h0 a1
  have e2 : s * r 18 ≤ 500 * 50 := Int.mul_le_mul h1 a2 a1 (by decide)
  unfold byR
  refine ⟨⟨e1, by omega⟩, ?_, ?_⟩ <;> omega
theorem loadR_bd {r : Row} {e s : Int} (he : 0 ≤ e) (he2 : e ≤ 300000) : 0 ≤ loadR r e s ∧ loadR r e s ≤ 100000 := by
  unfold loadR
  split
  · omega
  · rename_i h
    have := div_bd he he2 (show 1 ≤ s + r 15 by omega)
    omega
theorem adist_bd {a b : Int} (ha : 0 ≤ a ∧ a ≤ 20000) (hb : 0 ≤ b ∧ b ≤ 20000) : 0 ≤ adist a b ∧ adist a b ≤ 20000 := by
  unfold adist
  split <;> omega
theorem PRep.f {σ : Mem} {c i : Nat} {r : Row} (h : PRep σ c r i) : σ c 2 = r (24 + 91 * i + 10) ∧ σ c 3 = r (24 + 91 * i + 0) ∧ σ c 4 = r (24 + 91 * i + 1) ∧ σ c 5 = r (24 + 91 * i + 2) ∧ σ c 6 = r (24 + 91 * i + 3) ∧ σ c 7 = r (24 + 91 * i + 4) ∧ σ c 8 = r (24 + 91 * i + 5) ∧ σ c 9 = r (24 + 91 * i + 6) ∧ σ c 10 = r (24 + 91 * i + 7) ∧ σ c 11 = r (24 + 91 * i + 8) ∧ σ c 12 = r (24 + 91 * i + 9) :=
  ⟨h.2.1, h.1 0 (by decide), h.1 1 (by decide), h.1 2 (by decide), h.1 3 (by decide), h.1 4 (by decide), h.1 5 (by decide), h.1 6 (by decide), h.1 7 (by decide), h.1 8 (by decide), h.1 9 (by decide)⟩
