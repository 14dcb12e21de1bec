/-! the pure words: numbers of the ground, of piles, as rows of whole numbers -/
theorem Int.lt_toNat_succ (M : Int) : M < (((M + 1).toNat : Nat) : Int) := by omega
/-- the first layer from i on whose bottom is below d; n layers are left, b is the bottom so far -/
def lay (th : Nat → Int) (d : Int) : Nat → Nat → Int → Nat
  | 0, i, _ => i
  | n + 1, i, b => if d < b + th i then i else lay th d n (i + 1) (b + th i)
def sumT (th : Nat → Int) : Nat → Int
  | 0 => 0
  | n + 1 => sumT th n + th n
theorem lay_le (th : Nat → Int) (d : Int) : ∀ (n i : Nat) (b : Int), i ≤ lay th d n i b ∧ lay th d n i b ≤ i + n
  | 0, i, b => ⟨Nat.le_refl _, Nat.le_refl _⟩
  | n + 1, i, b => by
    rw [lay]
    split
    · exact ⟨Nat.le_refl _, by omega⟩
    · have := lay_le th d n (i + 1) (b + th i)
      omega
theorem lay_congr {th th' : Nat → Int} {d : Int} : ∀ (n i : Nat) (b : Int), (∀ j, j < i + n → th j = th' j) → lay th d n i b = lay th' d n i b
  | 0, i, b, h => rfl
  | n + 1, i, b, h => by
    rw [lay, lay, h i (by omega), lay_congr n (i + 1) (b + th' i) (fun j hj => h j (by omega))]
theorem sumT_congr {th th' : Nat → Int} : ∀ (n : Nat), (∀ j, j < n → th j = th' j) → sumT th n = sumT th' n
  | 0, _ => rfl
  | n + 1, h => by rw [sumT, sumT, sumT_congr n (fun j hj => h j (by omega)), h n (by omega)]
theorem sumT_bd {th : Nat → Int} {M : Int} : ∀ (n : Nat), (∀ j, j < n → 0 ≤ th j ∧ th j ≤ M) → 0 ≤ sumT th n ∧ sumT th n ≤ M * n
  | 0, _ => by simp [sumT]
  | n + 1, h => by
    have h1 := sumT_bd n (fun j hj => h j (by omega))
    have h2 := h n (by omega)
    rw [sumT]
    have e : M * ((n + 1 : Nat) : Int) = M * n + M := by rw [Int.natCast_add, Int.mul_add]; omega
    rw [e]
    omega
def GInv (σ : Mem) (c : Nat) : Prop := 0 ≤ σ c 2 ∧ σ c 2 ≤ 6 ∧ ∀ j, j < 6 → 0 ≤ σ (c + 1) j ∧ σ (c + 1) j ≤ 20000
