/-! lists in memory, feet in memory, rows in memory -/
def LstR (σ : Mem) (c f a : Nat) (p : Nat → Bool) (n : Nat) : Prop := σ c f = ((filt p n).length : Int) ∧ ∀ j, j < (filt p n).length → σ a j = (((filt p n).getD j 0 : Nat) : Int)
theorem filt_le (p : Nat → Bool) {m : Nat} : ∀ n, m ≤ n → (filt p m).length ≤ (filt p n).length
  | 0, h => by
    have : m = 0 := by omega
    rw [this]
    exact Nat.le_refl _
  | n + 1, h => by
    by_cases e : m = n + 1
    · rw [e]; exact Nat.le_refl _
    · have i := filt_le p n (by omega : m ≤ n)
      rw [filt]
      split
      · rw [List.length_append]; omega
      · exact i
theorem filt_n (p : Nat → Bool) (n : Nat) : (filt p n).length ≤ n := by
  have a := filt_len p n
  have b := cnt_bd p n
  omega
theorem filt_s (p : Nat → Bool) {m n : Nat} (h : m < n) (hp : p m = true) : (filt p m).length + 1 ≤ (filt p n).length := by
  have a := filt_le p n (show m + 1 ≤ n by omega)
  have b := (filt_last p m hp).2
  omega
theorem lst_yes {τ : Mem} {c f a : Nat} {p : Nat → Bool} {n : Nat} (h : LstR τ c f a p n) (hp : p n = true) (hac : a ≠ c) {z w : Int} (hz : z = n) {k : Nat} (hk : k = (filt p n).length) (hw : w = ((filt p n).length : Int) + 1) : LstR (up (up τ a k z) c f w) c f a p (n + 1) := by
  subst hz hk hw
  obtain ⟨h1, h2⟩ := h
  obtain ⟨e1, e2⟩ := filt_last p n hp
  refine ⟨by rw [up_same, e2]; omega, fun j hj => ?_⟩
  rw [e2] at hj
  rw [up_ne _ _ (Or.inl hac)]
  by_cases e : j = (filt p n).length
  · subst e; rw [up_same, e1]
  · rw [up_ne _ _ (Or.inr e), h2 j (by omega), filt_snoc p n j (by omega)]
theorem lst_no {τ : Mem} {c f a : Nat} {p : Nat → Bool} {n : Nat} (h : LstR τ c f a p n) (hp : ¬ p n = true) : LstR τ c f a p (n + 1) := by
  unfold LstR
  rw [filt_skip p n hp]
  exact h
theorem LstR.fr {σ τ : Mem} {c f a : Nat} {p : Nat → Bool} {n : Nat} (h : LstR σ c f a p n) (h1 : τ c f = σ c f) (h2 : τ a = σ a) : LstR τ c f a p n := by
  unfold LstR
  rw [h1, h2]
  exact h
def FR (σ : Mem) (c : Nat) (n : Nat) (ft : Ft) : Prop := ∀ q, q < n → σ c q = ft q
theorem FR.put {σ : Mem} {c n : Nat} {ft : Ft} (h : FR σ c n ft) {p : Nat} {z : Int} : FR (up σ c p z) c n (putN ft p z) := by
  intro q hq
  unfold putN
  by_cases e : q = p
  · subst e; rw [up_same, if_pos rfl]
  · rw [up_ne _ _ (Or.inr e), if_neg e]; exact h q hq
theorem FR.fr {σ τ : Mem} {c n : Nat} {ft : Ft} (h : FR σ c n ft) (e : τ c = σ c) : FR τ c n ft := fun q hq => by rw [e]; exact h q hq
theorem fold_z0 {r : Row} {p : Nat} {b : Int} : ∀ (l : List Nat) (x : Ft × Int), l.foldl (stF r p b 0) x = x
  | [], x => rfl
  | q :: l, x => by
    rw [List.foldl_cons]
    have e : stF r p b 0 x q = x := by
      by_cases h : nearB r p q = true
      · have z : byF r p b 0 x.1 q = 0 := by
          unfold byF liftR
          rw [if_pos h]
          split <;> omega
        unfold stF
        rw [z, Int.sub_zero, Int.add_zero, putN_self]
      · exact stF_far h
    rw [e]
    exact fold_z0 l x
theorem take_s {l : List Nat} {i : Nat} (h : i < l.length) : l.take (i + 1) = l.take i ++ [l.getD i 0] := by
  rw [List.take_succ, List.getD_eq_getElem?_getD, List.getElem?_eq_getElem h]
  rfl
def frA (σ σ' : Mem) : Prop := (∀ x, x ≠ 7 → x ≠ 8 → x ≠ 9 → σ' x = σ x) ∧ ∀ j, j ≠ 2 → σ' 7 j = σ 7 j
def frO (σ σ' : Mem) : Prop := ∀ x, x ≠ 7 → x ≠ 8 → x ≠ 9 → x ≠ 10 → x ≠ 11 → σ' x = σ x
theorem frO.refl {σ : Mem} : frO σ σ := fun _ _ _ _ _ _ => rfl
theorem frO.trans {σ τ υ : Mem} (h : frO σ τ) (k : frO τ υ) : frO σ υ := fun x a b c d e => (k x a b c d e).trans (h x a b c d e)
theorem SRep.fO {σ τ : Mem} {r : Row} {N : Int} (h : SRep σ 25 r) (hR : RInv r N) (hf : frO σ τ) : SRep τ 25 r := h.fr hR (fun x _ _ => hf x (by omega) (by omega) (by omega) (by omega) (by omega))
theorem CRep.fO {σ τ : Mem} {s : St} {N : Int} (h : CRep σ s N) (hf : frO σ τ) : CRep τ s N :=
  ⟨h.1.fO h.2.1 hf, h.2.1, h.2.2.1.fr h.2.2.2.1 (fun x _ => hf x (by omega) (by omega) (by omega) (by omega) (by omega)), h.2.2.2.1, h.2.2.2.2.fr (hf 3 (by omega) (by omega) (by omega) (by omega) (by omega)) (hf 4 (by omega) (by omega) (by omega) (by omega) (by omega))⟩
theorem frA.O {σ τ : Mem} (h : frA σ τ) : frO σ τ := fun x a b c _ _ => h.1 x a b c
theorem frA.refl {σ : Mem} : frA σ σ := ⟨fun _ _ _ _ => rfl, fun _ _ => rfl⟩
theorem frA.trans {σ τ υ : Mem} (h : frA σ τ) (k : frA τ υ) : frA σ υ := ⟨fun x a b c => (k.1 x a b c).trans (h.1 x a b c), fun j q => (k.2 j q).trans (h.2 j q)⟩
theorem frA.of8 {σ τ : Mem} (h : ∀ x, x ≠ 8 → τ x = σ x) : frA σ τ := ⟨fun x _ b _ => h x b, fun j _ => by rw [h 7 (by decide)]⟩
/-- rows of places, told by a growing function -/
def Gro (φ : Nat → Int) (n : Nat) : Prop := ∀ i j, i < n → j < n → (φ i < φ j ↔ i < j)
theorem Gro.le {φ : Nat → Int} {n : Nat} (h : Gro φ n) {i j : Nat} (hi : i < n) (hj : j < n) : φ i ≤ φ j ↔ i ≤ j := by
  have := h j i hj hi
  omega
theorem swP_lt {p : Nat → Nat} {n a b : Nat} (h : ∀ i, i < n → p i < n) (ha : a < n) (hb : b < n) : ∀ i, i < n → swP p a b i < n := by
  intro i hi
  unfold swP
  split
  · exact h a ha
  · split
    · exact h b hb
    · exact h i hi
def TR (σ : Mem) (n : Nat) (φ : Nat → Int) (p : Nat → Nat) : Prop := ∀ i, i < n → σ 10 i = φ (p i)
theorem TR.sw {σ : Mem} {n : Nat} {φ : Nat → Int} {p : Nat → Nat} (h : TR σ n φ p) {a b : Nat} (ha : a < n) (hb : b < n) : TR (up (up σ 10 a (σ 10 b)) 10 b (σ 10 a)) n φ (swP p a b) := by
  intro i hi
  unfold swP
  by_cases e : i = b
  · subst e; rw [up_same, if_pos rfl]; exact h a ha
  · rw [up_ne _ _ (Or.inr e), if_neg e]
    by_cases e2 : i = a
    · subst e2; rw [up_same, if_pos rfl]; exact h b hb
    · rw [up_ne _ _ (Or.inr e2), if_neg e2]; exact h i hi
theorem othP_le (p : Nat → Nat) (t : Nat) : ∀ o, othP p t o ≤ o
  | 0 => Nat.le_refl _
  | o + 1 => by
    rw [othP]
    split
    · have := othP_le p t o; omega
    · exact Nat.le_refl _
theorem turnP_lt (p : Nat → Nat) : ∀ t, -1 ≤ turnP p t ∧ turnP p t < t
  | 0 => by simp [turnP]
  | t + 1 => by
    have := turnP_lt p t
    rw [turnP]
    split <;> omega
theorem fresh_gro (r : Row) : Gro (fun i => (((freshL r).getD i 0 : Nat) : Int)) (freshL r).length := by
  intro i j hi hj
  constructor
  · intro h
    by_cases e : i < j
    · exact e
    · by_cases e2 : i = j
      · subst e2; omega
      · have := filt_mono (freshP r) (r 19).toNat j i (by omega) hi
        have h' : (((freshL r).getD i 0 : Nat) : Int) < (((freshL r).getD j 0 : Nat) : Int) := h
        unfold freshL at h'
        omega
  · intro h
    have := filt_mono (freshP r) (r 19).toNat i j h hj
    show (((freshL r).getD i 0 : Nat) : Int) < (((freshL r).getD j 0 : Nat) : Int)
    unfold freshL
    omega
