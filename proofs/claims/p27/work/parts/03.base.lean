/-! ===== numbers as Int ===== -/
def zI (z : Int) : Int32 := Int32.ofInt z
def zL (z : Int) : Int64 := Int64.ofInt z
abbrev iv (z : Int) : Value := Value.int (zI z)
abbrev jv (z : Int) : Value := Value.long (zL z)
abbrev I32 (z : Int) : Prop := -2147483648 ≤ z ∧ z < 2147483648
abbrev I64 (z : Int) : Prop := -9223372036854775808 ≤ z ∧ z < 9223372036854775808
theorem zI_toInt {z : Int} (h : I32 z) : (zI z).toInt = z := Int32.toInt_ofInt_of_le (by have := h.1; omega) (by have := h.2; omega)
theorem zL_toInt {z : Int} (h : I64 z) : (zL z).toInt = z := Int64.toInt_ofInt_of_le (by have := h.1; omega) (by have := h.2; omega)
theorem zI_of (x : Int32) : ∃ z : Int, I32 z ∧ x = zI z := ⟨x.toInt, ⟨by have := Int32.le_toInt x; omega, by have := Int32.toInt_lt x; omega⟩, (Int32.ofInt_toInt x).symm⟩
theorem zI_lt {a b : Int} (ha : I32 a) (hb : I32 b) : zI a < zI b ↔ a < b := by rw [Int32.lt_iff_toInt_lt, zI_toInt ha, zI_toInt hb]
theorem zI_le {a b : Int} (ha : I32 a) (hb : I32 b) : zI a ≤ zI b ↔ a ≤ b := by rw [Int32.le_iff_toInt_le, zI_toInt ha, zI_toInt hb]
theorem zI_eq {a b : Int} (ha : I32 a) (hb : I32 b) : zI a = zI b ↔ a = b := by
  constructor
  · intro h
    have := congrArg Int32.toInt h
    rwa [zI_toInt ha, zI_toInt hb] at this
  · rintro rfl; rfl
theorem zI_add (a b : Int) : zI a + zI b = zI (a + b) := (Int32.ofInt_add a b).symm
theorem zI_sub (a b : Int) : zI a - zI b = zI (a - b) := (Int32.ofInt_sub a b).symm
theorem zI_mul (a b : Int) : zI a * zI b = zI (a * b) := (Int32.ofInt_mul a b).symm
theorem zI_neg (a : Int) : -zI a = zI (-a) := (Int32.ofInt_neg a).symm
theorem zL_add (a b : Int) : zL a + zL b = zL (a + b) := (Int64.ofInt_add a b).symm
theorem zL_mul (a b : Int) : zL a * zL b = zL (a * b) := (Int64.ofInt_mul a b).symm
theorem zI_0 : zI 0 = 0 := by decide
theorem zI_div {a b : Int} (ha : 0 ≤ a) (ha2 : a < 2147483648) (hb : 0 < b) (hb2 : b < 2147483648) : zI a / zI b = zI (a / b) := by
  have e : Int32.maxValue.toInt = 2147483647 := by decide
  have e2 : Int32.minValue.toInt = -2147483648 := by decide
  unfold zI
  rw [← Int32.ofInt_tdiv (by rw [e2]; omega) (by rw [e]; omega) (by rw [e2]; omega) (by rw [e]; omega), Int.tdiv_eq_ediv_of_nonneg ha]
theorem zI_rem {a b : Int} (ha : 0 ≤ a) (ha2 : a < 2147483648) (hb : 0 < b) (hb2 : b < 2147483648) : zI a - zI a / zI b * zI b = zI (a % b) := by
  rw [zI_div ha ha2 hb hb2, zI_mul, zI_sub, Int.emod_def, Int.mul_comm b]
theorem zL_div {a b : Int} (ha : 0 ≤ a) (ha2 : a < 9223372036854775808) (hb : 0 < b) (hb2 : b < 9223372036854775808) : zL a / zL b = zL (a / b) := by
  have e : Int64.maxValue.toInt = 9223372036854775807 := by decide
  have e2 : Int64.minValue.toInt = -9223372036854775808 := by decide
  unfold zL
  rw [← Int64.ofInt_tdiv (by rw [e2]; omega) (by rw [e]; omega) (by rw [e2]; omega) (by rw [e]; omega), Int.tdiv_eq_ediv_of_nonneg ha]
theorem zI_i2l {a : Int} (h : I32 a) : (zI a).toInt64 = zL a := by
  have e : Int32.maxValue.toInt = 2147483647 := by decide
  have e2 : Int32.minValue.toInt = -2147483648 := by decide
  exact Int32.toInt64_ofInt (by rw [e2]; exact h.1) (by rw [e]; have := h.2; omega)
theorem zL_l2i (a : Int) : (zL a).toInt32 = zI a := Int64.toInt32_ofInt
theorem zI_cl {a : Int} (h0 : 0 ≤ a) (h : a < 2147483648) : (zI a).toNatClampNeg = a.toNat := by
  show (zI a).toInt.toNat = _
  rw [zI_toInt ⟨by omega, h⟩]
theorem zI_in {a : Int} {n : Nat} (h0 : 0 ≤ a) (h : a < n) (hn : n < 2147483648) : vp_in (zI a) n := by
  have h2 : a < 2147483648 := by omega
  rw [vp_in_iff, zI_toInt ⟨by omega, h2⟩]
  exact ⟨h0, h⟩
theorem zI_nat (n : Nat) : Int32.ofNat n = zI n := (Int32.ofInt_eq_ofNat).symm
theorem zL_nat (n : Nat) : Int64.ofNat n = zL n := (Int64.ofInt_eq_ofNat).symm
/-! ===== the memory: a number for each place of each cell ===== -/
abbrev Mem : Type := Nat → Nat → Int
def up (σ : Mem) (c j : Nat) (z : Int) : Mem := fun c' j' => if c' = c ∧ j' = j then z else σ c' j'
theorem up_same (σ : Mem) (c j : Nat) (z : Int) : up σ c j z c j = z := by simp [up]
theorem up_ne (σ : Mem) {c j c' j' : Nat} (z : Int) (h : c' ≠ c ∨ j' ≠ j) : up σ c j z c' j' = σ c' j' := by
  unfold up
  rw [if_neg (fun q => by rcases h with h | h; exact h q.1; exact h q.2)]
theorem up_neC (σ : Mem) {c j c' : Nat} (z : Int) (h : c' ≠ c) : up σ c j z c' = σ c' := funext fun j' => up_ne σ z (Or.inl h)
def cpy (σ : Mem) (a sp b dp n : Nat) : Mem := fun c j => if c = b ∧ dp ≤ j ∧ j < dp + n then σ a (sp + (j - dp)) else σ c j
abbrev wEnv : Type := va_G × (Nat → Nat) × (Nat → ClassId) × (Nat → Nat)
abbrev rv (E : wEnv) (c : Nat) : Value := Value.ref (E.2.1 c)
/-- which kind of cell stands at a place of the layout; 99: there is none -/
def kd (c : Nat) : Nat :=
  if c < 25 then [0, 1, 2, 3, 4, 5, 13, 6, 13, 13, 13, 13, 12].getD c 99
  else if (c - 25) % 36 = 0 then 8 else if (c - 25) % 36 = 1 then 9 else if (c - 25) % 36 < 5 then 13 else if (c - 25) % 36 = 5 then 10 else if (c - 25) % 36 % 3 = 0 then 11 else 13
/-- how long an array is -/
def ln (c : Nat) : Nat :=
  if c < 25 then [0, 0, 4, 0, 80, 0, 4, 0, 10, 10, 5, 5, 16].getD c 0
  else if (c - 25) % 36 < 5 then 6 else if (c - 25) % 36 = 5 then 10 else 40
def ent (E : wEnv) (c : Nat) (v : Nat → Int) : va_E := match kd c with
  | 0 => .inr (7, [rv E 25, rv E 1, rv E 3, rv E 5, rv E 7])
  | 1 => .inr (2, [rv E 2, iv (v 1), iv (v 2)])
  | 2 => .inl (E.2.2.1 3, 4, .inr (.inr (.inr (.inr (fun i => some (E.2.1 (25 + 36 * (i + 1))))))))
  | 3 => .inr (0, [rv E 4, iv (v 1), iv (v 2), iv (v 3), iv (v 4), iv (v 5), iv (v 6)])
  | 4 => .inl (E.2.2.1 2, ln c, .inl (fun j => zI (v j)))
  | 5 => .inr (5, [rv E 6, iv (v 1), iv (v 2), iv (v 3), iv (v 4), iv (v 5), iv (v 6)])
  | 6 => .inr (3, [rv E 8, rv E 9, iv (v 2), rv E 10, rv E 11, iv (v 5), iv (v 6)])
  | 8 => .inr (6, [rv E (c + 1), rv E (c + 4), rv E (c + 5), iv (v 3), jv (v 4), jv (v 5), jv (v 6), jv (v 7), jv (v 8), jv (v 9)])
  | 9 => .inr (1, [rv E (c + 1), rv E (c + 2), iv (v 2)])
  | 10 => .inl (E.2.2.1 4, 10, .inr (.inr (.inr (.inr (fun i => some (E.2.1 (c + 1 + 3 * i)))))))
  | 11 => .inr (4, [rv E (c + 1), rv E (c + 2), iv (v 2), iv (v 3), iv (v 4), iv (v 5), iv (v 6), iv (v 7), iv (v 8), iv (v 9), iv (v 10), iv (v 11), iv (v 12)])
  | 12 => .inl (E.2.2.1 1, ln c, .inr (.inl (fun j => zL (v j))))
  | _ => .inl (E.2.2.1 0, ln c, .inl (fun j => zI (v j)))
/-- the places that there are: the object's own ones, and place 12 (the law's row) where the mark says so -/
def okc (E : wEnv) (c : Nat) : Prop := c < 205 ∧ kd c ≠ 99 ∧ (kd c = 12 → E.2.2.2 9 = 1)
def ixc (c : Nat) : Nat := if c < 12 then c else if c = 12 then 192 else c - 13
def idxL (E : wEnv) : List Nat := (List.range 192).map (fun k => if k < 12 then k else k + 13) ++ (if E.2.2.2 9 = 1 then [12] else [])
theorem kd_far : ∀ c, c < 205 → kd c ≠ 99 → c < 12 ∨ c = 12 ∨ 25 ≤ c := by decide +kernel
theorem kd_12 : ∀ c, c < 205 → kd c = 12 → c = 12 := by decide +kernel
theorem kd_ok : ∀ c, c < 205 → (c < 12 ∨ 25 ≤ c) → kd c ≠ 99 ∧ kd c ≠ 12 := by decide +kernel
theorem idx_at {E : wEnv} {c : Nat} (h : okc E c) : (idxL E)[ixc c]? = some c := by
  obtain ⟨h1, h2, h3⟩ := h
  rcases kd_far c h1 h2 with h | rfl | h
  · have e : ixc c = c := if_pos h
    rw [e]
    unfold idxL
    rw [List.getElem?_append_left (by simp; omega)]
    simp [show c < 192 by omega, h]
  · have e : ixc 12 = 192 := rfl
    rw [e]
    unfold idxL
    rw [if_pos (h3 (by decide)), List.getElem?_append_right (by simp)]
    simp
  · have e : ixc c = c - 13 := by unfold ixc; rw [if_neg (by omega), if_neg (by omega)]
    rw [e]
    unfold idxL
    rw [List.getElem?_append_left (by simp; omega)]
    simp [show c - 13 < 192 by omega, show ¬ c - 13 < 12 by omega]
    omega
theorem idx_in {E : wEnv} {k c : Nat} (h : (idxL E)[k]? = some c) : okc E c ∧ k = ixc c := by
  unfold idxL at h
  unfold ixc
  by_cases hk : k < 192
  · rw [List.getElem?_append_left (by simpa using hk)] at h
    simp [hk] at h
    by_cases h12 : k < 12
    · rw [if_pos h12] at h
      subst h
      have := kd_ok k (by omega) (Or.inl h12)
      exact ⟨⟨by omega, this.1, fun q => absurd q this.2⟩, by rw [if_pos h12]⟩
    · rw [if_neg h12] at h
      subst h
      have := kd_ok (k + 13) (by omega) (Or.inr (by omega))
      exact ⟨⟨by omega, this.1, fun q => absurd q this.2⟩, by rw [if_neg (by omega), if_neg (by omega)]; omega⟩
  · rw [List.getElem?_append_right (by simp; omega)] at h
    by_cases hf : E.2.2.2 9 = 1
    · rw [if_pos hf] at h
      have hlt := (List.getElem?_eq_some_iff.mp h).1
      simp at hlt
      have e : k - ((List.range 192).map (fun k => if k < 12 then k else k + 13)).length = 0 := by simp; omega
      rw [e] at h
      have h2 : 12 = c := by simpa using h
      subst h2
      exact ⟨⟨by decide, by decide, fun _ => hf⟩, by rw [if_neg (by decide), if_pos rfl]; omega⟩
    · rw [if_neg hf] at h
      simp at h
def LW (E : wEnv) (σ : Mem) : va_W := (idxL E).map (fun c => (E.2.1 c, ent E c (σ c)))
theorem LW_at (E : wEnv) (σ : Mem) {c : Nat} (hc : okc E c) : (LW E σ)[ixc c]? = some (E.2.1 c, ent E c (σ c)) := by simp [LW, idx_at hc]
theorem LW_in {E : wEnv} {σ : Mem} {k : Nat} {q : Nat × va_E} (h : (LW E σ)[k]? = some q) : ∃ c, okc E c ∧ k = ixc c ∧ q = (E.2.1 c, ent E c (σ c)) := by
  unfold LW at h
  rw [List.getElem?_map] at h
  cases h2 : (idxL E)[k]? with
  | none => rw [h2] at h; cases h
  | some c =>
    rw [h2] at h
    obtain ⟨a, b⟩ := idx_in h2
    exact ⟨c, a, b, (Option.some.inj h).symm⟩
theorem LW_len (E : wEnv) (σ : Mem) : (LW E σ).length = (idxL E).length := by simp [LW]
theorem LW_set (E : wEnv) {σ σ' : Mem} {c : Nat} {e : va_E} (hc : okc E c) (he : e = ent E c (σ' c)) (ho : ∀ c', c' ≠ c → σ' c' = σ c') : (LW E σ).set (ixc c) (E.2.1 c, e) = LW E σ' := by
  subst he
  apply List.ext_getElem?
  intro j
  by_cases hj : j = ixc c
  · subst hj
    have h1 := LW_at E σ hc
    rw [List.getElem?_set_self (List.getElem?_eq_some_iff.mp h1).1, LW_at E σ' hc]
  · rw [List.getElem?_set_ne (Ne.symm hj)]
    cases h2 : (idxL E)[j]? with
    | none => simp [LW, h2]
    | some c' =>
      obtain ⟨a, b⟩ := idx_in h2
      subst b
      rw [LW_at E σ a, LW_at E σ' a, ho c' (fun q => hj (by rw [q]))]
def adI (E : wEnv) : Prop := ∀ i j, okc E i → okc E j → E.2.1 i = E.2.1 j → i = j
def LA (E : wEnv) : Nat → Prop := fun q => ∃ c, okc E c ∧ q = E.2.1 c
theorem LD {E : wEnv} (h : adI E) (σ : Mem) : va_D (LA E) (LW E σ) := by
  refine ⟨fun i j p q hi hj e => ?_, fun k q hk => ?_⟩
  · obtain ⟨c, h1, rfl, rfl⟩ := LW_in hi
    obtain ⟨d, h2, rfl, rfl⟩ := LW_in hj
    rw [h c d h1 h2 e]
  · obtain ⟨c, h1, -, rfl⟩ := LW_in hk
    exact ⟨c, h1, rfl⟩
abbrev tys (E : wEnv) : List (ClassId × FieldType) := [(E.2.2.1 0, .int), (E.2.2.1 1, .long), (E.2.2.1 2, .char), (E.2.2.1 3, .object "PileSets$State"), (E.2.2.1 4, .object "PileSets$Pile")]
/-! ===== what stays: tables, statics ===== -/
def leastS : List Int := [100, 10, 0, 100, 0, 0]
def mostS : List Int := [10000, 100, 50, 500, 10000, 50]
def firstS : List Int := [2000, 70, 3, 200, 3000, 4]
def STA (E : wEnv) (U : State) (H : Heap) : Prop :=
  (va_Z "PileSets" "LEAST_SETTINGS" "[I" (.ref (E.2.2.2 0)) (LA E) U H ∧ va_T .int (E.2.2.2 0) 6 (fun j => iv (leastS.getD j 0)) (LA E) U H) ∧
  (va_Z "PileSets" "MOST_SETTINGS" "[I" (.ref (E.2.2.2 1)) (LA E) U H ∧ va_T .int (E.2.2.2 1) 6 (fun j => iv (mostS.getD j 0)) (LA E) U H) ∧
  (va_Z "PileSets" "FIRST_SETTINGS" "[I" (.ref (E.2.2.2 2)) (LA E) U H ∧ va_T .int (E.2.2.2 2) 6 (fun j => iv (firstS.getD j 0)) (LA E) U H)
def CK (E : wEnv) (U : State) (H : Heap) : Prop := adI E ∧ va_K E.1 vwCl (tys E) U ∧ (∀ w ∈ nestWs, va_Nw w U) ∧ STA E U H
theorem nest_kind : ∀ w ∈ nestWs, (∃ a i b n d h, w = Cond.fieldLinkNest a i b n d h) ∨ ∃ a i y h, w = Cond.methodLinkNest a i y h := by
  have h : nestWs.all (fun w => match w with | .fieldLinkNest .. => true | .methodLinkNest .. => true | _ => false) = true := by decide +kernel
  intro w hw
  have h1 := List.all_eq_true.mp h w hw
  cases w <;> first | (simp at h1; done) | exact Or.inl ⟨_, _, _, _, _, _, rfl⟩ | exact Or.inr ⟨_, _, _, _, rfl⟩
theorem CK.to {E : wEnv} {s U : State} {H : Heap} {locs : List Loc} (h : CK E s s.heap) (hW : s.WarmedH U.vm) (hS : va_S (LA E) s.heap H locs) : CK E U H := by
  obtain ⟨h1, h2, h3, ⟨z0, t0⟩, ⟨z1, t1⟩, ⟨z2, t2⟩⟩ := h
  have hk : ∀ a : Nat, a < s.heap.size → ¬ LA E a → H[a]? = s.heap[a]? := hS.2.1
  refine ⟨h1, va_K.moved hW.alike h2, fun w hw => ?_, ⟨(z0.moved hW.alike).kept hk, (t0.moved hW.alike).kept hk⟩, ⟨(z1.moved hW.alike).kept hk, (t1.moved hW.alike).kept hk⟩, ⟨(z2.moved hW.alike).kept hk, (t2.moved hW.alike).kept hk⟩⟩
  rcases nest_kind w hw with ⟨a, i, b, n, d, h, rfl⟩ | ⟨a, i, y, h, rfl⟩
  · exact va_Nw.warmF hW (h3 _ hw)
  · exact va_Nw.warmM hW (h3 _ hw)
theorem CK.vm {E : wEnv} {u U : State} {H : Heap} (h : CK E u H) (hv : u.vm = U.vm) : CK E U H := by
  obtain ⟨h1, h2, h3, ⟨z0, t0⟩, ⟨z1, t1⟩, ⟨z2, t2⟩⟩ := h
  have ha : u.vm.Alike U.vm := hv ▸ Vm.Alike.refl _
  refine ⟨h1, va_K.moved ha h2, fun w hw => ?_, ⟨z0.moved ha, t0.moved ha⟩, ⟨z1.moved ha, t1.moved ha⟩, ⟨z2.moved ha, t2.moved ha⟩⟩
  rcases nest_kind w hw with ⟨a, i, b, n, d, h, rfl⟩ | ⟨a, i, y, h, rfl⟩
  · exact va_Nw.same rfl hv (h3 _ hw)
  · exact va_Nw.same rfl hv (h3 _ hw)
/-! ===== contracts ===== -/
def cP (E : wEnv) (σ : Mem) (U : State) : Prop := va_P E.1 vwCl (LW E σ) U.heap ∧ CK E U U.heap
def cQ (E : wEnv) (Post : Option Value → Mem → Prop) : Array Value → State → Outcome → State → Prop := fun _ st oc t => (∃ (v : Option Value) (σ' : Mem), oc = .returned v ∧ Post v σ' ∧ va_P E.1 vwCl (LW E σ') t.heap) ∧ va_F (LA E) st t
abbrev rmOf (f loc : Nat) : Room := { frames := f, cells := 0, slots := 0, locals := loc }
def MetC (l : Launch) (E : wEnv) (y : MethodName) (cc : ByteArray) (nL : Nat) (ret : Option FieldType) (f loc : Nat) (as : List Value) (σ : Mem) (Post : Option Value → Mem → Prop) : Prop :=
  Met l y (.code y cc nL ret :: wsL_law) (rmOf f loc) (va_Pc as (cP E σ)) (cQ E Post) 0 0 (LA E)
def lvH (ls : Array Slot) (nL : Nat) (lv : List (Option Value)) : Prop := ls.size = nL ∧ lv_wf ls ∧ ∀ (i : Nat) (v : Value), lv[i]? = some (some v) → ls[i]? = some (.val v)
def Kj (p : Program) (l : Launch) (e : Env) (R : Room) (s : State) (m : MethodId) (args : Array Value) (below : List Frame) (meth : Method) (c : Code) (cells slots : Nat) (Q : State → Prop) (E : wEnv) (nL : Nat) : Mem → Nat → List (Option Value) → List Value → Prop := fun σ pc lv st => ∀ (H : Heap) (locs : List Loc) (ls : Array Slot), va_P E.1 vwCl (LW E σ) H → va_S (LA E) s.heap H locs → lvH ls nL lv → W p l e R s m args below meth c H locs cells slots Q (F0 m pc ls st)
/-- a walk stands in a method of the class 'own' with the code cc -/
def Ctx (l : Launch) (E : wEnv) (K : Mem → Nat → List (Option Value) → List Value → Prop) (own : String) (cc : ByteArray) (nL f loc : Nat) : Prop :=
  ∃ (p : Program) (e : Env) (R : Room) (s : State) (m : MethodId) (args : Array Value) (below : List Frame) (meth : Method) (c : Code) (cells slots : Nat) (Q : State → Prop), K = Kj p l e R s m args below meth c cells slots Q E nL ∧
    p.tables.exec = Jvm.exec ∧ c.code = cc ∧ c.maxLocals = nL ∧ s.vm.findClass own = some m.cls ∧ (∀ w ∈ wsL_law, w.before args s = true) ∧ R.frames = f ∧ R.locals = loc ∧ cells ≤ R.cells ∧ slots ≤ R.slots ∧ CK E s s.heap
/-- what a return owes -/
def RetC (K : Mem → Nat → List (Option Value) → List Value → Prop) (cc : ByteArray) (ret : Option FieldType) (Post : Option Value → Mem → Prop) : Prop :=
  match ret with
  | none => ∀ σ pc lv, decode cc pc = .ok (.return_, 1) → Post none σ → K σ pc lv []
  | some .int => ∀ σ pc lv (z : Int32), decode cc pc = .ok (.ireturn, 1) → Post (some (.int z)) σ → K σ pc lv [.int z]
  | some .boolean => ∀ σ pc lv (z : Int32), (z = 0 ∨ z = 1) → decode cc pc = .ok (.ireturn, 1) → Post (some (.int z)) σ → K σ pc lv [.int z]
  | some .char => ∀ σ pc lv (z : Int32), narrow .char (.int z) = .int z → decode cc pc = .ok (.ireturn, 1) → Post (some (.int z)) σ → K σ pc lv [.int z]
  | some .long => ∀ σ pc lv (z : Int64), decode cc pc = .ok (.lreturn, 1) → Post (some (.long z)) σ → K σ pc lv [.long z]
  | some _ => ∀ σ pc lv (v : Value), (v = .null ∨ ∃ a, v = .ref a) → decode cc pc = .ok (.areturn, 1) → Post (some v) σ → K σ pc lv [v]
theorem lv_args_get : ∀ (as : List Value) (k : Nat), (∀ v ∈ as, v.category = 1) → ∀ (i : Nat) (v : Value), as[i]? = some v → (k + i, v) ∈ lv_args k as
  | [], k, _, i, v, h => by simp at h
  | a :: as, k, hc, 0, v, h => by
    have hv : a = v := by simpa using h
    subst hv
    simp [lv_args]
  | a :: as, k, hc, i + 1, v, h => by
    have h1 : as[i]? = some v := by simpa using h
    have h2 := lv_args_get as (k + 1) (fun x hx => hc x (List.mem_cons_of_mem _ hx)) i v h1
    have ha := hc a List.mem_cons_self
    have e : k + 1 + i = k + (i + 1) := by omega
    rw [e] at h2
    have e3 : (if a.category = 2 then k + 2 else k + 1) = k + 1 := by rw [ha]; rfl
    rw [lv_args, e3]
    exact List.mem_cons_of_mem _ h2
