/-! ===== the law's start: its object, its own methods, its row of looks ===== -/
theorem len6 {args : Array Value} {s : State} {tm : Term} (h : (Term.length tm).eval args s none [] s = some (.int (Int32.ofNat 6))) : ∃ (t : Nat) (cell : Cell), tm.eval args s none [] s = some (.ref t) ∧ s.arrayAt? t = some cell ∧ cell.slots.size = 6 := by
  obtain ⟨t, cell, ht, harr, hv⟩ := Term.length_spec h
  have hsz : cell.slots.size < 2 ^ 31 := by
    simp only [Term.eval, ht, harr, Option.bind_eq_bind, Option.bind_some] at h
    by_cases hlt : cell.slots.size < 2147483648
    · exact hlt
    · simp [hlt] at h
  have e0 : Int32.ofNat 6 = cell.slots.size.toInt32 := Value.int.inj hv
  have e := congrArg Int32.toNatClampNeg e0
  have e1 : (Int32.ofNat 6).toNatClampNeg = 6 := Int32.toNatClampNeg_ofNat_of_lt (by decide)
  have e2 : cell.slots.size.toInt32.toNatClampNeg = cell.slots.size := Int32.toNatClampNeg_ofNat_of_lt hsz
  rw [e1, e2] at e
  exact ⟨t, cell, ht, harr, e.symm⟩
theorem st_arr {s : State} {args : Array Value} {nm : String} {f : Nat → Int} {cA : ClassId} (h1 : (Cond.arrayOf (.static "PileSets" nm "[I") .int).before args s = true) (h2 : (Cond.eq (.length (.static "PileSets" nm "[I")) (.int (Int32.ofNat 6))).before args s = true) (h3 : ∀ j, j < 6 → (Cond.eq (.elem (.static "PileSets" nm "[I") (.int (Int32.ofNat j))) (.int (zI (f j)))).before args s = true) (hl : (Cond.laysStatic "PileSets" nm "[I").before args s = true) (hini : (Cond.initialized "PileSets").before args s = true) (hex : (Cond.exactly (.static "PileSets" nm "[I") "[I").before args s = true) (hcA : s.vm.findClass "[I" = some cA) : ∃ (t : Nat), va_Z "PileSets" nm "[I" (.ref t) (fun q => s.heap.size ≤ q) s s.heap ∧ va_T .int t 6 (fun j => iv (f j)) (fun q => s.heap.size ≤ q) s s.heap ∧ t < s.heap.size ∧ ∃ cell : Cell, s.heap[t]? = some cell ∧ (∀ k, cell.vm ≠ .statics k) ∧ cell.vm ≠ .unknown ∧ cell.cls = cA ∧ cell.slots = (arrV cA 6 (fun j => iv (f j))).slots := by
  have hA : ∀ a : Nat, a < s.heap.size → ¬ (fun q => s.heap.size ≤ q) a := fun a ha => Nat.not_le.mpr ha
  have hlen := va_eqt h2
  obtain ⟨t, ht, hT⟩ := va_Tof (ty := .int) (N := 6) (f := fun j => iv (f j)) (by decide) h1 hlen (fun j hj => va_eqt (h3 j hj)) hA
  obtain ⟨t', cell, ht', harr, hsz⟩ := len6 hlen
  cases ht.symm.trans ht'
  obtain ⟨hcell, hkn, hst, -⟩ := State.arrayAt?_spec harr
  obtain ⟨cell2, g1, g2, g3, g4, g5, g6, g7⟩ := id hT
  cases hcell.symm.trans g1
  obtain ⟨a, c, cell3, k, x1, x2, x3, x4, x5, x6, -⟩ := Cond.exactly_spec hex
  cases ht.symm.trans x1
  cases hcell.symm.trans x3
  cases hcA.symm.trans x2
  refine ⟨t, va_Zof hl hini ht hA, hT, (Array.getElem?_eq_some_iff.mp hcell).1, cell, hcell, fun k h => (by rw [h] at hst; cases hst), hkn, x6, ?_⟩
  apply Array.ext_getElem?
  intro j
  by_cases hj : j < 6
  · rw [g6 j hj, arrV_read _ _ hj]
  · rw [Array.getElem?_eq_none (by omega), Array.getElem?_eq_none (by rw [arrV_size]; omega)]
/-! the row of looks joins the memory -/
def Ew (E : wEnv) (q : Nat) : wEnv := (E.1, fun c => if c = 12 then q else E.2.1 c, E.2.2.1, fun k => if k = 9 then 1 else E.2.2.2 k)
def σw (σ : Mem) : Mem := fun c => if c = 12 then zr else σ c
theorem Ew_a {E : wEnv} {q d : Nat} (h : d ≠ 12) : (Ew E q).2.1 d = E.2.1 d := if_neg h
theorem Ew_s {E : wEnv} {q k : Nat} (h : k ≠ 9) : (Ew E q).2.2.2 k = E.2.2.2 k := if_neg h
theorem rv_w {E : wEnv} {q d : Nat} (h : d ≠ 12) : rv (Ew E q) d = rv E d := congrArg Value.ref (if_neg h)
theorem kd_hi : ∀ c, c < 205 → 25 ≤ c → kd c = 8 ∨ kd c = 9 ∨ kd c = 10 ∨ kd c = 11 ∨ kd c = 13 := by decide +kernel
theorem ent_w {E : wEnv} {q c : Nat} {v : Nat → Int} (hc : c < 205) (hf : c < 12 ∨ 25 ≤ c) : ent (Ew E q) c v = ent E c v := by
  rcases hf with h | h
  · rcases (show c = 0 ∨ c = 1 ∨ c = 2 ∨ c = 3 ∨ c = 4 ∨ c = 5 ∨ c = 6 ∨ c = 7 ∨ c = 8 ∨ c = 9 ∨ c = 10 ∨ c = 11 by omega) with rfl | rfl | rfl | rfl | rfl | rfl | rfl | rfl | rfl | rfl | rfl | rfl
    · rw [ent0 (by decide), ent0 (by decide), rv_w (by decide), rv_w (by decide), rv_w (by decide), rv_w (by decide), rv_w (by decide)]
    · rw [ent1 (by decide), ent1 (by decide), rv_w (by decide)]
    · rw [ent2 (by decide), ent2 (by decide)]
      have e : (fun i => some ((Ew E q).2.1 (25 + 36 * (i + 1)))) = fun i => some (E.2.1 (25 + 36 * (i + 1))) := funext fun i => congrArg some (Ew_a (by omega))
      rw [e]
      rfl
    · rw [ent3 (by decide), ent3 (by decide), rv_w (by decide)]
    · rw [ent4 (by decide), ent4 (by decide)]
      rfl
    · rw [ent5 (by decide), ent5 (by decide), rv_w (by decide)]
    · rw [ent13 (by decide), ent13 (by decide)]
      rfl
    · rw [ent6 (by decide), ent6 (by decide), rv_w (by decide), rv_w (by decide), rv_w (by decide), rv_w (by decide)]
    · rw [ent13 (by decide), ent13 (by decide)]
      rfl
    · rw [ent13 (by decide), ent13 (by decide)]
      rfl
    · rw [ent13 (by decide), ent13 (by decide)]
      rfl
    · rw [ent13 (by decide), ent13 (by decide)]
      rfl
  · rcases kd_hi c hc h with k | k | k | k | k
    · rw [ent8 k, ent8 k, rv_w (by omega), rv_w (by omega), rv_w (by omega)]
    · rw [ent9 k, ent9 k, rv_w (by omega), rv_w (by omega)]
    · rw [ent10 k, ent10 k]
      have e : (fun i => some ((Ew E q).2.1 (c + 1 + 3 * i))) = fun i => some (E.2.1 (c + 1 + 3 * i)) := funext fun i => congrArg some (Ew_a (by omega))
      rw [e]
      rfl
    · rw [ent11 k, ent11 k, rv_w (by omega), rv_w (by omega)]
    · rw [ent13 k, ent13 k]
      rfl
theorem okc_far {E : wEnv} (h9 : E.2.2.2 9 = 0) {c : Nat} (h : okc E c) : c < 205 ∧ (c < 12 ∨ 25 ≤ c) := by
  obtain ⟨g1, g2, g3⟩ := h
  refine ⟨g1, ?_⟩
  rcases kd_far c g1 g2 with h | rfl | h
  · exact Or.inl h
  · have h1 := g3 (by decide)
    omega
  · exact Or.inr h
theorem LW_w {E : wEnv} {q : Nat} {σ : Mem} (h9 : E.2.2.2 9 = 0) : LW (Ew E q) (σw σ) = LW E σ ++ [(q, .inl (E.2.2.1 1, 16, .inr (.inl (fun j => zL (zr j)))))] := by
  have e1 : idxL (Ew E q) = idxL E ++ [12] := by
    unfold idxL
    rw [if_pos (show (Ew E q).2.2.2 9 = 1 from rfl), if_neg (show ¬ E.2.2.2 9 = 1 by omega), List.append_nil]
  have e2 : (idxL E).map (fun c => ((Ew E q).2.1 c, ent (Ew E q) c (σw σ c))) = (idxL E).map (fun c => (E.2.1 c, ent E c (σ c))) := by
    apply List.map_congr_left
    intro c hc
    obtain ⟨k, hk⟩ := List.getElem?_of_mem hc
    obtain ⟨ho, -⟩ := idx_in hk
    obtain ⟨g1, g2⟩ := okc_far h9 ho
    have h12 : c ≠ 12 := by omega
    have a1 : (Ew E q).2.1 c = E.2.1 c := if_neg h12
    have a2 : σw σ c = σ c := if_neg h12
    rw [a1, a2, ent_w g1 g2]
  unfold LW
  rw [e1, List.map_append, e2]
  rfl
theorem okc_w {E : wEnv} {q : Nat} {c : Nat} (h : okc (Ew E q) c) : c = 12 ∨ okc E c := by
  obtain ⟨g1, g2, g3⟩ := h
  by_cases h12 : c = 12
  · exact Or.inl h12
  · exact Or.inr ⟨g1, g2, fun k => absurd (kd_12 c g1 k) h12⟩
theorem call_Z {p : Program} {l : Launch} {e : Env} {R : Room} {s : State} {m : MethodId} {args : Array Value} {below : List Frame} {meth : Method} {c : Code} {H : Heap} {locs : List Loc} {cells slots : Nat} {Q : State → Prop} {pc : Nat} {ls : Array Slot} {rest st0 : List Value} {A : Nat → Prop}
    (hr : va_Run p l e R s m args below meth c H locs cells slots 0 0 (F0 m pc ls st0) rest (fun st oc t => (∃ z : Int32, oc = .returned (some (.int z))) ∧ va_F (fun _ => False) st t) (fun _ => False)) (hS : va_S A s.heap H locs)
    (kk : ∀ (z : Int32) (H1 : Heap) (locs1 : List Loc), (∀ q : Nat, q < H.size → H1[q]? = H[q]?) → va_S A s.heap H1 locs1 → W p l e R s m args below meth c H1 locs1 cells slots Q (F0 m (pc + 3) ls (.int z :: rest))) : W p l e R s m args below meth c H locs cells slots Q (F0 m pc ls st0) := by
  intro T hT X
  obtain ⟨v, st₀, t, T', L, h0, X', hL, e1, e2, ⟨⟨z, hv⟩, hz, hk⟩, st⟩ := hr T hT X
  have hv1 : v = some (.int z) := by cases hv; rfl
  subst hv1
  rw [h0] at hz hk
  have hk2 : ∀ q : Nat, q < H.size → T'.heap[q]? = H[q]? := fun q h1 => by rw [e1]; exact hk q h1 (fun h => h)
  obtain ⟨t2, a1, b1⟩ := kk z T'.heap (locs ++ L) hk2 ⟨Nat.le_trans hS.1 (by rw [e1]; exact hz), fun q h1 h2 => by rw [hk2 q (Nat.lt_of_lt_of_le h1 hS.1)]; exact hS.2.1 q h1 h2, fun q hq => by
    rcases List.mem_append.mp hq with h | h
    · exact hS.2.2 q h
    · exact absurd (hL q h) (fun h => h)⟩ T' rfl X'
  exact ⟨t2, st t2 a1, b1⟩
theorem Z_blind {b L : Nat} {xs : Nat → Int32} {as : List Value} : FrameBlind (va_Pc as (fun U => va_X b L xs U U.heap ∧ b < U.heap.size)) := fun a U g mk q => ⟨q.1, q.2.1.moved (hvm := by show U.vm.Alike (U.calling g mk a).vm; exact Vm.Alike.refl _), q.2.2⟩
theorem staticIn {own : String} {index : Nat} {y : MethodName} {bytes : ByteArray} {maxL : Nat} {ret : Option FieldType} (hw1 : Cond.methodLink own index y ∈ wsL_law) (hw2 : Cond.static y ∈ wsL_law) (hw4 : Cond.initialized y.cls ∈ wsL_law) (hw5 : Cond.code y bytes maxL ret ∈ wsL_law) : GoodIn wsL_law (va_wsS own index y (.code y bytes maxL ret :: wsL_law)) := law_goodIn (fun w hw => by
  rcases List.mem_append.mp (by unfold va_wsS at hw; exact hw) with h | h
  · simp only [List.mem_cons, List.mem_singleton, List.not_mem_nil, or_false] at h
    rcases h with rfl | rfl | rfl
    · exact hw1
    · exact hw2
    · exact hw4
  · exact codeIn hw5 w h)
section ALL
variable {p : Program} {l : Launch} {e : Env} {R : Room} {s : State} {m : MethodId} {args : Array Value} {below : List Frame} {meth : Method} {c : Code} {Q : State → Prop} {E : wEnv} {b L : Nat} {xs : Nat → Int32}
/-- what the law's walk rests on, whatever it has made -/
def LB (p : Program) (l : Launch) (e : Env) (R : Room) (s : State) (m : MethodId) (args : Array Value) (below : List Frame) (meth : Method) (c : Code) (Q : State → Prop) (b L : Nat) (xs : Nat → Int32) : Prop :=
  p.tables.exec = Jvm.exec ∧ c.code = cL_law ∧ c.maxLocals = 9 ∧ s.vm.findClass RL = some m.cls ∧ (∀ w ∈ wsL_law, w.before args s = true) ∧ (R.frames = 10 ∧ R.locals = 396 ∧ R.cells = 600000 ∧ R.slots = 7302250) ∧ (va_X b L xs s s.heap ∧ b < s.heap.size ∧ L ≤ 260) ∧ ∀ (cells slots : Nat) (H : Heap) (locs : List Loc) (ls : Array Slot) (pc : Nat), cells ≤ 600000 → slots ≤ 7302250 → (∀ q ∈ locs, s.heap.size ≤ q.base) → decode cL_law pc = .ok (.ireturn, 1) → W p l e R s m args below meth c H locs cells slots Q (F0 m pc ls [iv 1])
theorem LB.ctx (h : LB p l e R s m args below meth c Q b L xs) (hCK : CK E s s.heap) {cells slots : Nat} (h1 : cells ≤ 600000) (h2 : slots ≤ 7302250) : Ctx l E (Kj p l e R s m args below meth c cells slots Q E 9) RL cL_law 9 10 396 := by
  obtain ⟨hx, hb, hml, hown, hts, ⟨hf, hlo, hc, hs⟩, -, -⟩ := h
  exact ⟨p, e, R, s, m, args, below, meth, c, cells, slots, Q, rfl, hx, hb, hml, hown, hts, hf, hlo, by rw [hc]; exact h1, by rw [hs]; exact h2, hCK⟩
theorem LB.Y (h : LB p l e R s m args below meth c Q b L xs) (hLA : ∀ q, LA E q → s.heap.size ≤ q) (hsv : sv E 3 = Value.ref b) {cells slots : Nat} (h1 : cells ≤ 600000) (h2 : slots ≤ 7302250) : LawY (Kj p l e R s m args below meth c cells slots Q E 9) E := by
  obtain ⟨hx, hb, hml, hown, hts, ⟨hf, hlo, hc, hs⟩, ⟨hX, hbl, hL⟩, hret⟩ := h
  refine ⟨fun σ pc lv st k k0 k1 hroom hd kk => ?_, fun σ pc lv hd H locs ls hP hS hv => hret cells slots H locs ls pc h1 h2 (fun q hq => hLA _ (hS.2.2 q hq)) hd⟩
  intro H locs ls hP hS hv
  rw [hsv]
  have hbH : H[b]? = s.heap[b]? := hS.2.1 b hbl (fun h => absurd (hLA b h) (by omega))
  refine call_Z (va_runS (As := [.ref b, iv k]) (rest := st) ⟨hx, hb, hml, hown, hts⟩ (k_take l b L xs k k0 k1 hL) (va_cwS 2 hts (staticIn wL_RL_202 wT_L_take wN_RL wC_L_take) rfl rfl rfl ⟨by decide +kernel, by decide +kernel, by decide +kernel⟩ ⟨by rw [hf]; exact Nat.le_of_ble_eq_true rfl, by rw [hlo]; exact Nat.le_of_ble_eq_true rfl⟩) ⟨Z_blind, fun U hU hW => ⟨rfl, by rw [hU]; exact (hX.moved hW.alike).kept hbH, by rw [hU]; exact Nat.lt_of_lt_of_le hbl hS.1⟩⟩ rfl rfl hv.1 rfl (lv_room hroom) hd ⟨by rw [hc]; exact h1, by rw [hs]; exact h2⟩) hS (fun z H1 locs1 hk hS1 => ?_)
  have k := kk z.toInt
  have ez : zI z.toInt = z := Int32.ofInt_toInt z
  rw [iv, ez] at k
  exact k H1 locs1 ls (hP.kept (fun j x hx => hk x.1 ((hP j x hx).lt))) hS1 hv
/-- a call of a method with an object of its own -/
theorem LB.own (h : LB p l e R s m args below meth c Q b L xs) {D : va_G} {ia : Nat → ClassId} {t0 t1 t2 : Nat} (hB : BF D ia s.heap.size t0 t1 t2 s s.heap) (hLA : ∀ q, LA E q → s.heap.size ≤ q) {cells slots index maxL pc : Nat} {bytes : ByteArray} {y : MethodName} {σ : Mem} {lv : List (Option Value)} (hM : ∀ sz, MetT l D ia s.heap.size t0 t1 t2 y bytes maxL 7 180 192 5002 sz) (hw1 : Cond.methodLink RL index y ∈ wsL_law) (hw2 : Cond.static y ∈ wsL_law) (hw4 : Cond.initialized y.cls ∈ wsL_law) (hw5 : Cond.code y bytes maxL (some .boolean) ∈ wsL_law) (hd0 : y.cls ≠ "java/lang/invoke/MethodHandle" ∧ y.cls ≠ "java/lang/invoke/VarHandle" ∧ (parseMethodDescriptor y.desc).map (fun d => d.parameters.length) = some 0) (hmx : maxL ≤ 20) (h1 : cells + 192 ≤ 600000) (h2 : slots + 5002 ≤ 7302250) (hd : decode cL_law pc = .ok (.invokestatic index, 3)) (kk : Kj p l e R s m args below meth c (cells + 192) (slots + 5002) Q E 9 σ (pc + 3) lv [iv 1]) : Kj p l e R s m args below meth c cells slots Q E 9 σ pc lv [] := by
  obtain ⟨hx, hb, hml, hown, hts, ⟨hf, hlo, hc, hs⟩, -, hret⟩ := h
  intro H locs ls hP hS hv
  refine call_T (va_runS (As := []) (rest := []) ⟨hx, hb, hml, hown, hts⟩ (hM H.size) (va_cwS 0 hts (staticIn hw1 hw2 hw4 hw5) rfl rfl rfl hd0 ⟨by rw [hf]; exact Nat.le_of_ble_eq_true rfl, by rw [hlo]; show 8 + (maxL + 11) + 180 ≤ 396; omega⟩) ⟨T_blind, fun U hU hW => ⟨rfl, by rw [hU], hS.1, by rw [hU]; exact hB.to hW hS hLA⟩⟩ rfl rfl hv.1 rfl (lv_room (by decide)) hd ⟨by rw [hc]; exact h1, by rw [hs]; exact h2⟩) hS hLA (fun H1 hz hk hS1 => ?_)
  exact kk H1 [] ls (hP.kept (fun j x hx => hk x.1 ((hP j x hx).lt))) hS1 hv
theorem zI_16 : ¬ zI 16 < 0 ∧ (zI 16).toNatClampNeg = 16 := zI_lit (N := 16) (by decide)
/-- the row of looks is made -/
theorem LB.was (h : LB p l e R s m args below meth c Q b L xs) {D : va_G} {ia : Nat → ClassId} {t0 t1 t2 : Nat} (hB : BF D ia s.heap.size t0 t1 t2 s s.heap) (hD : E.1 = D) (hI : E.2.2.1 = ia) (g0 : E.2.2.2 0 = t0) (g1 : E.2.2.2 1 = t1) (g2 : E.2.2.2 2 = t2) (g9 : E.2.2.2 9 = 0) (hLA : ∀ q, LA E q → s.heap.size ≤ q) (hCK : CK E s s.heap) {cells slots pc : Nat} (h1 : cells + 1 ≤ 600000) (h2 : slots + 16 ≤ 7302250) {σ : Mem} {lv : List (Option Value)} (hd : decode cL_law pc = .ok (.newarray .long, 2)) (kk : ∀ q, (∀ x, LA (Ew E q) x → s.heap.size ≤ x) → CK (Ew E q) s s.heap → Kj p l e R s m args below meth c (cells + 1) (slots + 16) Q (Ew E q) 9 (σw σ) (pc + 2) lv [rv (Ew E q) 12]) : Kj p l e R s m args below meth c cells slots Q E 9 σ pc lv [iv 16] := by
  obtain ⟨hx, hb, hml, hown, hts, ⟨hf, hlo, hc, hs⟩, -, hret⟩ := h
  intro H locs ls hP hS hv
  have hD0 : va_D (fun q => s.heap.size ≤ q) (LW E σ) := ⟨(LD hCK.1 σ).1, fun k q hk => hLA _ ((LD hCK.1 σ).2 k q hk)⟩
  have hS0 : va_S (fun q => s.heap.size ≤ q) s.heap H locs := ⟨hS.1, fun q k1 k2 => hS.2.1 q k1 (fun k3 => k2 (hLA q k3)), fun q hq => hLA _ (hS.2.2 q hq)⟩
  refine va_newa (atype := .long) (a0 := (16, .inr (.inl (fun j => zL (zr j))))) hx hb (hts _ wA_long) rfl hCK.2.1 hP hD0 hS0 (fun q h => h) (fun cA => rfl) zI_16.1 zI_16.2 (by decide) (by rw [hc]; exact h1) (by rw [hs]; exact h2) hd (fun q cA H1 hK1 hP1 hD1 hS1 => ?_)
  have e1 := va_nm_long (hK1.2 5 _ rfl).2
  have e2 := va_nm_long (hCK.2.1.2 1 _ rfl).2
  have e3 : cA = E.2.2.1 1 := Option.some.inj (e1.symm.trans e2)
  subst e3
  rw [← LW_w g9] at hP1 hD1
  have hLA2 : ∀ x, LA (Ew E q) x → s.heap.size ≤ x := by
    rintro x ⟨c2, hc2, rfl⟩
    exact hD1.2 _ _ (LW_at (Ew E q) (σw σ) hc2)
  have had : adI (Ew E q) := fun i j hi hj hij => by
    have a := hD1.1 _ _ _ _ (LW_at (Ew E q) (σw σ) hi) (LW_at (Ew E q) (σw σ) hj) hij
    have b1 := idx_at hi
    rw [a] at b1
    exact (Option.some.inj (b1.symm.trans (idx_at hj)))
  have hCK2 : CK (Ew E q) s s.heap := CK.mk hB hD hI ((Ew_s (by decide)).trans g0) ((Ew_s (by decide)).trans g1) ((Ew_s (by decide)).trans g2) had hLA2
  refine va_forget (fun x hx => hS1.2.2 x hx) ?_
  exact kk q hLA2 hCK2 H1 [] ls hP1 ⟨hS1.1, fun x k1 k2 => hS1.2.1 x k1 (Nat.not_le.mpr k1), fun x h => by cases h⟩ hv
set_option maxHeartbeats 4000000 in
/-- the whole walk, from the object on -/
theorem LB.all (h : LB p l e R s m args below meth c Q b L xs) {D : va_G} {ia : Nat → ClassId} {t0 t1 t2 : Nat} (hB : BF D ia s.heap.size t0 t1 t2 s s.heap) (hD : E.1 = D) (hI : E.2.2.1 = ia) (g0 : E.2.2.2 0 = t0) (g1 : E.2.2.2 1 = t1) (g2 : E.2.2.2 2 = t2) (g3 : E.2.2.2 3 = b) (g9 : E.2.2.2 9 = 0) (hLA : ∀ q, LA E q → s.heap.size ≤ q) (hCK : CK E s s.heap) : Kj p l e R s m args below meth c 192 5002 Q E 9 σ0 8 [some (sv E 3), some (rv E 0), none, none, none, none, none, none, none] [] := by
  have hsv : sv E 3 = Value.ref b := congrArg Value.ref g3
  have X1 := h.ctx hCK (cells := 192) (slots := 5002) (by decide) (by decide)
  refine g_aload_n X1 dL_law_8 rfl ?_
  refine cl_L_191 X1 (c_L_refused l E σ0 s0 0 s0_C (by decide) s0_K) ⟨Nat.le_of_ble_eq_true rfl, Nat.le_of_ble_eq_true rfl⟩ rfl (Nat.le_of_ble_eq_true rfl) dL_law_9 rfl (fun v1 σ1 p1 => ?_)
  obtain ⟨rfl, hC1, hf1⟩ := p1
  refine g_eqN X1 (tgt := 27) dL_law_12 (by decide) ?_
  refine h.own hB hLA (own_texts l D ia s.heap.size t0 t1 t2) wL_RL_195 wT_L_texts wN_RL wC_L_texts ⟨by decide +kernel, by decide +kernel, by decide +kernel⟩ (by decide) (by decide) (by decide) dL_law_15 ?_
  have X2 := h.ctx hCK (cells := 192 + 192) (slots := 5002 + 5002) (by decide) (by decide)
  refine g_eqN X2 (tgt := 27) dL_law_18 (by decide) ?_
  refine h.own hB hLA (own_known l D ia s.heap.size t0 t1 t2) wL_RL_199 wT_L_known wN_RL wC_L_known ⟨by decide +kernel, by decide +kernel, by decide +kernel⟩ (by decide) (by decide) (by decide) dL_law_21 ?_
  have X3 := h.ctx hCK (cells := 192 + 192 + 192) (slots := 5002 + 5002 + 5002) (by decide) (by decide)
  have Y3 := h.Y hLA hsv (cells := 192 + 192 + 192) (slots := 5002 + 5002 + 5002) (by decide) (by decide)
  refine g_neY X3 (tgt := 29) dL_law_24 (by decide) ?_
  refine g_iconst X3 dL_law_29 ?_
  refine g_istore_n X3 (lw := [some (sv E 3), some (rv E 0), some (iv 1), none, none, none, none, none, none]) dL_law_30 (by decide) rfl rfl ?_
  refine la_1 X3 Y3 (fun σ2 s2 hC2 hS2 h02 h192 => ?_) 5 1 rfl (by decide) σ1 s0 hC1 s0_K (by decide) (by decide)
  refine g_iconst X3 dL_law_86 ?_
  refine g_istore_n X3 (lw := [some (sv E 3), some (rv E 0), some (iv 0), none, none, none, none, none, none]) dL_law_87 (by decide) rfl rfl ?_
  refine la_2 X3 Y3 (fun σ3 s3 hC3 hS3 h03 hQ3 h43 => ?_) 10 0 rfl σ2 s2 hC2 hS2 h02 ⟨h192, fun j hj => absurd hj (Nat.not_lt_zero j)⟩ (Nat.zero_le _)
  refine la_3 X3 hC3 hS3 h03 hQ3 (fun σ4 hC4 => ?_)
  refine g_bipush X3 dL_law_259 (by decide) ?_
  refine h.was hB hD hI g0 g1 g2 g9 hLA hCK (by decide) (by decide) dL_law_261 (fun q hLA2 hCK2 => ?_)
  have X4 := h.ctx hCK2 (cells := 192 + 192 + 192 + 1) (slots := 5002 + 5002 + 5002 + 16) (by decide) (by decide)
  have hsv2 : sv (Ew E q) 3 = Value.ref b := congrArg Value.ref ((Ew_s (by decide)).trans g3)
  have Y4 := h.Y hLA2 hsv2 (cells := 192 + 192 + 192 + 1) (slots := 5002 + 5002 + 5002 + 16) (by decide) (by decide)
  have hC5 : CRep (σw σ4) s3 9000 := hC4.fr (fun x hx => if_neg (by omega))
  refine g_astore_n X4 (lw := [some (sv (Ew E q) 3), some (rv (Ew E q) 0), some (rv (Ew E q) 12), none, none, none, none, none, none]) dL_law_263 (by decide) rfl rfl ?_
  exact la_rest X4 Y4 rfl hC5 hS3 hQ3 h43
end ALL
