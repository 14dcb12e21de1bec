/-! ===== constructors: a walk over a list of cells that grows ===== -/
def tysI (ia : Nat → ClassId) : List (ClassId × FieldType) := [(ia 0, .int), (ia 1, .long), (ia 2, .char), (ia 3, .object "PileSets$State"), (ia 4, .object "PileSets$Pile")]
def eI (ia : Nat → ClassId) (n : Nat) (v : Nat → Int) : va_E := .inl (ia 0, n, .inl (fun j => zI (v j)))
def eJ (ia : Nat → ClassId) (n : Nat) (v : Nat → Int) : va_E := .inl (ia 1, n, .inr (.inl (fun j => zL (v j))))
def eC (ia : Nat → ClassId) (n : Nat) (v : Nat → Int) : va_E := .inl (ia 2, n, .inl (fun j => zI (v j)))
def eQ (ia : Nat → ClassId) (k n : Nat) (L : List (Option Nat)) : va_E := .inl (ia k, n, .inr (.inr (.inr (.inr (fun i => L.getD i none)))))
def zr : Nat → Int := fun _ => 0
def upv (v : Nat → Int) (i : Nat) (z : Int) : Nat → Int := fun j => if j = i then z else v j
def CN (D : va_G) (ia : Nat → ClassId) (z0 t : Nat) (U : State) (H : Heap) : Prop :=
  va_K D vwCl (tysI ia) U ∧ (∀ w ∈ nestWs, va_Nw w U) ∧ va_Z "PileSets" "FIRST_SETTINGS" "[I" (.ref t) (fun q => z0 ≤ q) U H ∧ (∃ cell : Cell, H[t]? = some cell ∧ (∀ k, cell.vm ≠ .statics k) ∧ cell.vm ≠ .unknown ∧ cell.cls = ia 0 ∧ cell.slots = (arrV (ia 0) 6 (fun j => iv (firstS.getD j 0))).slots) ∧ t < z0 ∧ va_Nw (.castable "[I" "java/lang/Cloneable") U ∧ va_AO "PileSets$State" U ∧ va_AO "PileSets$Pile" U
theorem CN.to {D : va_G} {ia : Nat → ClassId} {z0 t : Nat} {A : Nat → Prop} {s U : State} {H : Heap} {locs : List Loc} (h : CN D ia z0 t s s.heap) (hW : s.WarmedH U.vm) (hS : va_S A s.heap H locs) (hA : ∀ q, A q → z0 ≤ q) : CN D ia z0 t U H := by
  obtain ⟨h1, h2, h3, ⟨cell, h4, h5⟩, h6, h7, h8, h9⟩ := h
  have hk : ∀ a : Nat, a < s.heap.size → ¬ z0 ≤ a → H[a]? = s.heap[a]? := fun a ha hz => hS.2.1 a ha (fun q => hz (hA a q))
  refine ⟨va_K.moved hW.alike h1, fun w hw => ?_, (h3.moved hW.alike).kept hk, ⟨cell, ?_, h5⟩, h6, va_Nw.warmC hW h7, h8.moved hW.alike, h9.moved hW.alike⟩
  · rcases nest_kind w hw with ⟨a, i, b, n, d, h, rfl⟩ | ⟨a, i, y, h, rfl⟩
    · exact va_Nw.warmF hW (h2 _ hw)
    · exact va_Nw.warmM hW (h2 _ hw)
  · rw [hk t (Array.getElem?_eq_some_iff.mp h4).1 (by omega)]
    exact h4
theorem CN.vm {D : va_G} {ia : Nat → ClassId} {z0 t : Nat} {u U : State} {H : Heap} (h : CN D ia z0 t u H) (hv : u.vm = U.vm) : CN D ia z0 t U H := by
  obtain ⟨h1, h2, h3, h5, h6, h7, h8, h9⟩ := h
  have ha : u.vm.Alike U.vm := hv ▸ Vm.Alike.refl _
  refine ⟨va_K.moved ha h1, fun w hw => ?_, h3.moved ha, h5, h6, va_Nw.same rfl hv h7, h8.moved ha, h9.moved ha⟩
  rcases nest_kind w hw with ⟨a, i, b, n, d, h, rfl⟩ | ⟨a, i, y, h, rfl⟩
  · exact va_Nw.same rfl hv (h2 _ hw)
  · exact va_Nw.same rfl hv (h2 _ hw)
def nB (D : va_G) (ia : Nat → ClassId) (z0 t : Nat) (w0 : va_W) (sz : Nat) (U : State) : Prop := U.heap.size = sz ∧ z0 ≤ sz ∧ va_P D vwCl w0 U.heap ∧ va_D (va_A w0 sz) w0 ∧ (∀ (k : Nat) (q : Nat × va_E), w0[k]? = some q → z0 ≤ q.1) ∧ CN D ia z0 t U U.heap
def MetN (l : Launch) (D : va_G) (ia : Nat → ClassId) (z0 t : Nat) (y : MethodName) (cc : ByteArray) (nL f loc mc ms : Nat) (as : List Value) (w0 : va_W) (sz : Nat) (Post : va_W → Prop) : Prop :=
  Met l y (.code y cc nL none :: wsL_law) { frames := f, cells := mc, slots := ms, locals := loc } (va_Pc as (nB D ia z0 t w0 sz)) (va_Qv Post (fun ws T => va_P D vwCl ws T.heap ∧ va_D (va_A w0 sz) ws) (va_A w0 sz)) mc ms (va_A w0 sz)
theorem nB_blind {D : va_G} {ia : Nat → ClassId} {z0 t : Nat} {w0 : va_W} {sz : Nat} {as : List Value} : FrameBlind (va_Pc as (nB D ia z0 t w0 sz)) := fun a U g mk q => ⟨q.1, q.2.1, q.2.2.1, q.2.2.2.1, q.2.2.2.2.1, q.2.2.2.2.2.1, q.2.2.2.2.2.2.vm (U := U.calling g mk a) rfl⟩
def Kn (p : Program) (l : Launch) (e : Env) (R : Room) (s : State) (m : MethodId) (args : Array Value) (below : List Frame) (meth : Method) (c : Code) (Q : State → Prop) (D : va_G) (A : Nat → Prop) (nL : Nat) : va_W → Nat → Nat → Nat → List (Option Value) → List Value → Prop := fun ws k n pc lv st => ∀ (H : Heap) (locs : List Loc) (ls : Array Slot), va_P D vwCl ws H → va_D A ws → va_S A s.heap H locs → lvH ls nL lv → W p l e R s m args below meth c H locs k n Q (F0 m pc ls st)
def CtN (l : Launch) (D : va_G) (ia : Nat → ClassId) (z0 t : Nat) (A : Nat → Prop) (K : va_W → Nat → Nat → Nat → List (Option Value) → List Value → Prop) (own : String) (cc : ByteArray) (nL f loc mc ms : Nat) (nm : String) : Prop :=
  ∃ (p : Program) (e : Env) (R : Room) (s : State) (m : MethodId) (args : Array Value) (below : List Frame) (meth : Method) (c : Code) (Q : State → Prop), K = Kn p l e R s m args below meth c Q D A nL ∧
    p.tables.exec = Jvm.exec ∧ c.code = cc ∧ c.maxLocals = nL ∧ s.vm.findClass own = some m.cls ∧ (∀ w ∈ wsL_law, w.before args s = true) ∧ R.frames = f ∧ R.locals = loc ∧ R.cells = mc ∧ R.slots = ms ∧ meth.name = nm ∧ (∀ q, s.heap.size ≤ q → A q) ∧ (∀ q, A q → z0 ≤ q) ∧ CN D ia z0 t s s.heap
theorem MetN.of {l : Launch} {D : va_G} {ia : Nat → ClassId} {z0 t : Nat} {y : MethodName} {cc : ByteArray} {nL f loc mc ms : Nat} {as : List Value} {w0 : va_W} {sz : Nat} {Post : va_W → Prop} {own nm : String} (hy : plainName y.cls = true) (ho : y.cls = own) (hnm : y.name = nm) (hc : ∀ v ∈ as, v.category = 1) (hlen : as.length ≤ nL) (lv0 : List (Option Value)) (hlv : as.map some ++ List.replicate (nL - as.length) none = lv0) (body : ∀ K, CtN l D ia z0 t (va_A w0 sz) K own cc nL f loc mc ms nm → (∀ ws k n pc lv, k ≤ mc → n ≤ ms → decode cc pc = .ok (.return_, 1) → Post ws → K ws k n pc lv []) → K w0 0 0 0 lv0 []) : MetN l D ia z0 t y cc nL f loc mc ms as w0 sz Post := by
  refine Met.ofW (cc := cc) (maxL := nL) (ret := none) hy rfl ?_
  intro p e s m args below meth c s₁ B hml hv
  obtain ⟨rfl, hsz, hz0, hP, hD, hw, hCN⟩ := hv
  have hts : ∀ w ∈ wsL_law, w.before as.toArray s = true := fun w hw => atoms_spec (ws := .code y cc nL none :: wsL_law) B.pre w (List.mem_cons_of_mem _ hw)
  have hown : s.vm.findClass own = some m.cls := ho ▸ findClass_of_methodNamed B.named
  have hname : meth.name = nm := hnm ▸ (name_of_methodNamed B.named B.method).1
  have hx := B.exec
  have hb := B.bytes
  have hr := B.returns
  have hlocks := B.notSynchronized
  have hsl : lg_sl as = as.map Slot.val := by
    clear hlv hlen body hP hCN hts hown B
    induction as with
    | nil => rfl
    | cons a t ih =>
      have h1 := hc a List.mem_cons_self
      have h2 := ih (fun v hv => hc v (List.mem_cons_of_mem _ hv))
      unfold lg_sl at h2 ⊢
      rw [List.flatMap_cons, h2, h1]
      rfl
  have hent := lv_entry as (n := nL) (by rw [hsl]; simpa using hlen)
  have hL : lvH ((lg_sl as ++ List.replicate (nL - (lg_sl as).length) Slot.unset).toArray) nL lv0 := by
    refine ⟨hent.1, hent.2.1, fun i v hi => ?_⟩
    subst hlv
    by_cases h : i < as.length
    · rw [List.getElem?_append_left (by simpa using h), List.getElem?_map] at hi
      have h3 : as[i]? = some v := by
        cases h4 : as[i]? with
        | none => rw [h4] at hi; cases hi
        | some w => rw [h4] at hi; simpa using hi
      have h5 := lv_args_get as 0 hc i v h3
      rw [Nat.zero_add] at h5
      exact hent.2.2 _ h5
    · rw [List.getElem?_append_right (by simpa using h), List.getElem?_replicate] at hi
      split at hi <;> simp at hi
  rw [lg_entry_eq]
  subst hsz
  refine body _ ⟨p, e, _, s, m, as.toArray, below, meth, c, _, rfl, hx, hb, hml, hown, hts, rfl, rfl, rfl, rfl, hname, fun q h => Or.inr h, fun q h => ?_, hCN⟩ ?_ s.heap [] _ hP hD va_S.rf hL
  · rcases h with ⟨k, e, h⟩ | h
    · exact hw k (q, e) h
    · exact Nat.le_trans hz0 h
  · intro ws k n pc lv hk hn hd hp H locs ls hP' hD' hS hl
    refine W.widen (k := 0 + mc) (n := 0 + ms) (by omega) (by omega) ?_
    rw [Nat.zero_add, Nat.zero_add]
    exact W.vret hx hb hr (fun t ht hW => ⟨⟨ws, rfl, hp, by rw [ht]; exact hP', hD'⟩, hS.F ht⟩) hS.2.2 hd hlocks
theorem va_P.left {D : va_G} {cl : List vw_C} {F wc : va_W} {H : Heap} (h : va_P D cl (F ++ wc) H) : va_P D cl F H := fun k q hk => h k q (by rw [List.getElem?_append_left (List.getElem?_eq_some_iff.mp hk).1]; exact hk)
theorem va_P.right {D : va_G} {cl : List vw_C} {F wc : va_W} {H : Heap} (h : va_P D cl (F ++ wc) H) : va_P D cl wc H := fun k q hk => h (F.length + k) q (by rw [List.getElem?_append_right (by omega), Nat.add_sub_cancel_left]; exact hk)
theorem va_D.left {A : Nat → Prop} {F wc : va_W} (h : va_D A (F ++ wc)) : va_D A F := ⟨fun i j p q hi hj e => h.1 i j p q (by rw [List.getElem?_append_left (List.getElem?_eq_some_iff.mp hi).1]; exact hi) (by rw [List.getElem?_append_left (List.getElem?_eq_some_iff.mp hj).1]; exact hj) e, fun k q hk => h.2 k q (by rw [List.getElem?_append_left (List.getElem?_eq_some_iff.mp hk).1]; exact hk)⟩
theorem va_D.right {A : Nat → Prop} {F wc : va_W} (h : va_D A (F ++ wc)) : va_D A wc := ⟨fun i j p q hi hj e => by
  have := h.1 (F.length + i) (F.length + j) p q (by rw [List.getElem?_append_right (by omega), Nat.add_sub_cancel_left]; exact hi) (by rw [List.getElem?_append_right (by omega), Nat.add_sub_cancel_left]; exact hj) e
  omega, fun k q hk => h.2 (F.length + k) q (by rw [List.getElem?_append_right (by omega), Nat.add_sub_cancel_left]; exact hk)⟩
theorem va_joinA {A0 : Nat → Prop} {D : va_G} {cl : List vw_C} {F wc w1 : va_W} {H H1 : Heap} (hP : va_P D cl (F ++ wc) H) (hD : va_D A0 (F ++ wc)) (hk : ∀ q : Nat, q < H.size → ¬ va_A wc H.size q → H1[q]? = H[q]?) (hF : ∀ q, va_A wc H.size q → A0 q) (hP1 : va_P D cl w1 H1) (hD1 : va_D (va_A wc H.size) w1) : va_P D cl (F ++ w1) H1 ∧ va_D A0 (F ++ w1) := by
  have apart : ∀ (k : Nat) (q : Nat × va_E), F[k]? = some q → q.1 < H.size ∧ ¬ va_A wc H.size q.1 := by
    intro k q hq
    have hl := (hP.left k q hq).lt
    refine ⟨hl, fun h => ?_⟩
    rcases h with ⟨k2, e, h⟩ | h
    · have hlt := (List.getElem?_eq_some_iff.mp hq).1
      have := hD.1 k (F.length + k2) q (q.1, e) (by rw [List.getElem?_append_left hlt]; exact hq) (by rw [List.getElem?_append_right (by omega), Nat.add_sub_cancel_left]; exact h) rfl
      omega
    · omega
  refine ⟨va_P.app (fun k q hq => ?_) hP1, va_D.app hD.left (hD1.weaken (fun k q _ h => hF q.1 h)) (fun i j x y hx hy hxy => ?_)⟩
  · obtain ⟨g1, g2⟩ := apart k q hq
    exact (hP.left k q hq).kept (hk q.1 g1 g2)
  · exact (apart i x hx).2 (by rw [hxy]; exact hD1.2 j y hy)
section NROWS
variable {l : Launch} {D : va_G} {ia : Nat → ClassId} {z0 t : Nat} {A : Nat → Prop} {K : va_W → Nat → Nat → Nat → List (Option Value) → List Value → Prop} {own nm : String} {cc : ByteArray} {nL f loc mc ms : Nat} {ws : va_W} {k0 n0 pc : Nat} {lv : List (Option Value)} {st : List Value}
theorem n_aload_n (X : CtN l D ia z0 t A K own cc nL f loc mc ms nm) {k : Fin 4} {x : Nat} (hd : decode cc pc = .ok (.aload_n k, 1)) (hl : lv[(k : Nat)]? = some (some (.ref x))) (kk : K ws k0 n0 (pc + 1) lv (.ref x :: st)) : K ws k0 n0 pc lv st := by
  obtain ⟨p, e, R, s, m, args, below, meth, c0, Q, rfl, hx, hb, hml, hown, hts, hf, hlo, hmc, hms, hnm, hA, hAz, hC⟩ := X
  intro H locs ls hP hD hS hv
  exact lv_aload_n hx hb hd rfl (hv.2.2 _ _ hl) (kk H locs ls hP hD hS hv)
theorem n_iload_n (X : CtN l D ia z0 t A K own cc nL f loc mc ms nm) {k : Fin 4} {x : Int32} (hd : decode cc pc = .ok (.iload_n k, 1)) (hl : lv[(k : Nat)]? = some (some (.int x))) (kk : K ws k0 n0 (pc + 1) lv (.int x :: st)) : K ws k0 n0 pc lv st := by
  obtain ⟨p, e, R, s, m, args, below, meth, c0, Q, rfl, hx, hb, hml, hown, hts, hf, hlo, hmc, hms, hnm, hA, hAz, hC⟩ := X
  intro H locs ls hP hD hS hv
  exact lv_iload_n hx hb hd rfl (hv.2.2 _ _ hl) (kk H locs ls hP hD hS hv)
theorem n_istore_n (X : CtN l D ia z0 t A K own cc nL f loc mc ms nm) {k : Fin 4} {x : Int32} (hd : decode cc pc = .ok (.istore_n k, 1)) (hn : (k : Nat) < nL) (hc : noLong lv (k : Nat) = true) {lw : List (Option Value)} (hset : lv.set (k : Nat) (some (.int x)) = lw) (kk : K ws k0 n0 (pc + 1) lw st) : K ws k0 n0 pc lv (.int x :: st) := by
  obtain ⟨p, e, R, s, m, args, below, meth, c0, Q, rfl, hx, hb, hml, hown, hts, hf, hlo, hmc, hms, hnm, hA, hAz, hC⟩ := X
  intro H locs ls hP hD hS hv
  exact lv_istore_n hx hb hd rfl hv.has hn rfl (fun ls' h' => kk H locs ls' hP hD hS (hset ▸ lvH.st hc h'))
theorem n_astore_n (X : CtN l D ia z0 t A K own cc nL f loc mc ms nm) {k : Fin 4} {x : Nat} (hd : decode cc pc = .ok (.astore_n k, 1)) (hn : (k : Nat) < nL) (hc : noLong lv (k : Nat) = true) {lw : List (Option Value)} (hset : lv.set (k : Nat) (some (.ref x)) = lw) (kk : K ws k0 n0 (pc + 1) lw st) : K ws k0 n0 pc lv (.ref x :: st) := by
  obtain ⟨p, e, R, s, m, args, below, meth, c0, Q, rfl, hx, hb, hml, hown, hts, hf, hlo, hmc, hms, hnm, hA, hAz, hC⟩ := X
  intro H locs ls hP hD hS hv
  exact lv_astore_n hx hb hd rfl hv.has hn rfl (fun ls' h' => kk H locs ls' hP hD hS (hset ▸ lvH.st hc h'))
theorem n_iinc (X : CtN l D ia z0 t A K own cc nL f loc mc ms nm) {i : Nat} {n a : Int} (hd : decode cc pc = .ok (.iinc i n, 3)) (hl : lv[i]? = some (some (iv a))) (hn : i < nL) (hc : noLong lv i = true) {lw : List (Option Value)} (hset : lv.set i (some (iv (a + n))) = lw) (kk : K ws k0 n0 (pc + 3) lw st) : K ws k0 n0 pc lv st := by
  obtain ⟨p, e, R, s, m, args, below, meth, c0, Q, rfl, hx, hb, hml, hown, hts, hf, hlo, hmc, hms, hnm, hA, hAz, hC⟩ := X
  intro H locs ls hP hD hS hv
  obtain ⟨k, hk⟩ := List.getElem?_of_mem (mem_toL.mpr hl)
  exact lv_iinc hx hb hd hv.has hk (zI_add a n) hn rfl (fun ls' h' => kk H locs ls' hP hD hS (hset ▸ lvH.st hc h'))
theorem n_iconst (X : CtN l D ia z0 t A K own cc nL f loc mc ms nm) {n : Int} (hd : decode cc pc = .ok (.iconst n, 1)) (kk : K ws k0 n0 (pc + 1) lv (iv n :: st)) : K ws k0 n0 pc lv st := by
  obtain ⟨p, e, R, s, m, args, below, meth, c0, Q, rfl, hx, hb, hml, hown, hts, hf, hlo, hmc, hms, hnm, hA, hAz, hC⟩ := X
  intro H locs ls hP hD hS hv
  exact lv_iconst hx hb hd rfl (kk H locs ls hP hD hS hv)
theorem n_bipush (X : CtN l D ia z0 t A K own cc nL f loc mc ms nm) {n : Int} (hd : decode cc pc = .ok (.bipush n, 2)) (hn : (Int8.ofInt n).toInt32 = zI n) (kk : K ws k0 n0 (pc + 2) lv (iv n :: st)) : K ws k0 n0 pc lv st := by
  obtain ⟨p, e, R, s, m, args, below, meth, c0, Q, rfl, hx, hb, hml, hown, hts, hf, hlo, hmc, hms, hnm, hA, hAz, hC⟩ := X
  intro H locs ls hP hD hS hv
  exact lv_bipush hx hb hd hn (kk H locs ls hP hD hS hv)
theorem n_sipush (X : CtN l D ia z0 t A K own cc nL f loc mc ms nm) {n : Int} (hd : decode cc pc = .ok (.sipush n, 3)) (hn : (Int16.ofInt n).toInt32 = zI n) (kk : K ws k0 n0 (pc + 3) lv (iv n :: st)) : K ws k0 n0 pc lv st := by
  obtain ⟨p, e, R, s, m, args, below, meth, c0, Q, rfl, hx, hb, hml, hown, hts, hf, hlo, hmc, hms, hnm, hA, hAz, hC⟩ := X
  intro H locs ls hP hD hS hv
  exact lv_sipush hx hb hd hn (kk H locs ls hP hD hS hv)
theorem n_dup (X : CtN l D ia z0 t A K own cc nL f loc mc ms nm) {v : Value} (hd : decode cc pc = .ok (.dup, 1)) (hc : v.category = 1) (kk : K ws k0 n0 (pc + 1) lv (v :: v :: st)) : K ws k0 n0 pc lv (v :: st) := by
  obtain ⟨p, e, R, s, m, args, below, meth, c0, Q, rfl, hx, hb, hml, hown, hts, hf, hlo, hmc, hms, hnm, hA, hAz, hC⟩ := X
  intro H locs ls hP hD hS hv
  exact lv_dup hx hb hd hc (kk H locs ls hP hD hS hv)
theorem n_iadd (X : CtN l D ia z0 t A K own cc nL f loc mc ms nm) {a b : Int} (hd : decode cc pc = .ok (.iadd, 1)) (kk : K ws k0 n0 (pc + 1) lv (iv (a + b) :: st)) : K ws k0 n0 pc lv (iv b :: iv a :: st) := by
  obtain ⟨p, e, R, s, m, args, below, meth, c0, Q, rfl, hx, hb, hml, hown, hts, hf, hlo, hmc, hms, hnm, hA, hAz, hC⟩ := X
  intro H locs ls hP hD hS hv
  exact lv_iadd hx hb hd (by rw [zI_add]; exact kk H locs ls hP hD hS hv)
theorem n_goto (X : CtN l D ia z0 t A K own cc nL f loc mc ms nm) {off : Int} {tgt : Nat} (hd : decode cc pc = .ok (.goto off, 3)) (ht : (pc : Int) + off = (tgt : Int)) (kk : K ws k0 n0 tgt lv st) : K ws k0 n0 pc lv st := by
  obtain ⟨p, e, R, s, m, args, below, meth, c0, Q, rfl, hx, hb, hml, hown, hts, hf, hlo, hmc, hms, hnm, hA, hAz, hC⟩ := X
  intro H locs ls hP hD hS hv
  exact lv_goto hx hb hd ht (kk H locs ls hP hD hS hv)
theorem n_icmp_ge (X : CtN l D ia z0 t A K own cc nL f loc mc ms nm) {a b : Int} {off : Int} {tgt : Nat} (hd : decode cc pc = .ok (.if_icmp .ge off, 3)) (ht : (pc : Int) + off = (tgt : Int)) (ha : I32 a) (h0 : I32 b) (kt : b ≤ a → K ws k0 n0 tgt lv st) (kf : a < b → K ws k0 n0 (pc + 3) lv st) : K ws k0 n0 pc lv (iv b :: iv a :: st) := by
  obtain ⟨p, e, R, s, m, args, below, meth, c0, Q, rfl, hx, hb, hml, hown, hts, hf, hlo, hmc, hms, hnm, hA, hAz, hC⟩ := X
  intro H locs ls hP hD hS hv
  refine lv_icmp_ge hx hb hd ht (fun h => kt ?_ H locs ls hP hD hS hv) (fun h => kf ?_ H locs ls hP hD hS hv)
  · first | exact (zI_le ha h0).mp h | exact (zI_le h0 ha).mp h | exact fun q => h ((zI_le ha h0).mpr q)
  · first | exact (zI_le ha h0).mp h | exact fun q => h ((zI_le ha h0).mpr q) | exact Int.not_lt.mp (fun q => h ((zI_le ha h0).mpr q)) | exact Int.not_lt.mp (fun q => h ((zI_le h0 ha).mpr q)) | exact Int.not_le.mp (fun q => h ((zI_le h0 ha).mpr q)) | exact Int.not_le.mp (fun q => h ((zI_le ha h0).mpr q)) | exact Classical.byContradiction (fun q => h (fun z => q ((zI_le ha h0).mp z)))
theorem n_icmp_lt (X : CtN l D ia z0 t A K own cc nL f loc mc ms nm) {a b : Int} {off : Int} {tgt : Nat} (hd : decode cc pc = .ok (.if_icmp .lt off, 3)) (ht : (pc : Int) + off = (tgt : Int)) (ha : I32 a) (h0 : I32 b) (kt : a < b → K ws k0 n0 tgt lv st) (kf : b ≤ a → K ws k0 n0 (pc + 3) lv st) : K ws k0 n0 pc lv (iv b :: iv a :: st) := by
  obtain ⟨p, e, R, s, m, args, below, meth, c0, Q, rfl, hx, hb, hml, hown, hts, hf, hlo, hmc, hms, hnm, hA, hAz, hC⟩ := X
  intro H locs ls hP hD hS hv
  refine lv_icmp_lt hx hb hd ht (fun h => kt ?_ H locs ls hP hD hS hv) (fun h => kf ?_ H locs ls hP hD hS hv)
  · first | exact (zI_lt ha h0).mp h | exact (zI_lt h0 ha).mp h | exact fun q => h ((zI_lt ha h0).mpr q)
  · first | exact (zI_lt ha h0).mp h | exact fun q => h ((zI_lt ha h0).mpr q) | exact Int.not_lt.mp (fun q => h ((zI_lt ha h0).mpr q)) | exact Int.not_lt.mp (fun q => h ((zI_lt h0 ha).mpr q)) | exact Int.not_le.mp (fun q => h ((zI_lt h0 ha).mpr q)) | exact Int.not_le.mp (fun q => h ((zI_lt ha h0).mpr q)) | exact Classical.byContradiction (fun q => h (fun z => q ((zI_lt ha h0).mp z)))
theorem n_if_lt (X : CtN l D ia z0 t A K own cc nL f loc mc ms nm) {a : Int} {off : Int} {tgt : Nat} (hd : decode cc pc = .ok (.ifCond .lt off, 3)) (ht : (pc : Int) + off = (tgt : Int)) (ha : I32 a) (kt : a < 0 → K ws k0 n0 tgt lv st) (kf : 0 ≤ a → K ws k0 n0 (pc + 3) lv st) : K ws k0 n0 pc lv (iv a :: st) := by
  obtain ⟨p, e, R, s, m, args, below, meth, c0, Q, rfl, hx, hb, hml, hown, hts, hf, hlo, hmc, hms, hnm, hA, hAz, hC⟩ := X
  intro H locs ls hP hD hS hv
  have h0 : I32 0 := ⟨by decide, by decide⟩
  refine lv_if_lt hx hb hd ht (fun h => kt ?_ H locs ls hP hD hS hv) (fun h => kf ?_ H locs ls hP hD hS hv)
  · rw [← zI_0] at h
    first | exact (zI_lt ha h0).mp h | exact (zI_lt h0 ha).mp h | exact fun q => h ((zI_lt ha h0).mpr q)
  · rw [← zI_0] at h
    first | exact (zI_lt ha h0).mp h | exact fun q => h ((zI_lt ha h0).mpr q) | exact Int.not_lt.mp (fun q => h ((zI_lt ha h0).mpr q)) | exact Int.not_lt.mp (fun q => h ((zI_lt h0 ha).mpr q)) | exact Int.not_le.mp (fun q => h ((zI_lt h0 ha).mpr q)) | exact Int.not_le.mp (fun q => h ((zI_lt ha h0).mpr q)) | exact Classical.byContradiction (fun q => h (fun z => q ((zI_lt ha h0).mp z)))
theorem n_max (X : CtN l D ia z0 t A K own cc nL f loc mc ms nm) {index : Nat} {a b : Int} (hw : Cond.methodLink own index Lib.Math.max.name ∈ wsL_law) (ha : I32 a) (hb0 : I32 b) (hF : 1 ≤ f) (hL : (st.map fun v => v.category).sum + 13 ≤ loc) (hk : k0 ≤ mc) (hn : n0 ≤ ms) (hd : decode cc pc = .ok (.invokestatic index, 3)) (kk : K ws k0 n0 (pc + 3) lv (iv (max a b) :: st)) : K ws k0 n0 pc lv (iv b :: iv a :: st) := by
  obtain ⟨p, e, R, s, m, args, below, meth, c0, Q, rfl, hx, hb, hml, hown, hts, hf, hlo, hmc, hms, hnm, hA, hAz, hC⟩ := X
  intro H locs ls hP hD hS hv
  refine va_mmax hx hb (by rw [hml]; exact hv.1.symm) hown (hts _ hw) (hts _ law_max1) (hts _ law_math) (hts _ law_max2) (by rw [hf]; exact hF) (by rw [hlo]; exact hL) (by rw [hmc]; exact hk) (by rw [hms]; exact hn) hd ?_
  have e : (if zI a < zI b then zI b else zI a) = zI (max a b) := by
    simp only [zI_lt ha hb0]
    split <;> congr 1 <;> omega
  rw [e]
  exact kk H locs ls hP hD hS hv
theorem n_objInit (X : CtN l D ia z0 t A K own cc nL f loc mc ms nm) {idx a : Nat} (hw : Cond.methodLink own idx objectInit ∈ wsL_law) (hF : 1 ≤ f) (hL : (st.map fun v => v.category).sum + 12 ≤ loc) (hd : decode cc pc = .ok (.invokespecial idx, 3)) (kk : K ws k0 n0 (pc + 3) lv st) : K ws k0 n0 pc lv (.ref a :: st) := by
  obtain ⟨p, e, R, s, m, args, below, meth, c0, Q, rfl, hx, hb, hml, hown, hts, hf, hlo, hmc, hms, hnm, hA, hAz, hC⟩ := X
  intro H locs ls hP hD hS hv
  refine W.objInit hx hb hown (hts _ hw) (hts _ wI_objectInit) (hts _ wC_objectInit) rfl (by rw [hml]; exact hv.1) rfl hd (by rw [hf]; exact hF) (by rw [hlo]; show 2 * 0 + _ + 12 ≤ _; omega) ?_
  exact W.eq (g2 := F0 m (pc + 3) ls st) rfl (kk H locs ls hP hD hS hv)
theorem n_getf (X : CtN l D ia z0 t A K own cc nL f loc mc ms nm) {index ci k N a : Nat} {C ref : String} {T : u_T} {fs : List Value} {v : Value} (q0 : Nat) (he : ws[q0]? = some (a, .inr (ci, fs))) (hcl : vwCl[ci]? = some (C, T, N)) (hin : ∀ w ∈ u_ws C T N, w ∈ wsL_law) (hk : k < N) (hw : Cond.fieldLink own index ref (T k).2.1 (T k).2.2.1 ∈ wsL_law) (hC0 : (T k).1 = ref) (hfv : fs[k]? = some v) (hd : decode cc pc = .ok (.getfield index, 3)) (kk : K ws k0 n0 (pc + 3) lv (v :: st)) : K ws k0 n0 pc lv (.ref a :: st) := by
  obtain ⟨p, e, R, s, m, args, below, meth, c0, Q, rfl, hx, hb, hml, hown, hts, hf, hlo, hmc, hms, hnm, hA, hAz, hC⟩ := X
  intro H locs ls hP hD hS hv
  subst hC0
  exact va_get hx hb hts hin hown hC.1 hP q0 he hcl k hk (hts _ hw) (fun _ h => h) hfv hd (kk H locs ls hP hD hS hv)
theorem n_putf (X : CtN l D ia z0 t A K own cc nL f loc mc ms nm) {index ci k N a : Nat} {C ref : String} {T : u_T} {fs : List Value} {v : Value} {ty : FieldType} {ws' : va_W} (ty0 : Nat → FieldType) (hty : ∀ k, k < N → parseFieldDescriptor (T k).2.2.1 = some (ty0 k)) (hnm2 : ∀ a, a < N → ∀ b, b < N → a ≠ b → (T a).2.1 ≠ (T b).2.1) (q0 : Nat) (he : ws[q0]? = some (a, .inr (ci, fs))) (hcl : vwCl[ci]? = some (C, T, N)) (hin : ∀ w ∈ u_ws C T N, w ∈ wsL_law) (hk : k < N) (hw : Cond.fieldLink own index ref (T k).2.1 (T k).2.2.1 ∈ wsL_law) (hC0 : (T k).1 = ref) (hfin : (T k).2.2.2 = false) (hdes : parseFieldDescriptor (T k).2.2.1 = some ty) (hnar : narrow ty v = v) (hfit : fits ty v = true) (hl : k < fs.length) (hd : decode cc pc = .ok (.putfield index, 3)) (hws : ws.set q0 (a, .inr (ci, fs.set k v)) = ws') (kk : K ws' k0 n0 (pc + 3) lv st) : K ws k0 n0 pc lv (v :: .ref a :: st) := by
  obtain ⟨p, e, R, s, m, args, below, meth, c0, Q, rfl, hx, hb, hml, hown, hts, hf, hlo, hmc, hms, hnm, hA, hAz, hC⟩ := X
  intro H locs ls hP hD hS hv
  subst hC0; subst hws
  exact va_put hx hb hts hin ty0 hty hnm2 hown hC.1 hP hD hS q0 he hcl k hk (hts _ hw) (fun _ h => h) hfin hdes hnar hfit hl hd (fun H1 locs1 hP1 hD1 hS1 => kk H1 locs1 ls hP1 hD1 hS1 hv)
theorem n_putF (X : CtN l D ia z0 t A K own cc nL f loc mc ms "<init>") {index ci k N a : Nat} {C ref : String} {T : u_T} {fs : List Value} {v : Value} {ty : FieldType} {ws' : va_W} (ty0 : Nat → FieldType) (hty : ∀ k, k < N → parseFieldDescriptor (T k).2.2.1 = some (ty0 k)) (hnm2 : ∀ a, a < N → ∀ b, b < N → a ≠ b → (T a).2.1 ≠ (T b).2.1) (q0 : Nat) (he : ws[q0]? = some (a, .inr (ci, fs))) (hcl : vwCl[ci]? = some (C, T, N)) (hin : ∀ w ∈ u_ws C T N, w ∈ wsL_law) (hk : k < N) (hw : Cond.fieldLink own index ref (T k).2.1 (T k).2.2.1 ∈ wsL_law) (hC0 : (T k).1 = ref) (hC1 : (T k).1 = own) (hfin : (T k).2.2.2 = true) (hdes : parseFieldDescriptor (T k).2.2.1 = some ty) (hnar : narrow ty v = v) (hfit : fits ty v = true) (hl : k < fs.length) (hd : decode cc pc = .ok (.putfield index, 3)) (hws : ws.set q0 (a, .inr (ci, fs.set k v)) = ws') (kk : K ws' k0 n0 (pc + 3) lv st) : K ws k0 n0 pc lv (v :: .ref a :: st) := by
  obtain ⟨p, e, R, s, m, args, below, meth, c0, Q, rfl, hx, hb, hml, hown, hts, hf, hlo, hmc, hms, hnm, hA, hAz, hC⟩ := X
  intro H locs ls hP hD hS hv
  subst hC0; subst hws
  exact va_putF hx hb hts hin ty0 hty hnm2 hown hC.1 hP hD hS q0 he hcl k hk (hts _ hw) (fun _ h => h) hfin hnm hC1 hdes hnar hfit hl hd (fun H1 locs1 hP1 hD1 hS1 => kk H1 locs1 ls hP1 hD1 hS1 hv)
theorem zI_lit {N : Nat} (h : N < 2147483648) : ¬ zI (N : Int) < 0 ∧ (zI (N : Int)).toNatClampNeg = N := by
  refine ⟨fun q => ?_, by rw [zI_cl (by omega) (by omega)]; omega⟩
  rw [← zI_0, zI_lt ⟨by omega, by omega⟩ ⟨by decide, by decide⟩] at q
  omega
theorem n_newI (X : CtN l D ia z0 t A K own cc nL f loc mc ms nm) {i : Int} {N k1 n1 : Nat} (hi : i = (N : Int)) (hN : N < 100000000) (hk : k0 + 1 = k1) (hn : n0 + N = n1) (hk1 : k1 ≤ mc) (hn1 : n1 ≤ ms) (hd : decode cc pc = .ok (.newarray .int, 2)) (kk : ∀ q, K (ws ++ [(q, eI ia N zr)]) k1 n1 (pc + 2) lv (.ref q :: st)) : K ws k0 n0 pc lv (iv i :: st) := by
  obtain ⟨p, e, R, s, m, args, below, meth, c0, Q, rfl, hx, hb, hml, hown, hts, hf, hlo, hmc, hms, hnm, hA, hAz, hC⟩ := X
  intro H locs ls hP hD hS hv
  subst hi; subst hk; subst hn
  have hz := zI_lit (N := N) (by omega)
  refine va_newa (atype := .int) (a0 := (N, .inl (fun j => zI (zr j)))) hx hb (hts _ wA_int) rfl hC.1 hP hD hS hA (fun cA => rfl) hz.1 hz.2 (by show N * 4 ≤ _; omega) (by rw [hmc]; exact hk1) (by rw [hms]; exact hn1) hd (fun q cA H1 hK1 hP1 hD1 hS1 => ?_)
  have e1 := va_nm_int (hK1.2 5 _ rfl).2
  have e2 := va_nm_int (hC.1.2 0 _ rfl).2
  have e3 : cA = ia 0 := Option.some.inj (e1.symm.trans e2)
  subst e3
  exact kk q H1 locs ls hP1 hD1 hS1 hv
theorem n_newJ (X : CtN l D ia z0 t A K own cc nL f loc mc ms nm) {i : Int} {N k1 n1 : Nat} (hi : i = (N : Int)) (hN : N < 60000000) (hk : k0 + 1 = k1) (hn : n0 + N = n1) (hk1 : k1 ≤ mc) (hn1 : n1 ≤ ms) (hd : decode cc pc = .ok (.newarray .long, 2)) (kk : ∀ q, K (ws ++ [(q, eJ ia N zr)]) k1 n1 (pc + 2) lv (.ref q :: st)) : K ws k0 n0 pc lv (iv i :: st) := by
  obtain ⟨p, e, R, s, m, args, below, meth, c0, Q, rfl, hx, hb, hml, hown, hts, hf, hlo, hmc, hms, hnm, hA, hAz, hC⟩ := X
  intro H locs ls hP hD hS hv
  subst hi; subst hk; subst hn
  have hz := zI_lit (N := N) (by omega)
  refine va_newa (atype := .long) (a0 := (N, .inr (.inl (fun j => zL (zr j))))) hx hb (hts _ wA_long) rfl hC.1 hP hD hS hA (fun cA => rfl) hz.1 hz.2 (by show N * 8 ≤ _; omega) (by rw [hmc]; exact hk1) (by rw [hms]; exact hn1) hd (fun q cA H1 hK1 hP1 hD1 hS1 => ?_)
  have e1 := va_nm_long (hK1.2 5 _ rfl).2
  have e2 := va_nm_long (hC.1.2 1 _ rfl).2
  have e3 : cA = ia 1 := Option.some.inj (e1.symm.trans e2)
  subst e3
  exact kk q H1 locs ls hP1 hD1 hS1 hv
theorem n_newC (X : CtN l D ia z0 t A K own cc nL f loc mc ms nm) {i : Int} {N k1 n1 : Nat} (hi : i = (N : Int)) (hN : N < 100000000) (hk : k0 + 1 = k1) (hn : n0 + N = n1) (hk1 : k1 ≤ mc) (hn1 : n1 ≤ ms) (hd : decode cc pc = .ok (.newarray .char, 2)) (kk : ∀ q, K (ws ++ [(q, eC ia N zr)]) k1 n1 (pc + 2) lv (.ref q :: st)) : K ws k0 n0 pc lv (iv i :: st) := by
  obtain ⟨p, e, R, s, m, args, below, meth, c0, Q, rfl, hx, hb, hml, hown, hts, hf, hlo, hmc, hms, hnm, hA, hAz, hC⟩ := X
  intro H locs ls hP hD hS hv
  subst hi; subst hk; subst hn
  have hz := zI_lit (N := N) (by omega)
  refine va_newa (atype := .char) (a0 := (N, .inl (fun j => zI (zr j)))) hx hb (hts _ wA_char) rfl hC.1 hP hD hS hA (fun cA => rfl) hz.1 hz.2 (by show N * 2 ≤ _; omega) (by rw [hmc]; exact hk1) (by rw [hms]; exact hn1) hd (fun q cA H1 hK1 hP1 hD1 hS1 => ?_)
  have e1 := va_nm_char (hK1.2 5 _ rfl).2
  have e2 := va_nm_char (hC.1.2 2 _ rfl).2
  have e3 : cA = ia 2 := Option.some.inj (e1.symm.trans e2)
  subst e3
  exact kk q H1 locs ls hP1 hD1 hS1 hv
theorem nq_same {s : State} {cA cB : ClassId} {C : String} (h1 : va_RA s cA (.object C)) (h2 : va_RA s cB (.object C)) : cA = cB := by
  obtain ⟨_, _, _, _, _, a⟩ := h1
  obtain ⟨_, _, _, _, _, b⟩ := h2
  exact Option.some.inj (a.symm.trans b)
theorem eQ_new (n : Nat) : (fun _ => none : Nat → Option Nat) = fun i => (List.replicate n (none : Option Nat)).getD i none := by
  funext i
  by_cases h : i < n <;> simp [List.getD, h]
theorem n_newq (X : CtN l D ia z0 t A K own cc nL f loc mc ms nm) {i : Int} {N k1 n1 index kA : Nat} {C : String} (hcl : Cond.classLink own index C ∈ wsL_law) (hty : (tysI ia)[kA]? = some (ia kA, .object C)) (hAO : C = "PileSets$State" ∨ C = "PileSets$Pile") (hi : i = (N : Int)) (hN : N < 100000000) (hk : k0 + 1 = k1) (hn : n0 + N = n1) (hk1 : k1 ≤ mc) (hn1 : n1 ≤ ms) (hd : decode cc pc = .ok (.anewarray index, 3)) (kk : ∀ q, K (ws ++ [(q, eQ ia kA N (List.replicate N none))]) k1 n1 (pc + 3) lv (.ref q :: st)) : K ws k0 n0 pc lv (iv i :: st) := by
  obtain ⟨p, e, R, s, m, args, below, meth, c0, Q, rfl, hx, hb, hml, hown, hts, hf, hlo, hmc, hms, hnm, hA, hAz, hC⟩ := X
  intro H locs ls hP hD hS hv
  subst hi; subst hk; subst hn
  have hz := zI_lit (N := N) (by omega)
  have hover : va_AO C s := by
    rcases hAO with rfl | rfl
    · exact hC.2.2.2.2.2.2.1
    · exact hC.2.2.2.2.2.2.2
  refine va_newq hx hb hown (hts _ hcl) hover hC.1 hP hD hS hA hz.1 hz.2 (by omega) (by rw [hmc]; exact hk1) (by rw [hms]; exact hn1) hd (fun q cA H1 hK1 hP1 hD1 hS1 => ?_)
  have e3 : cA = ia kA := nq_same (hK1.2 5 _ rfl).2 (hC.1.2 kA _ hty).2
  subst e3
  rw [eQ_new N] at hP1 hD1
  exact kk q H1 locs ls hP1 hD1 hS1 hv
theorem eQ_set (L : List (Option Nat)) (j v : Nat) (hj : j < L.length) : va_up (fun i => L.getD i none) j (some v) = fun i => (L.set j (some v)).getD i none := by
  funext i
  unfold va_up
  by_cases h : i = j
  · subst h
    simp [List.getD, hj]
  · simp [List.getD, h, List.getElem?_set_ne (Ne.symm h)]
theorem n_aast (X : CtN l D ia z0 t A K own cc nL f loc mc ms nm) {i : Int} {a N j kA ci v : Nat} {L L' : List (Option Nat)} {r : vw_C} {vs : List Value} {ws' : va_W} (hi : i = (j : Int)) (hj : j < N) (hN : N < 100000000) (q0 qk : Nat) (ha : ws[q0]? = some (a, eQ ia kA N L)) (hty : (tysI ia)[kA]? = some (ia kA, .object r.1)) (hvq : ws[qk]? = some (v, .inr (ci, vs))) (hcl : vwCl[ci]? = some r) (hLl : j < L.length) (hL' : L.set j (some v) = L') (hws : ws.set q0 (a, eQ ia kA N L') = ws') (hd : decode cc pc = .ok (.aastore, 1)) (kk : K ws' k0 n0 (pc + 1) lv st) : K ws k0 n0 pc lv (.ref v :: iv i :: .ref a :: st) := by
  obtain ⟨p, e, R, s, m, args, below, meth, c0, Q, rfl, hx, hb, hml, hown, hts, hf, hlo, hmc, hms, hnm, hA, hAz, hC⟩ := X
  intro H locs ls hP hD hS hv
  subst hi; subst hL'; subst hws
  refine va_astq hx hb hC.1 hP hD hS q0 kA qk ci ha hty hvq hcl (zI_in (by omega) (by omega) (by omega)) hd (fun H1 locs1 hP1 hD1 hS1 => ?_)
  have e : (zI (j : Int)).toNatClampNeg = j := (zI_lit (by omega)).2
  rw [e, eQ_set L j v hLl] at hP1 hD1
  exact kk H1 locs1 ls hP1 hD1 hS1 hv
theorem upv_upd (v : Nat → Int) (k : Nat) (z : Int) : upd (fun j => zI (v j)) k (zI z) = fun j => zI (upv v k z j) := by
  funext j
  by_cases h : j = k <;> simp [upd, upv, h]
theorem n_iast (X : CtN l D ia z0 t A K own cc nL f loc mc ms nm) {i z : Int} {a N j : Nat} {v : Nat → Int} {ws' : va_W} (hi : i = (j : Int)) (hj : j < N) (hN : N < 100000000) (q0 : Nat) (ha : ws[q0]? = some (a, eI ia N v)) (hws : ws.set q0 (a, eI ia N (upv v j z)) = ws') (hd : decode cc pc = .ok (.iastore, 1)) (kk : K ws' k0 n0 (pc + 1) lv st) : K ws k0 n0 pc lv (iv z :: iv i :: .ref a :: st) := by
  obtain ⟨p, e, R, s, m, args, below, meth, c0, Q, rfl, hx, hb, hml, hown, hts, hf, hlo, hmc, hms, hnm, hA, hAz, hC⟩ := X
  intro H locs ls hP hD hS hv
  subst hi; subst hws
  refine va_iast hx hb hC.1 hP hD hS q0 0 ha rfl (zI_in (by omega) (by omega) (by omega)) hd (fun H1 locs1 hP1 hD1 hS1 => ?_)
  have e : (zI (j : Int)).toNatClampNeg = j := (zI_lit (by omega)).2
  rw [e, upv_upd] at hP1 hD1
  exact kk H1 locs1 ls hP1 hD1 hS1 hv
theorem n_alenI (X : CtN l D ia z0 t A K own cc nL f loc mc ms nm) {a N : Nat} {v : Nat → Int} {z : Int} (q0 : Nat) (ha : ws[q0]? = some (a, eI ia N v)) (hz : (N : Int) = z) (hd : decode cc pc = .ok (.arraylength, 1)) (kk : K ws k0 n0 (pc + 1) lv (iv z :: st)) : K ws k0 n0 pc lv (.ref a :: st) := by
  obtain ⟨p, e, R, s, m, args, below, meth, c0, Q, rfl, hx, hb, hml, hown, hts, hf, hlo, hmc, hms, hnm, hA, hAz, hC⟩ := X
  intro H locs ls hP hD hS hv
  subst hz
  exact va_alen hx hb hC.1 hP q0 ha (t0 := 0) rfl (zI_nat _) hd (kk H locs ls hP hD hS hv)
theorem n_alenQ (X : CtN l D ia z0 t A K own cc nL f loc mc ms nm) {a N kA : Nat} {C : String} {L : List (Option Nat)} {z : Int} (q0 : Nat) (ha : ws[q0]? = some (a, eQ ia kA N L)) (hty : (tysI ia)[kA]? = some (ia kA, .object C)) (hz : (N : Int) = z) (hd : decode cc pc = .ok (.arraylength, 1)) (kk : K ws k0 n0 (pc + 1) lv (iv z :: st)) : K ws k0 n0 pc lv (.ref a :: st) := by
  obtain ⟨p, e, R, s, m, args, below, meth, c0, Q, rfl, hx, hb, hml, hown, hts, hf, hlo, hmc, hms, hnm, hA, hAz, hC⟩ := X
  intro H locs ls hP hD hS hv
  subst hz
  exact va_alen hx hb hC.1 hP q0 kA ha hty (zI_nat _) hd (kk H locs ls hP hD hS hv)
theorem n_gets (X : CtN l D ia z0 t A K own cc nL f loc mc ms nm) {index : Nat} {host : String} (hw : Cond.fieldLinkNest own index "PileSets" "FIRST_SETTINGS" "[I" host ∈ nestWs) (hd : decode cc pc = .ok (.getstatic index, 3)) (kk : K ws k0 n0 (pc + 3) lv (.ref t :: st)) : K ws k0 n0 pc lv st := by
  obtain ⟨p, e, R, s, m, args, below, meth, c0, Q, rfl, hx, hb, hml, hown, hts, hf, hlo, hmc, hms, hnm, hA, hAz, hC⟩ := X
  intro H locs ls hP hD hS hv
  exact va_getsN hx hb (hC.2.2.1.narrow hAz) hS hown (va_Nw.use rfl (hC.2.1 _ hw)) (fun _ h => h) hd (kk H locs ls hP hD hS hv)
theorem n_clone (X : CtN l D ia z0 t A K RX6 cc nL f loc mc ms nm) {k1 n1 : Nat} (hF : 1 ≤ f) (hL : (st.map fun v => v.category).sum + 14 ≤ loc) (hk : k0 + 1 = k1) (hn : n0 + 6 = n1) (hk1 : k1 ≤ mc) (hn1 : n1 ≤ ms) (hd : decode cc pc = .ok (.invokevirtual 22, 3)) (kk : ∀ q, K (ws ++ [(q, eI ia 6 (fun j => firstS.getD j 0))]) k1 n1 (pc + 3) lv (.ref q :: st)) : K ws k0 n0 pc lv (.ref t :: st) := by
  obtain ⟨p, e, R, s, m, args, below, meth, c0, Q, rfl, hx, hb, hml, hown, hts, hf, hlo, hmc, hms, hnm, hA, hAz, hC⟩ := X
  intro H locs ls hP hD hS hv
  subst hk; subst hn
  obtain ⟨hK, hN, hZ, ⟨cell, hcell, hob, hun, hcls, hsl⟩, htz, hca, ho1, ho2⟩ := hC
  have hH : H[t]? = some cell := by
    rw [hS.2.1 t (Array.getElem?_eq_some_iff.mp hcell).1 (fun h => absurd (hAz t h) (by omega))]
    exact hcell
  have hnmI : s.vm.findClass "[I" = some (ia 0) := va_nm_int (hK.2 0 _ rfl).2
  obtain ⟨c1, t1, f1, f2, f3⟩ := Cond.castable_spec (va_Nw.use (A := args) rfl hca)
  cases hnmI.symm.trans f1
  have hsz : cell.slots.size = 6 := by rw [hsl, arrV_size]
  have hcellE : ({ cls := cell.cls, slots := cell.slots } : Cell) = vp_cell (ia 0) (6, .inl (fun j => zI (firstS.getD j 0))) := by
    rw [hcls, hsl]
    rfl
  intro T hT X
  have hcellT : T.heap[t]? = some cell := by rw [hT]; exact hH
  obtain ⟨-, kA, hkA, comp, hkind⟩ := State.isArrayOf_alike X.warmed.alike ((hK.2 0 _ rfl).1 0 (fun _ => .null))
  obtain ⟨-, kS, hkS, compS, hkindS⟩ := (hK.2 0 _ rfl).1 0 (fun _ => .null)
  obtain ⟨vm', X', stp⟩ := X.cloneArray hx hown (hts _ wL_clone) (hts _ wE_same) (hts _ wV_clone) (hts _ wI_clone) (hts _ wS_clone) (a := t) (cell := cell) hcellT hob hun (by rw [hcls]; exact hnmI) f2 (by rw [hcls]; exact f3)
    (fun i v hv => by
      rw [hcls]
      have hk' : T.vm.classes[ia 0]? = some kA := hkA
      have hfit : fits .int v = true := va_fit (ty := .int) (F := fun j => iv (firstS.getD j 0)) (cA := ia 0) (n := 6) (fun i hi => rfl) i v (by rw [← hsl]; exact hv)
      simpa [State.fitsSlot, State.slotType?, hk', hkind] using hfit)
    (g := F0 m pc ls (.ref t :: st)) rfl (by rw [hml]; exact hv.1) rfl (by rw [hb]; exact hd) (by rw [hf]; exact hF) (by rw [hlo]; show 2 * 0 + _ + 14 ≤ _; omega) (by rw [hmc]; exact hk1) (by rw [hsz, hms]; exact hn1) (hloader := by rw [hcls]; exact Vm.clonesLoader_of_array hkS hkindS)
  rw [hcellE, hsz] at X'
  generalize hH1 : H.push (vp_cell (ia 0) (6, .inl (fun j => zI (firstS.getD j 0)))) = H1
  have z1 : H1.size = H.size + 1 := by rw [← hH1, Array.size_push]
  have e1 : H1[H.size]? = some (vp_cell (ia 0) (6, .inl (fun j => zI (firstS.getD j 0)))) := by rw [← hH1, Array.getElem?_push_size]
  have o1 : ∀ q : Nat, q < H.size → H1[q]? = H[q]? := fun q hq => by rw [← hH1, Array.getElem?_push, if_neg (Nat.ne_of_lt hq)]
  have hkp : ∀ (k : Nat) (y : Nat × va_E), ws[k]? = some y → H1[y.1]? = H[y.1]? := fun k y hy => o1 y.1 ((hP k y hy).lt)
  obtain ⟨t', b1, b2⟩ := kk H.size H1 locs ls ((hP.kept hkp).app (fun k y hy => by
      have hz : k < 1 := (List.getElem?_eq_some_iff.mp hy).1
      rw [show k = 0 by omega] at hy
      cases hy
      exact e1)) (hD.push hP rfl (hA _ hS.1)) ⟨Nat.le_trans hS.1 (by omega), fun y h1 h2 => (o1 y (Nat.lt_of_lt_of_le h1 hS.1)).trans (hS.2.1 y h1 h2), hS.2.2⟩ hv
    ((T.setVm vm').pushCell (vp_cell (ia 0) (6, .inl (fun j => zI (firstS.getD j 0))))) (by rw [← hH1, ← hT]; rfl) X'
  refine ⟨t', stp t' ?_, b2⟩
  rw [hcellE, hT]
  exact b1
theorem n_castI (X : CtN l D ia z0 t A K own cc nL f loc mc ms nm) {a N index : Nat} {v : Nat → Int} (q0 : Nat) (ha : ws[q0]? = some (a, eI ia N v)) (hw : Cond.classLink own index "[I" ∈ wsL_law) (hd : decode cc pc = .ok (.checkcast index, 3)) (kk : K ws k0 n0 (pc + 3) lv (.ref a :: st)) : K ws k0 n0 pc lv (.ref a :: st) := by
  obtain ⟨p, e, R, s, m, args, below, meth, c0, Q, rfl, hx, hb, hml, hown, hts, hf, hlo, hmc, hms, hnm, hA, hAz, hC⟩ := X
  intro H locs ls hP hD hS hv
  exact va_castA hx hb hown (hts _ hw) hP q0 ha (va_nm_int (hC.1.2 0 _ rfl).2) hd (kk H locs ls hP hD hS hv)
theorem n_new (X : CtN l D ia z0 t A K own cc nL f loc mc ms nm) {index ci N k1 n1 : Nat} {C : String} {T : u_T} {fs : List Value} (ty : Nat → FieldType) (hty : ∀ k, k < N → parseFieldDescriptor (T k).2.2.1 = some (ty k)) (hin : ∀ w ∈ u_ws C T N, w ∈ wsL_law) (hl : Cond.classLink own index C ∈ wsL_law) (hi : Cond.instantiable C N ∈ wsL_law) (hin2 : Cond.initialized C ∈ wsL_law) (hc : vwCl[ci]? = some (C, T, N)) (hfs : ∀ j, j < N → defaultValue (ty j) = vp_V fs j) (hk : k0 + 1 = k1) (hn : n0 + N = n1) (hk1 : k1 ≤ mc) (hn1 : n1 ≤ ms) (hd : decode cc pc = .ok (.new index, 3)) (kk : ∀ q, K (ws ++ [(q, .inr (ci, fs))]) k1 n1 (pc + 3) lv (.ref q :: st)) : K ws k0 n0 pc lv st := by
  obtain ⟨p, e, R, s, m, args, below, meth, c0, Q, rfl, hx, hb, hml, hown, hts, hf, hlo, hmc, hms, hnm, hA, hAz, hC⟩ := X
  intro H locs ls hP hD hS hv
  subst hk; subst hn
  exact va_new hx hb hts hin ty hty hown (hts _ hl) (hts _ hi) (hts _ hin2) hC.1 hP hD hS hA hc hfs (by rw [hmc]; exact hk1) (by rw [hms]; exact hn1) hd (fun q H1 hP1 hD1 hS1 => kk q H1 locs ls hP1 hD1 hS1 hv)
theorem nB_at {s U : State} {H : Heap} {locs : List Loc} {F wc : va_W} (hAz : ∀ q, A q → z0 ≤ q) (hA : ∀ q, s.heap.size ≤ q → A q) (hC : CN D ia z0 t s s.heap) (hP : va_P D vwCl (F ++ wc) H) (hD : va_D A (F ++ wc)) (hS : va_S A s.heap H locs) (hU : U.heap = H) (hW : s.WarmedH U.vm) : nB D ia z0 t wc H.size U := by
  refine ⟨by rw [hU], hAz _ (hA _ hS.1), by rw [hU]; exact hP.right, hD.right.self, fun k q hk => hAz _ (hD.right.2 k q hk), by rw [hU]; exact hC.to hW hS hAz⟩
theorem nA_at {s : State} {H : Heap} {locs : List Loc} {F wc : va_W} (hA : ∀ q, s.heap.size ≤ q → A q) (hD : va_D A (F ++ wc)) (hS : va_S A s.heap H locs) : ∀ q, va_A wc H.size q → A q := by
  intro q h
  rcases h with ⟨k, e, h⟩ | h
  · exact hD.right.2 k (q, e) h
  · exact hA q (Nat.le_trans hS.1 h)
theorem n_callN (X : CtN l D ia z0 t A K own cc nL f loc mc ms nm) {F wc : va_W} {y : MethodName} {bytes : ByteArray} {maxL f' loc' mc' ms' b index k1 n1 : Nat} {host : String} {Post : va_W → Prop} (hM : ∀ sz, MetN l D ia z0 t y bytes maxL f' loc' mc' ms' [.ref b] wc sz Post) (hw1 : Cond.methodLinkNest own index y host ∈ nestWs) (hw2 : Cond.instanceMethod y ∈ wsL_law) (hw4 : Cond.initialized y.cls ∈ wsL_law) (hw5 : Cond.code y bytes maxL none ∈ wsL_law) (hy1 : y.name = "<init>") (hd0 : y.cls ≠ "java/lang/invoke/MethodHandle" ∧ y.cls ≠ "java/lang/invoke/VarHandle" ∧ (parseMethodDescriptor y.desc).map (fun d => d.parameters.length) = some 0) (hR : f' + 1 ≤ f ∧ 8 + (maxL + 11) + loc' ≤ loc) (hroom : (st.map fun v => v.category).sum ≤ 8) (hk : k0 + mc' = k1) (hn : n0 + ms' = n1) (hk1 : k1 ≤ mc) (hn1 : n1 ≤ ms) (hd : decode cc pc = .ok (.invokespecial index, 3)) (kk : ∀ w1, Post w1 → K (F ++ w1) k1 n1 (pc + 3) lv st) : K (F ++ wc) k0 n0 pc lv (.ref b :: st) := by
  obtain ⟨p, e, R, s, m, args, below, meth, c0, Q, rfl, hx, hb, hml, hown, hts, hf, hlo, hmc, hms, hnm, hA, hAz, hC⟩ := X
  intro H locs ls hP hD hS hv
  subst hk; subst hn
  have hFc := nA_at (F := F) (wc := wc) hA hD hS
  refine va_callv (va_runIN (As := []) (rest := st) ⟨hx, hb, hml, hown, hts⟩ (hM H.size) ⟨va_cnB 0 hts (law_goodIn (codeIn hw5)) rfl rfl rfl (hC.2.1 _ hw1) (hts _ hw4) hd0 ⟨by rw [hf]; exact hR.1, by rw [hlo]; exact hR.2⟩, hy1, hts _ hw2⟩ ⟨nB_blind, fun U hU hW => ⟨rfl, nB_at hAz hA hC hP hD hS hU hW⟩⟩ rfl rfl hv.1 rfl (lv_room hroom) hd ⟨by rw [hmc]; exact hk1, by rw [hms]; exact hn1⟩) hS (fun q _ h => hFc q h) hFc (fun w1 T H1 locs1 ht hvm hp hB hz hkp hS1 => ?_)
  obtain ⟨hP1, hD1⟩ := hB
  rw [ht] at hP1
  obtain ⟨hP2, hD2⟩ := va_joinA hP hD hkp hFc hP1 hD1
  exact kk w1 hp H1 locs1 ls hP2 hD2 hS1 hv
theorem n_callI (X : CtN l D ia z0 t A K own cc nL f loc mc ms nm) {F wc : va_W} {y : MethodName} {bytes : ByteArray} {maxL f' loc' mc' ms' b index k1 n1 : Nat} {Post : va_W → Prop} (hM : ∀ sz, MetN l D ia z0 t y bytes maxL f' loc' mc' ms' [.ref b] wc sz Post) (hw1 : Cond.methodLink own index y ∈ wsL_law) (hw2 : Cond.instanceMethod y ∈ wsL_law) (hw4 : Cond.initialized y.cls ∈ wsL_law) (hw5 : Cond.code y bytes maxL none ∈ wsL_law) (hy1 : y.name = "<init>") (hd0 : y.cls ≠ "java/lang/invoke/MethodHandle" ∧ y.cls ≠ "java/lang/invoke/VarHandle" ∧ (parseMethodDescriptor y.desc).map (fun d => d.parameters.length) = some 0) (hR : f' + 1 ≤ f ∧ 8 + (maxL + 11) + loc' ≤ loc) (hroom : (st.map fun v => v.category).sum ≤ 8) (hk : k0 + mc' = k1) (hn : n0 + ms' = n1) (hk1 : k1 ≤ mc) (hn1 : n1 ≤ ms) (hd : decode cc pc = .ok (.invokespecial index, 3)) (kk : ∀ w1, Post w1 → K (F ++ w1) k1 n1 (pc + 3) lv st) : K (F ++ wc) k0 n0 pc lv (.ref b :: st) := by
  obtain ⟨p, e, R, s, m, args, below, meth, c0, Q, rfl, hx, hb, hml, hown, hts, hf, hlo, hmc, hms, hnm, hA, hAz, hC⟩ := X
  intro H locs ls hP hD hS hv
  subst hk; subst hn
  have hFc := nA_at (F := F) (wc := wc) hA hD hS
  refine va_callv (va_runI (As := []) (rest := st) ⟨hx, hb, hml, hown, hts⟩ (hM H.size) (cwI 0 hts (law_goodIn (codeIn hw5)) rfl rfl rfl (hts _ hw4) (hts _ hw1) (hts _ hw2) hy1 hd0 ⟨by rw [hf]; exact hR.1, by rw [hlo]; exact hR.2⟩) ⟨nB_blind, fun U hU hW => ⟨rfl, nB_at hAz hA hC hP hD hS hU hW⟩⟩ rfl rfl hv.1 rfl (lv_room hroom) hd ⟨by rw [hmc]; exact hk1, by rw [hms]; exact hn1⟩) hS (fun q _ h => hFc q h) hFc (fun w1 T H1 locs1 ht hvm hp hB hz hkp hS1 => ?_)
  obtain ⟨hP1, hD1⟩ := hB
  rw [ht] at hP1
  obtain ⟨hP2, hD2⟩ := va_joinA hP hD hkp hFc hP1 hD1
  exact kk w1 hp H1 locs1 ls hP2 hD2 hS1 hv
theorem n_callV (X : CtN l D ia z0 t A K own cc nL f loc mc ms nm) {F wc : va_W} {y : MethodName} {bytes : ByteArray} {maxL f' loc' mc' ms' b index k1 n1 ci N nA : Nat} {C : String} {T : u_T} {fs as stk : List Value} {Post : va_W → Prop} (hM : ∀ sz, MetN l D ia z0 t y bytes maxL f' loc' mc' ms' (.ref b :: as) wc sz Post) (q0 : Nat) (he : (F ++ wc)[q0]? = some (b, .inr (ci, fs))) (hcl : vwCl[ci]? = some (C, T, N)) (hy : y.cls = C) (hw1 : Cond.methodLink own index y ∈ wsL_law) (hw2 : Cond.instanceMethod y ∈ wsL_law) (hw3 : Cond.selects C y y ∈ wsL_law) (hw4 : Cond.initialized C ∈ wsL_law) (hw5 : Cond.code y bytes maxL none ∈ wsL_law) (hd0 : y.cls ≠ "java/lang/invoke/MethodHandle" ∧ y.cls ≠ "java/lang/invoke/VarHandle" ∧ (parseMethodDescriptor y.desc).map (fun d => d.parameters.length) = some nA) (hR : f' + 1 ≤ f ∧ 8 + (maxL + 11) + loc' ≤ loc) (hnA : as.length = nA) (hroom : (st.map fun v => v.category).sum ≤ 8) (hk : k0 + mc' = k1) (hn : n0 + ms' = n1) (hk1 : k1 ≤ mc) (hn1 : n1 ≤ ms) (hd : decode cc pc = .ok (.invokevirtual index, 3)) (hstk : stk = as.reverse ++ .ref b :: st) (kk : ∀ w1, Post w1 → K (F ++ w1) k1 n1 (pc + 3) lv st) : K (F ++ wc) k0 n0 pc lv stk := by
  obtain ⟨p, e, R, s, m, args, below, meth, c0, Q, rfl, hx, hb, hml, hown, hts, hf, hlo, hmc, hms, hnm, hA, hAz, hC⟩ := X
  intro H locs ls hP hD hS hv
  subst hk; subst hn; subst hstk
  have hFc := nA_at (F := F) (wc := wc) hA hD hS
  have hG : GoodIn wsL_law (wsV own index C y (.code y bytes maxL none :: wsL_law)) := law_goodIn (fun w hw => by
    rcases List.mem_append.mp (by unfold wsV at hw; exact hw) with h | h
    · simp only [List.mem_cons, List.mem_singleton, List.not_mem_nil, or_false] at h
      rcases h with rfl | rfl | rfl | rfl
      · exact hw1
      · exact hw2
      · exact hw3
      · exact hw4
    · exact codeIn hw5 w h)
  refine va_callv (va_runV (As := as) (rest := st) ⟨hx, hb, hml, hown, hts⟩ (hM H.size) (cwV nA hts hG rfl rfl rfl ⟨hy, hd0⟩ ⟨by rw [hf]; exact hR.1, by rw [hlo]; exact hR.2⟩) ⟨nB_blind, va_recv hC.1 hP hcl he, fun U hU hW => ⟨rfl, nB_at hAz hA hC hP hD hS hU hW⟩⟩ rfl hnA hv.1 rfl (lv_room hroom) hd ⟨by rw [hmc]; exact hk1, by rw [hms]; exact hn1⟩) hS (fun q _ h => hFc q h) hFc (fun w1 T H1 locs1 ht hvm hp hB hz hkp hS1 => ?_)
  obtain ⟨hP1, hD1⟩ := hB
  rw [ht] at hP1
  obtain ⟨hP2, hD2⟩ := va_joinA hP hD hkp hFc hP1 hD1
  exact kk w1 hp H1 locs1 ls hP2 hD2 hS1 hv
theorem n_mkN (X : CtN l D ia z0 t A K own cc nL f loc mc ms nm) {y : MethodName} {bytes : ByteArray} {maxL f' loc' mc' ms' index idx ci N k1 n1 : Nat} {host C : String} {T : u_T} {fs : List Value} {Post : Nat → va_W → Prop} (hM : ∀ q sz, MetN l D ia z0 t y bytes maxL f' loc' mc' ms' [.ref q] [(q, .inr (ci, fs))] sz (Post q)) (ty : Nat → FieldType) (hty : ∀ k, k < N → parseFieldDescriptor (T k).2.2.1 = some (ty k)) (hin : ∀ w ∈ u_ws C T N, w ∈ wsL_law) (hl : Cond.classLink own idx C ∈ wsL_law) (hi : Cond.instantiable C N ∈ wsL_law) (hc : vwCl[ci]? = some (C, T, N)) (hfs : ∀ j, j < N → defaultValue (ty j) = vp_V fs j) (hy0 : y.cls = C) (hw1 : Cond.methodLinkNest own index y host ∈ nestWs) (hw2 : Cond.instanceMethod y ∈ wsL_law) (hw4 : Cond.initialized C ∈ wsL_law) (hw5 : Cond.code y bytes maxL none ∈ wsL_law) (hy1 : y.name = "<init>") (hd0 : y.cls ≠ "java/lang/invoke/MethodHandle" ∧ y.cls ≠ "java/lang/invoke/VarHandle" ∧ (parseMethodDescriptor y.desc).map (fun d => d.parameters.length) = some 0) (hR : f' + 1 ≤ f ∧ 8 + (maxL + 11) + loc' ≤ loc) (hroom : (st.map fun v => v.category).sum ≤ 7) (hk : k0 + 1 + mc' = k1) (hn : n0 + N + ms' = n1) (hk1 : k1 ≤ mc) (hn1 : n1 ≤ ms) (hd1 : decode cc pc = .ok (.new idx, 3)) (hd2 : decode cc (pc + 3) = .ok (.dup, 1)) (hd3 : decode cc (pc + 4) = .ok (.invokespecial index, 3)) (kk : ∀ q w1, Post q w1 → K (ws ++ w1) k1 n1 (pc + 7) lv (.ref q :: st)) : K ws k0 n0 pc lv st := by
  subst hy0
  refine n_new X (fs := fs) ty hty hin hl hi hw4 hc hfs rfl rfl (by omega) (by omega) hd1 (fun q => ?_)
  refine n_dup X hd2 rfl ?_
  exact n_callN X (F := ws) (hM q) hw1 hw2 hw4 hw5 hy1 hd0 hR (by show 1 + (st.map fun v => v.category).sum ≤ 8; omega) hk hn hk1 hn1 hd3 (fun w1 hp => kk q w1 hp)
theorem n_mkI (X : CtN l D ia z0 t A K own cc nL f loc mc ms nm) {y : MethodName} {bytes : ByteArray} {maxL f' loc' mc' ms' index idx ci N k1 n1 : Nat} {C : String} {T : u_T} {fs : List Value} {Post : Nat → va_W → Prop} (hM : ∀ q sz, MetN l D ia z0 t y bytes maxL f' loc' mc' ms' [.ref q] [(q, .inr (ci, fs))] sz (Post q)) (ty : Nat → FieldType) (hty : ∀ k, k < N → parseFieldDescriptor (T k).2.2.1 = some (ty k)) (hin : ∀ w ∈ u_ws C T N, w ∈ wsL_law) (hl : Cond.classLink own idx C ∈ wsL_law) (hi : Cond.instantiable C N ∈ wsL_law) (hc : vwCl[ci]? = some (C, T, N)) (hfs : ∀ j, j < N → defaultValue (ty j) = vp_V fs j) (hy0 : y.cls = C) (hw1 : Cond.methodLink own index y ∈ wsL_law) (hw2 : Cond.instanceMethod y ∈ wsL_law) (hw4 : Cond.initialized C ∈ wsL_law) (hw5 : Cond.code y bytes maxL none ∈ wsL_law) (hy1 : y.name = "<init>") (hd0 : y.cls ≠ "java/lang/invoke/MethodHandle" ∧ y.cls ≠ "java/lang/invoke/VarHandle" ∧ (parseMethodDescriptor y.desc).map (fun d => d.parameters.length) = some 0) (hR : f' + 1 ≤ f ∧ 8 + (maxL + 11) + loc' ≤ loc) (hroom : (st.map fun v => v.category).sum ≤ 7) (hk : k0 + 1 + mc' = k1) (hn : n0 + N + ms' = n1) (hk1 : k1 ≤ mc) (hn1 : n1 ≤ ms) (hd1 : decode cc pc = .ok (.new idx, 3)) (hd2 : decode cc (pc + 3) = .ok (.dup, 1)) (hd3 : decode cc (pc + 4) = .ok (.invokespecial index, 3)) (kk : ∀ q w1, Post q w1 → K (ws ++ w1) k1 n1 (pc + 7) lv (.ref q :: st)) : K ws k0 n0 pc lv st := by
  subst hy0
  refine n_new X (fs := fs) ty hty hin hl hi hw4 hc hfs rfl rfl (by omega) (by omega) hd1 (fun q => ?_)
  refine n_dup X hd2 rfl ?_
  exact n_callI X (F := ws) (hM q) hw1 hw2 hw4 hw5 hy1 hd0 hR (by show 1 + (st.map fun v => v.category).sum ≤ 8; omega) hk hn hk1 hn1 hd3 (fun w1 hp => kk q w1 hp)
end NROWS
