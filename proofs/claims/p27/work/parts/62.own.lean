/-! ===== methods of the law that make an object of their own ===== -/
def BF (D : va_G) (ia : Nat → ClassId) (z0 t0 t1 t2 : Nat) (U : State) (H : Heap) : Prop := CN D ia z0 t2 U H ∧ (va_Z "PileSets" "LEAST_SETTINGS" "[I" (.ref t0) (fun q => z0 ≤ q) U H ∧ va_T .int t0 6 (fun j => iv (leastS.getD j 0)) (fun q => z0 ≤ q) U H) ∧ (va_Z "PileSets" "MOST_SETTINGS" "[I" (.ref t1) (fun q => z0 ≤ q) U H ∧ va_T .int t1 6 (fun j => iv (mostS.getD j 0)) (fun q => z0 ≤ q) U H) ∧ va_T .int t2 6 (fun j => iv (firstS.getD j 0)) (fun q => z0 ≤ q) U H
theorem BF.to {D : va_G} {ia : Nat → ClassId} {z0 t0 t1 t2 : Nat} {A : Nat → Prop} {s U : State} {H : Heap} {locs : List Loc} (h : BF D ia z0 t0 t1 t2 s s.heap) (hW : s.WarmedH U.vm) (hS : va_S A s.heap H locs) (hA : ∀ q, A q → z0 ≤ q) : BF D ia z0 t0 t1 t2 U H := by
  obtain ⟨h1, ⟨a1, a2⟩, ⟨b1, b2⟩, c⟩ := h
  have hk : ∀ a : Nat, a < s.heap.size → ¬ z0 ≤ a → H[a]? = s.heap[a]? := fun a ha hz => hS.2.1 a ha (fun q => hz (hA a q))
  exact ⟨h1.to hW hS hA, ⟨(a1.moved hW.alike).kept hk, (a2.moved hW.alike).kept hk⟩, ⟨(b1.moved hW.alike).kept hk, (b2.moved hW.alike).kept hk⟩, (c.moved hW.alike).kept hk⟩
theorem BF.vm {D : va_G} {ia : Nat → ClassId} {z0 t0 t1 t2 : Nat} {u U : State} {H : Heap} (h : BF D ia z0 t0 t1 t2 u H) (hv : u.vm = U.vm) : BF D ia z0 t0 t1 t2 U H := by
  obtain ⟨h1, ⟨a1, a2⟩, ⟨b1, b2⟩, c⟩ := h
  have ha : u.vm.Alike U.vm := hv ▸ Vm.Alike.refl _
  exact ⟨h1.vm hv, ⟨a1.moved ha, a2.moved ha⟩, ⟨b1.moved ha, b2.moved ha⟩, c.moved ha⟩
theorem CK.mk {D : va_G} {ia : Nat → ClassId} {z0 t0 t1 t2 : Nat} {U : State} {H : Heap} {E : wEnv} (h : BF D ia z0 t0 t1 t2 U H) (hD : E.1 = D) (hI : E.2.2.1 = ia) (h0 : E.2.2.2 0 = t0) (h1 : E.2.2.2 1 = t1) (h2 : E.2.2.2 2 = t2) (had : adI E) (hA : ∀ q, LA E q → z0 ≤ q) : CK E U H := by
  subst hD; subst hI; subst h0; subst h1; subst h2
  obtain ⟨⟨k1, k2, k3, -⟩, ⟨a1, a2⟩, ⟨b1, b2⟩, c⟩ := h
  exact ⟨had, k1, k2, ⟨a1.narrow hA, a2.narrow hA⟩, ⟨b1.narrow hA, b2.narrow hA⟩, ⟨k3.narrow hA, c.narrow hA⟩⟩
/-- the walk over a list of cells goes on as one over the memory of a new object -/
theorem obj_start {p : Program} {l : Launch} {e : Env} {R : Room} {s : State} {m : MethodId} {args : Array Value} {below : List Frame} {meth : Method} {c : Code} {Q : State → Prop} {D : va_G} {ia : Nat → ClassId} {z0 t0 t1 t2 : Nat} {A : Nat → Prop} {cc : ByteArray} {nL f loc : Nat} {q1 : Nat} {w1 : va_W} {pc : Nat} {lv : List (Option Value)} {st : List Value} {k n : Nat} (sa : Nat → Nat) (h9 : sa 9 = 0) (hs0 : sa 0 = t0) (hs1 : sa 1 = t1) (hs2 : sa 2 = t2) (hx : p.tables.exec = Jvm.exec) (hb : c.code = cc) (hml : c.maxLocals = nL) (hown : s.vm.findClass RL = some m.cls) (hts : ∀ w ∈ wsL_law, w.before args s = true) (hf : R.frames = f) (hlo : R.locals = loc) (hk : k ≤ R.cells) (hn : n ≤ R.slots) (hB : BF D ia z0 t0 t1 t2 s s.heap) (hz : z0 ≤ s.heap.size) (hA : ∀ q, A q → s.heap.size ≤ q) (hp : pX7 ia q1 w1)
    (kk : ∀ E : wEnv, E.1 = D → E.2.2 = (ia, sa) → E.2.1 0 = q1 → (∀ q, LA E q → s.heap.size ≤ q) → CK E s s.heap → Ctx l E (Kj p l e R s m args below meth c k n Q E nL) RL cc nL f loc → Kj p l e R s m args below meth c k n Q E nL σ0 pc lv st) : Kn p l e R s m args below meth c Q D A nL w1 k n pc lv st := by
  obtain ⟨a, b0, b1, b2, b3, qh, qm, qt, qc, qr, qa, qo, o1, o2, o3, o4, rfl⟩ := hp
  intro H locs ls hP hD hS hv
  obtain ⟨B, hBe⟩ : ∃ B : Nat → Nat, B = fun c => [q1, qh, qm, qt, qc, qr, qa, qo, o1, o2, o3, o4].getD c 0 := ⟨_, rfl⟩
  have hP' : va_P D vwCl (W7 ia B a b0 b1 b2 b3) H := by
    rw [hBe]
    exact hP
  have hD' : va_D A (W7 ia B a b0 b1 b2 b3) := by
    rw [hBe]
    exact hD
  have hB0 : B 0 = q1 := by rw [hBe]; rfl
  clear hBe hP hD
  subst hB0
  have far : ∀ c, okc (D, adE B a b0 b1 b2 b3, ia, sa) c → c < 205 ∧ (c < 12 ∨ 25 ≤ c) := by
    rintro c ⟨g1, g2, g3⟩
    refine ⟨g1, ?_⟩
    rcases kd_far c g1 g2 with h | rfl | h
    · exact Or.inl h
    · have h1 : sa 9 = 1 := g3 (by decide)
      omega
    · exact Or.inr h
  have hLA : ∀ q, LA (D, adE B a b0 b1 b2 b3, ia, sa) q → s.heap.size ≤ q := by
    rintro q ⟨c, hc, rfl⟩
    obtain ⟨g1, g2⟩ := far c hc
    exact hA _ (ad_in hD' g1 g2)
  have had : adI (D, adE B a b0 b1 b2 b3, ia, sa) := fun i j hi hj h => ad_inj hD' i j (far i hi).1 (far j hj).1 (far i hi).2 (far j hj).2 h
  have hCK : CK (D, adE B a b0 b1 b2 b3, ia, sa) s s.heap := CK.mk hB rfl rfl hs0 hs1 hs2 had (fun q h => Nat.le_trans hz (hLA q h))
  refine va_forget (fun q hq => hA _ (hS.2.2 q hq)) ?_
  refine kk (D, adE B a b0 b1 b2 b3, ia, sa) rfl rfl rfl hLA hCK ⟨p, e, R, s, m, args, below, meth, c, k, n, Q, rfl, hx, hb, hml, hown, hts, hf, hlo, hk, hn, hCK⟩ H [] ls (start_P h9 hP') ⟨hS.1, fun q h1 h2 => hS.2.1 q h1 (fun h3 => ?_), fun q h => by cases h⟩ hv
  have := hA q h3
  omega
def MetT (l : Launch) (D : va_G) (ia : Nat → ClassId) (z0 t0 t1 t2 : Nat) (y : MethodName) (cc : ByteArray) (nL f loc mc ms sz : Nat) : Prop :=
  Met l y (.code y cc nL (some .boolean) :: wsL_law) { frames := f, cells := mc, slots := ms, locals := loc } (va_Pc [] (fun U => U.heap.size = sz ∧ z0 ≤ sz ∧ BF D ia z0 t0 t1 t2 U U.heap)) (fun _ st oc t => oc = .returned (some (iv 1)) ∧ va_F (fun q => sz ≤ q) st t) mc ms (fun q => sz ≤ q)
theorem T_blind {D : va_G} {ia : Nat → ClassId} {z0 t0 t1 t2 sz : Nat} : FrameBlind (va_Pc [] (fun U => U.heap.size = sz ∧ z0 ≤ sz ∧ BF D ia z0 t0 t1 t2 U U.heap)) := fun a U g mk q => ⟨q.1, q.2.1, q.2.2.1, q.2.2.2.vm (U := U.calling g mk a) rfl⟩
/-- what follows of the walk behind the making of the object -/
theorem MetT.of {l : Launch} {D : va_G} {ia : Nat → ClassId} {z0 t0 t1 t2 sz : Nat} {y : MethodName} {cc : ByteArray} {nL f loc : Nat} {nm : String} {pcE : Nat} (hy : plainName y.cls = true) (ho : y.cls = RL) (hnm : y.name = nm) (hnL : 1 ≤ nL) (hR : 6 ≤ f ∧ 126 ≤ loc) (hd0 : decode cc 0 = .ok (.new 14, 3)) (hd1 : decode cc 3 = .ok (.dup, 1)) (hd2 : decode cc 4 = .ok (.invokespecial 107, 3)) (hd3 : decode cc 7 = .ok (.astore_n 0, 1)) (hdE : decode cc pcE = .ok (.ireturn, 1)) (lv1 : List (Option Value)) (hlv : none :: lv1 = List.replicate nL none)
    (body : ∀ (E : wEnv) (K : Mem → Nat → List (Option Value) → List Value → Prop), Ctx l E K RL cc nL f loc → (∀ σ lv, K σ pcE lv [iv 1]) → K σ0 8 (some (rv E 0) :: lv1) []) : MetT l D ia z0 t0 t1 t2 y cc nL f loc 192 5002 sz := by
  refine Met.ofW (cc := cc) (maxL := nL) (ret := some .boolean) hy rfl ?_
  intro p e s m args below meth c s₁ B hml hv
  obtain ⟨rfl, hsz, hz0, hBF⟩ := hv
  have hts : ∀ w ∈ wsL_law, w.before ([] : List Value).toArray s = true := fun w hw => atoms_spec (ws := .code y cc nL (some .boolean) :: wsL_law) B.pre w (List.mem_cons_of_mem _ hw)
  have hown : s.vm.findClass RL = some m.cls := ho ▸ findClass_of_methodNamed B.named
  have hname : meth.name = nm := hnm ▸ (name_of_methodNamed B.named B.method).1
  have hx := B.exec
  have hb := B.bytes
  have hr := B.returns
  have hlocks := B.notSynchronized
  have hL := lvA_H (as := []) (nL := nL) (n := nL) (lv0 := List.replicate nL none) (Nat.zero_le _) rfl
  rw [lg_entry_eq]
  subst hsz
  have hA : ∀ q, va_A [] s.heap.size q → s.heap.size ≤ q := fun q h => by
    rcases h with ⟨k, e, h⟩ | h
    · simp at h
    · exact h
  have X : ∀ Q : State → Prop, CtN l D ia z0 t2 (va_A [] s.heap.size) (Kn p l e { frames := f, cells := 192, slots := 5002, locals := loc } s m ([] : List Value).toArray below meth c Q D (va_A [] s.heap.size) nL) RL cc nL f loc 192 5002 nm := fun Q => ⟨p, e, _, s, m, _, below, meth, c, Q, rfl, hx, hb, hml, hown, hts, rfl, rfl, rfl, rfl, hname, fun q h => Or.inr h, fun q h => Nat.le_trans hz0 (hA q h), hBF.1⟩
  refine n_mkI (X _) (ws := []) (st := []) (lv := List.replicate nL none) (ci := 7) (fs := fsX7) (k1 := 192) (n1 := 5002) (fun q sz => k_X7_init l D ia z0 t2 q sz) tyX7 tyX7_ok inlX7 wL_RL_14 wM_X7 rfl dfX7 rfl wL_RL_107 wI_X7_init wN_X7 wC_X7_init rfl ⟨by decide +kernel, by decide +kernel, by decide +kernel⟩ ⟨by omega, by omega⟩ (by exact Nat.le_of_ble_eq_true rfl) rfl rfl (Nat.le_of_ble_eq_true rfl) (Nat.le_of_ble_eq_true rfl) hd0 hd1 hd2 (fun q1 w1 hp1 => ?_) s.heap [] _ (fun k q h => by simp at h) ⟨fun i j p q h => by simp at h, fun k q h => by simp at h⟩ va_S.rf hL
  refine n_astore_n (X _) (lw := some (.ref q1) :: lv1) hd3 (by show 0 < nL; omega) rfl (by rw [← hlv]; rfl) ?_
  refine obj_start (fun k => if k = 0 then t0 else if k = 1 then t1 else if k = 2 then t2 else 0) rfl rfl rfl rfl hx hb hml hown hts rfl rfl (Nat.le_refl _) (Nat.le_refl _) hBF hz0 hA hp1 (fun E hE1 hE2 hE3 hLA _ XX => ?_)
  have k := body E _ XX (fun σ lv H locs ls hP hS hl => by
    refine W.zret hx hb hr (ty := .boolean) (by decide) (fun t ht hW => ⟨rfl, ?_⟩) (fun q hq => hLA _ (hS.2.2 q hq)) hdE hlocks
    have h := hS.F ht
    exact ⟨h.1, fun q h1 h2 => h.2 q h1 (fun h3 => h2 (hLA q h3))⟩)
  rw [rv, hE3] at k
  exact k
theorem own_texts (l : Launch) (D : va_G) (ia : Nat → ClassId) (z0 t0 t1 t2 sz : Nat) : MetT l D ia z0 t0 t1 t2 yL_texts cL_texts 2 7 180 192 5002 sz :=
  MetT.of (pcE := 556) (by decide) rfl rfl (by decide) ⟨by decide, by decide⟩ dL_texts_0 dL_texts_3 dL_texts_4 dL_texts_7 dL_texts_556 [none] rfl (fun E K X R => tx_all X s0_C R)
theorem own_known (l : Launch) (D : va_G) (ia : Nat → ClassId) (z0 t0 t1 t2 sz : Nat) : MetT l D ia z0 t0 t1 t2 yL_known cL_known 1 7 180 192 5002 sz :=
  MetT.of (pcE := 1036) (by decide) rfl rfl (by decide) ⟨by decide, by decide⟩ dL_known_0 dL_known_3 dL_known_4 dL_known_7 dL_known_1036 [] rfl (fun E K X R => kn_all X s0_C s0_K R)
/-- a call of such a method -/
theorem call_T {p : Program} {l : Launch} {e : Env} {R : Room} {s : State} {m : MethodId} {args : Array Value} {below : List Frame} {meth : Method} {c : Code} {H : Heap} {locs : List Loc} {cells slots mc ms : Nat} {Q : State → Prop} {pc : Nat} {ls : Array Slot} {rest st0 : List Value} {E : wEnv}
    (hr : va_Run p l e R s m args below meth c H locs cells slots mc ms (F0 m pc ls st0) rest (fun st oc t => oc = .returned (some (iv 1)) ∧ va_F (fun q => H.size ≤ q) st t) (fun q => H.size ≤ q)) (hS : va_S (LA E) s.heap H locs) (hLA : ∀ q, LA E q → s.heap.size ≤ q)
    (kk : ∀ (H1 : Heap), H.size ≤ H1.size → (∀ q : Nat, q < H.size → H1[q]? = H[q]?) → va_S (LA E) s.heap H1 [] → W p l e R s m args below meth c H1 [] (cells + mc) (slots + ms) Q (F0 m (pc + 3) ls (iv 1 :: rest))) : W p l e R s m args below meth c H locs cells slots Q (F0 m pc ls st0) := by
  intro T hT X
  obtain ⟨v, st₀, t, T', L, h0, X', hL, e1, e2, ⟨hv, hz, hk⟩, st⟩ := hr T hT X
  have hv1 : v = some (iv 1) := by cases hv; rfl
  subst hv1
  rw [h0] at hz hk
  have hk2 : ∀ q : Nat, q < H.size → T'.heap[q]? = H[q]? := fun q h1 => by rw [e1]; exact hk q h1 (Nat.not_le.mpr h1)
  have k := kk T'.heap (by rw [e1]; exact hz) hk2 ⟨Nat.le_trans hS.1 (by rw [e1]; exact hz), fun q h1 h2 => by rw [hk2 q (Nat.lt_of_lt_of_le h1 hS.1)]; exact hS.2.1 q h1 h2, fun q h => by cases h⟩
  have k2 := va_forget (locs := locs ++ L) (fun q hq => by
    rcases List.mem_append.mp hq with h | h
    · exact hLA _ (hS.2.2 q h)
    · exact Nat.le_trans hS.1 (hL q h)) k
  obtain ⟨t2, a1, b1⟩ := k2 T' rfl X'
  exact ⟨t2, st t2 a1, b1⟩
