/-! ===== the law's first steps; what the premises say of the statics ===== -/
theorem law_make {l : Launch} {D : va_G} {ia : Nat → ClassId} {z0 t b : Nat} {A : Nat → Prop} {K : va_W → Nat → Nat → Nat → List (Option Value) → List Value → Prop} {nm : String} (X : CtN l D ia z0 t A K RL cL_law 4 9 344 600000 7302250 nm) (kk : ∀ q1 w1 q2 w2, pX7 ia q1 w1 → pX8 ia q2 w2 → K (w1 ++ w2) 205 9944 16 [some (.ref b), some (.ref q1), some (.ref q2), none] []) : K [] 0 0 0 [some (.ref b), none, none, none] [] := by
  refine n_mkI X (ws := []) (st := []) (ci := 7) (fs := fsX7) (k1 := 192) (n1 := 5002) (fun q sz => k_X7_init l D ia z0 t q sz) tyX7 tyX7_ok inlX7 wL_RL_7 wM_X7 rfl dfX7 rfl wL_RL_9 wI_X7_init wN_X7 wC_X7_init rfl ⟨by decide +kernel, by decide +kernel, by decide +kernel⟩ ⟨Nat.le_of_ble_eq_true rfl, Nat.le_of_ble_eq_true rfl⟩ (by exact Nat.le_of_ble_eq_true rfl) rfl rfl (Nat.le_of_ble_eq_true rfl) (Nat.le_of_ble_eq_true rfl) dL_law_0 dL_law_3 dL_law_4 (fun q1 w1 hp1 => ?_)
  show K w1 192 5002 7 _ _
  refine n_astore_n X (lw := [some (.ref b), some (.ref q1), none, none]) dL_law_7 (by decide) rfl rfl ?_
  refine n_mkI X (ws := w1) (st := []) (ci := 8) (fs := fsX8) (k1 := 205) (n1 := 9944) (fun q sz => k_X8_init l D ia z0 t q sz) tyX8 tyX8_ok inlX8 wL_RL_10 wM_X8 rfl dfX8 rfl wL_RL_12 wI_X8_init wN_X8 wC_X8_init rfl ⟨by decide +kernel, by decide +kernel, by decide +kernel⟩ ⟨Nat.le_of_ble_eq_true rfl, Nat.le_of_ble_eq_true rfl⟩ (by exact Nat.le_of_ble_eq_true rfl) rfl rfl (Nat.le_of_ble_eq_true rfl) (Nat.le_of_ble_eq_true rfl) dL_law_8 dL_law_11 dL_law_12 (fun q2 w2 hp2 => ?_)
  refine n_astore_n X (lw := [some (.ref b), some (.ref q1), some (.ref q2), none]) dL_law_15 (by decide) rfl rfl ?_
  exact kk q1 w1 q2 w2 hp1 hp2
theorem len6 {args : Array Value} {s : State} {tm : Term} (h : (Term.length tm).eval args s none [] s = some (.int (Int32.ofNat 6))) : ∃ (t : Nat) (cell : Cell), tm.eval args s none [] s = some (.ref t) ∧ s.arrayAt? t = some cell ∧ cell.slots.size = 6 := by
  obtain ⟨t, cell, ht, harr, hv⟩ := Term.length_spec h
  have hsz : cell.slots.size < 2 ^ 31 := by
    simp only [Term.eval, ht, harr, Option.bind_eq_bind, Option.bind_some] at h
    by_cases hlt : cell.slots.size < 2147483648
    · exact hlt
    · simp [hlt] at h
  have e0 : Int32.ofNat 6 = cell.slots.size.toInt32 := Value.int.inj hv
  have e := congrArg Int32.toNatClampNeg e0
  have e1 : (Int32.ofNat 6).toNatClampNeg = 6 := Int32.toNatClampNeg_ofNat_of_lt (by decide)
  have e2 : cell.slots.size.toInt32.toNatClampNeg = cell.slots.size := Int32.toNatClampNeg_ofNat_of_lt hsz
  rw [e1, e2] at e
  exact ⟨t, cell, ht, harr, e.symm⟩
theorem st_arr {s : State} {args : Array Value} {nm : String} {f : Nat → Int} {cA : ClassId} (h1 : (Cond.arrayOf (.static "PileSets" nm "[I") .int).before args s = true) (h2 : (Cond.eq (.length (.static "PileSets" nm "[I")) (.int (Int32.ofNat 6))).before args s = true) (h3 : ∀ j, j < 6 → (Cond.eq (.elem (.static "PileSets" nm "[I") (.int (Int32.ofNat j))) (.int (zI (f j)))).before args s = true) (hl : (Cond.laysStatic "PileSets" nm "[I").before args s = true) (hini : (Cond.initialized "PileSets").before args s = true) (hex : (Cond.exactly (.static "PileSets" nm "[I") "[I").before args s = true) (hcA : s.vm.findClass "[I" = some cA) : ∃ (t : Nat), va_Z "PileSets" nm "[I" (.ref t) (fun q => s.heap.size ≤ q) s s.heap ∧ va_T .int t 6 (fun j => iv (f j)) (fun q => s.heap.size ≤ q) s s.heap ∧ t < s.heap.size ∧ ∃ cell : Cell, s.heap[t]? = some cell ∧ (∀ k, cell.vm ≠ .statics k) ∧ cell.vm ≠ .unknown ∧ cell.cls = cA ∧ cell.slots = (arrV cA 6 (fun j => iv (f j))).slots := by
  have hA : ∀ a : Nat, a < s.heap.size → ¬ (fun q => s.heap.size ≤ q) a := fun a ha => Nat.not_le.mpr ha
  have hlen := va_eqt h2
  obtain ⟨t, ht, hT⟩ := va_Tof (ty := .int) (N := 6) (f := fun j => iv (f j)) (by decide) h1 hlen (fun j hj => va_eqt (h3 j hj)) hA
  obtain ⟨t', cell, ht', harr, hsz⟩ := len6 hlen
  cases ht.symm.trans ht'
  obtain ⟨hcell, hkn, hst, -⟩ := State.arrayAt?_spec harr
  obtain ⟨cell2, g1, g2, g3, g4, g5, g6, g7⟩ := id hT
  cases hcell.symm.trans g1
  obtain ⟨a, c, cell3, k, x1, x2, x3, x4, x5, x6, -⟩ := Cond.exactly_spec hex
  cases ht.symm.trans x1
  cases hcell.symm.trans x3
  cases hcA.symm.trans x2
  refine ⟨t, va_Zof hl hini ht hA, hT, (Array.getElem?_eq_some_iff.mp hcell).1, cell, hcell, fun k h => (by rw [h] at hst; cases hst), hkn, x6, ?_⟩
  apply Array.ext_getElem?
  intro j
  by_cases hj : j < 6
  · rw [g6 j hj, arrV_read _ _ hj]
  · rw [Array.getElem?_eq_none (by omega), Array.getElem?_eq_none (by rw [arrV_size]; omega)]
