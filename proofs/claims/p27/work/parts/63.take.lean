/-! ===== a number out of the script ===== -/
theorem zI_ne0 {a : Int} (h : I32 a) (h0 : ¬ a = 0) : ¬ zI a = 0 := fun q => h0 (by
  rw [← zI_0] at q
  exact (zI_eq h ⟨by decide, by decide⟩).mp q)
set_option maxHeartbeats 1000000 in
theorem k_take (l : Launch) (b L : Nat) (xs : Nat → Int32) (k : Int) (hk0 : 0 ≤ k) (hk : k < 1000) (hL : L ≤ 260) : Met l yL_take (.code yL_take cL_take 2 (some .int) :: wsL_law) (rmOf 0 0) (va_Pc [.ref b, iv k] (fun U => va_X b L xs U U.heap ∧ b < U.heap.size)) (fun _ st oc t => (∃ z : Int32, oc = .returned (some (.int z))) ∧ va_F (fun _ => False) st t) 0 0 (fun _ => False) := by
  refine Met.ofW (cc := cL_take) (maxL := 2) (ret := some .int) (by decide) rfl ?_
  intro p e s m args below meth c s₁ B hml hv
  obtain ⟨rfl, hX, hbl⟩ := hv
  have hts : ∀ w ∈ wsL_law, w.before ([.ref b, iv k] : List Value).toArray s = true := fun w hw => atoms_spec (ws := .code yL_take cL_take 2 (some .int) :: wsL_law) B.pre w (List.mem_cons_of_mem _ hw)
  have hown : s.vm.findClass RL = some m.cls := findClass_of_methodNamed B.named
  have hx := B.exec
  have hb := B.bytes
  have hr := B.returns
  have hlocks := B.notSynchronized
  have hl := lvA_H (as := [.ref b, iv k]) (nL := 2) (n := 0) (lv0 := [some (.ref b), some (iv k)]) (Nat.le_of_ble_eq_true rfl) rfl
  rw [lg_entry_eq]
  have l0 := hl.2.2 0 _ rfl
  have l1 := hl.2.2 1 _ rfl
  have hS : va_S (fun _ => False) s.heap s.heap [] := va_S.rf
  have hbA : ¬ (fun _ : Nat => False) b := fun h => h
  have hc31 : (Int8.ofInt 31).toInt32 = zI 31 := by decide
  refine lv_aload_n hx hb dL_take_0 rfl l0 ?_
  refine va_slen hx hb hX hbl hbA hS dL_take_1 ?_
  rw [zI_nat]
  refine lv_if_ne hx hb (tgt := 15) dL_take_2 (by decide) (fun hn => ?_) (fun hz => ?_)
  · have hL0 : 0 < (L : Int) := by
      rcases Nat.eq_zero_or_pos L with h | h
      · subst h; exact absurd zI_0 hn
      · omega
    have hm := Int.emod_nonneg k (show (L : Int) ≠ 0 by omega)
    have hm2 := Int.emod_lt_of_pos k hL0
    refine lv_aload_n hx hb dL_take_15 rfl l0 ?_
    refine lv_iload_n hx hb dL_take_16 rfl l1 ?_
    refine lv_aload_n hx hb dL_take_17 rfl l0 ?_
    refine va_slen hx hb hX hbl hbA hS dL_take_18 ?_
    rw [zI_nat]
    refine lv_irem hx hb dL_take_19 hn ?_
    rw [zI_rem hk0 (by omega) hL0 (by omega)]
    refine va_sld hx hb hX hbl hbA hS (zI_in hm (by omega) (by omega)) dL_take_20 ?_
    refine lv_iload_n hx hb dL_take_21 rfl l1 ?_
    refine lv_bipush hx hb (v := zI 7) dL_take_22 (by decide) ?_
    refine lv_irem hx hb dL_take_24 (by decide) ?_
    refine lv_ishr hx hb dL_take_25 ?_
    refine lv_iload_n hx hb dL_take_26 rfl l1 ?_
    refine lv_aload_n hx hb dL_take_27 rfl l0 ?_
    refine va_slen hx hb hX hbl hbA hS dL_take_28 ?_
    rw [zI_nat]
    refine lv_idiv hx hb dL_take_29 hn ?_
    refine lv_bipush hx hb dL_take_30 hc31 ?_
    refine lv_imul hx hb dL_take_32 ?_
    refine lv_ixor hx hb dL_take_33 ?_
    refine lv_iload_n hx hb dL_take_34 rfl l1 ?_
    refine lv_ldc hx hb hown (hts _ wK_RL_8) dL_take_35 ?_
    refine lv_imul hx hb dL_take_37 ?_
    refine lv_ixor hx hb dL_take_38 ?_
    exact W.iret hx hb hr (fun t ht hW => ⟨⟨_, rfl⟩, hS.F ht⟩) hS.2.2 dL_take_39 hlocks
  · refine lv_sipush hx hb (v := zI 7919) dL_take_5 (by decide) ?_
    refine lv_iload_n hx hb dL_take_8 rfl l1 ?_
    refine lv_imul hx hb dL_take_9 ?_
    refine lv_iconst hx hb (v := zI 3) dL_take_10 (by decide) ?_
    refine lv_iadd hx hb dL_take_11 ?_
    refine lv_goto hx hb (tgt := 39) dL_take_12 (by decide) ?_
    exact W.iret hx hb hr (fun t ht hW => ⟨⟨_, rfl⟩, hS.F ht⟩) hS.2.2 dL_take_39 hlocks
