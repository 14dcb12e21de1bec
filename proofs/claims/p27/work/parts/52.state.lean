/-! ===== the law's look at an object, walked ===== -/
set_option maxHeartbeats 1000000 in
theorem st_l1 {l : Launch} {E : wEnv} {K : Mem → Nat → List (Option Value) → List Value → Prop} {σ : Mem} {s : St} {N : Int} (X : Ctx l E K RL cL_state 5 4 91) (hC : CRep σ s N) (hN : N + 600 ≤ 400000) : ∀ (n : Nat), (n : Int) ≤ 25 → ∀ h : Int, K σ 38 [some (rv E 0), some (jv (hCnt s.1 n h)), none, some (iv (25)), none] [] → K σ 6 [some (rv E 0), some (jv (h)), none, some (iv (25 - (n : Int))), none] [] := by
  intro n
  induction n with
  | zero =>
    intro _ h kk
    refine g_iload_n X dL_state_6 rfl ?_
    refine g_bipush X dL_state_7 (by decide) ?_
    refine g_icmp_ge X (tgt := 38) dL_state_9 (by decide) ⟨by omega, by omega⟩ ⟨by decide, by decide⟩ (fun _ => ?_) (fun c => absurd c (by omega))
    exact kk
  | succ n ih0 =>
    intro hn h kk
    have ih := ih0 (by omega)
    have e0 : 25 - ((n + 1 : Nat) : Int) = 24 - n := by omega
    rw [e0]
    refine g_iload_n X dL_state_6 rfl ?_
    refine g_bipush X dL_state_7 (by decide) ?_
    refine g_icmp_ge X (tgt := 38) dL_state_9 (by decide) ⟨by omega, by omega⟩ ⟨by decide, by decide⟩ (fun c => absurd c (by omega)) (fun _ => ?_)
    refine g_iload_n X dL_state_12 rfl ?_
    refine g_iconst X dL_state_13 ?_
    refine g_icmp_eq X (tgt := 32) dL_state_14 (by decide) ⟨by omega, by omega⟩ ⟨by decide, by decide⟩ (fun h4 => ?_) (fun h4 => ?_)
    · rw [hCnt, if_pos h4] at kk
      refine g_iinc X (lw := [some (rv E (0)), some (jv (h)), none, some (iv (24 - (n : Int) + 1)), none]) dL_state_32 rfl (by decide) rfl rfl ?_
      refine g_goto X (tgt := 6) dL_state_35 (by decide) ?_
      have e : 24 - (n : Int) + 1 = 25 - n := by omega
      rw [e]
      exact ih h kk
    refine g_iload_n X dL_state_17 rfl ?_
    refine g_iconst X dL_state_18 ?_
    refine g_icmp_eq X (tgt := 32) dL_state_19 (by decide) ⟨by omega, by omega⟩ ⟨by decide, by decide⟩ (fun h5 => ?_) (fun h5 => ?_)
    · rw [hCnt, if_neg h4, if_pos h5] at kk
      refine g_iinc X (lw := [some (rv E (0)), some (jv (h)), none, some (iv (24 - (n : Int) + 1)), none]) dL_state_32 rfl (by decide) rfl rfl ?_
      refine g_goto X (tgt := 6) dL_state_35 (by decide) ?_
      have e : 24 - (n : Int) + 1 = 25 - n := by omega
      rw [e]
      exact ih h kk
    rw [hCnt, if_neg h4, if_neg h5, ← countX_r h4 h5] at kk
    refine g_lload_n X dL_state_22 rfl ?_
    refine g_aload_n X dL_state_23 rfl ?_
    refine g_iload_n X dL_state_24 rfl ?_
    refine cl_L_13 X (c_X7_count l E σ s N hC hN (24 - (n : Int)) ⟨by omega, by omega⟩) fk0 ⟨Nat.le_of_ble_eq_true rfl, Nat.le_of_ble_eq_true rfl⟩ rfl (Nat.le_of_ble_eq_true rfl) dL_state_25 rfl (fun v1 τ2 p3 => ?_)
    obtain ⟨rfl, rfl⟩ := p3
    refine cl_L_19 X (c_L_mixed l E σ h (countX s (24 - (n : Int)))) ⟨Nat.le_of_ble_eq_true rfl, Nat.le_of_ble_eq_true rfl⟩ rfl (Nat.le_of_ble_eq_true rfl) dL_state_28 rfl (fun v4 τ5 p6 => ?_)
    obtain ⟨rfl, rfl⟩ := p6
    refine g_lstore_n X (lw := [some (rv E (0)), some (jv (31 * h + (countX s (24 - (n : Int))))), none, some (iv (24 - (n : Int))), none]) dL_state_31 (by decide) rfl rfl ?_
    refine g_iinc X (lw := [some (rv E (0)), some (jv (31 * h + (countX s (24 - (n : Int))))), none, some (iv (24 - (n : Int) + 1)), none]) dL_state_32 rfl (by decide) rfl rfl ?_
    refine g_goto X (tgt := 6) dL_state_35 (by decide) ?_
    have e : 24 - (n : Int) + 1 = 25 - n := by omega
    rw [e]
    exact ih _ kk
set_option maxHeartbeats 1000000 in
theorem st_l2 {l : Launch} {E : wEnv} {K : Mem → Nat → List (Option Value) → List Value → Prop} {σ : Mem} {s : St} {N : Int} (X : Ctx l E K RL cL_state 5 4 91) (hC : CRep σ s N) (hN : N + 600 ≤ 400000) : ∀ (n : Nat), (n : Int) ≤ 4 * s.1 0 → ∀ h : Int, K σ 77 [some (rv E 0), some (jv (hGr s.1 (4 * s.1 0) n h)), none, some (iv (4 * s.1 0)), none] [] → K σ 40 [some (rv E 0), some (jv (h)), none, some (iv (4 * s.1 0 - (n : Int))), none] [] := by
  have r0 := hC.2.1.1
  intro n
  induction n with
  | zero =>
    intro _ h kk
    have e0 : 4 * s.1 0 - ((0 : Nat) : Int) = 4 * s.1 0 := by omega
    rw [e0]
    refine g_iload_n X dL_state_40 rfl ?_
    refine g_i2l X dL_state_41 ⟨by omega, by omega⟩ ?_
    refine g_ldc2 X (n := 4) dL_state_42 wK_RL_25 (by decide) ?_
    refine g_aload_n X dL_state_45 rfl ?_
    refine g_iconst X dL_state_46 ?_
    refine cl_L_13 X (c_X7_count l E σ s N hC hN 0 ⟨by decide, by decide⟩) fk0 ⟨Nat.le_of_ble_eq_true rfl, Nat.le_of_ble_eq_true rfl⟩ rfl (Nat.le_of_ble_eq_true rfl) dL_state_47 rfl (fun v1 τ1 p1 => ?_)
    obtain ⟨rfl, rfl⟩ := p1
    rw [countX_0]
    refine g_lmul X dL_state_50 ?_
    refine g_lcmpS X dL_state_51 ?_
    refine g_if_ge X (tgt := 77) dL_state_52 (by decide) ⟨by decide, by decide⟩ (fun _ => kk) (fun c => absurd c (by decide))
  | succ n ih0 =>
    intro hn h kk
    have ih := ih0 (by omega)
    have e0 : 4 * s.1 0 - ((n + 1 : Nat) : Int) = 4 * s.1 0 - 1 - (n : Int) := by omega
    rw [e0]
    refine g_iload_n X dL_state_40 rfl ?_
    refine g_i2l X dL_state_41 ⟨by omega, by omega⟩ ?_
    refine g_ldc2 X (n := 4) dL_state_42 wK_RL_25 (by decide) ?_
    refine g_aload_n X dL_state_45 rfl ?_
    refine g_iconst X dL_state_46 ?_
    refine cl_L_13 X (c_X7_count l E σ s N hC hN 0 ⟨by decide, by decide⟩) fk0 ⟨Nat.le_of_ble_eq_true rfl, Nat.le_of_ble_eq_true rfl⟩ rfl (Nat.le_of_ble_eq_true rfl) dL_state_47 rfl (fun v1 τ1 p1 => ?_)
    obtain ⟨rfl, rfl⟩ := p1
    rw [countX_0]
    refine g_lmul X dL_state_50 ?_
    refine g_lcmp X ⟨by omega, by omega⟩ ⟨by omega, by omega⟩ dL_state_51 (fun _ => ?_) (fun c => absurd c (by omega)) (fun c => absurd c (by omega))
    refine g_if_ge X (tgt := 77) dL_state_52 (by decide) ⟨by decide, by decide⟩ (fun c => absurd c (by decide)) (fun _ => ?_)
    refine g_lload_n X dL_state_55 rfl ?_
    refine g_aload_n X dL_state_56 rfl ?_
    refine g_iload_n X dL_state_57 rfl ?_
    refine g_iconst X dL_state_58 ?_
    refine g_idiv X dL_state_59 (by omega) (by omega) (by decide) (by decide) ?_
    refine g_iload_n X dL_state_60 rfl ?_
    refine g_iconst X dL_state_61 ?_
    refine g_irem X dL_state_62 (by omega) (by omega) (by decide) (by decide) ?_
    refine cl_L_27 X (c_X7_ground l E σ s N hC hN ((4 * s.1 0 - 1 - (n : Int)) / 4) ((4 * s.1 0 - 1 - (n : Int)) % 4) ⟨by omega, by omega⟩ ⟨by omega, by omega⟩) fk0 ⟨Nat.le_of_ble_eq_true rfl, Nat.le_of_ble_eq_true rfl⟩ rfl (Nat.le_of_ble_eq_true rfl) dL_state_63 rfl (fun v7 τ8 p9 => ?_)
    obtain ⟨rfl, rfl⟩ := p9
    refine g_i2lW X dL_state_66 ?_
    refine cl_L_19 X (c_L_mixed l E σ h (wr (groundX s ((4 * s.1 0 - 1 - (n : Int)) / 4) ((4 * s.1 0 - 1 - (n : Int)) % 4)))) ⟨Nat.le_of_ble_eq_true rfl, Nat.le_of_ble_eq_true rfl⟩ rfl (Nat.le_of_ble_eq_true rfl) dL_state_67 rfl (fun v10 τ11 p12 => ?_)
    obtain ⟨rfl, rfl⟩ := p12
    refine g_lstore_n X (lw := [some (rv E (0)), some (jv (31 * h + (wr (groundX s ((4 * s.1 0 - 1 - (n : Int)) / 4) ((4 * s.1 0 - 1 - (n : Int)) % 4))))), none, some (iv (4 * s.1 0 - 1 - (n : Int))), none]) dL_state_70 (by decide) rfl rfl ?_
    refine g_iinc X (lw := [some (rv E (0)), some (jv (31 * h + (wr (groundX s ((4 * s.1 0 - 1 - (n : Int)) / 4) ((4 * s.1 0 - 1 - (n : Int)) % 4))))), none, some (iv (4 * s.1 0 - 1 - (n : Int) + 1)), none]) dL_state_71 rfl (by decide) rfl rfl ?_
    refine g_goto X (tgt := 40) dL_state_74 (by decide) ?_
    have e : 4 * s.1 0 - 1 - (n : Int) + 1 = 4 * s.1 0 - n := by omega
    rw [e]
    exact ih _ kk
set_option maxHeartbeats 1000000 in
theorem st_l4 {l : Launch} {E : wEnv} {K : Mem → Nat → List (Option Value) → List Value → Prop} {σ : Mem} {s : St} {N : Int} (X : Ctx l E K RL cL_state 5 4 91) (hC : CRep σ s N) (hN : N + 600 ≤ 400000) {p : Int} (hp : 0 ≤ p ∧ p < s.1 19) : ∀ (n : Nat), (n : Int) ≤ 13 → ∀ h : Int, K σ 119 [some (rv E 0), some (jv (hPo s.1 p n h)), none, some (iv p), some (iv (13))] [] → K σ 93 [some (rv E 0), some (jv (h)), none, some (iv p), some (iv (13 - (n : Int)))] [] := by
  have r19 := hC.2.1.2.2.2.2.1
  intro n
  induction n with
  | zero =>
    intro _ h kk
    refine g_iload X dL_state_93 rfl ?_
    refine g_bipush X dL_state_95 (by decide) ?_
    refine g_icmp_ge X (tgt := 119) dL_state_97 (by decide) ⟨by omega, by omega⟩ ⟨by decide, by decide⟩ (fun _ => ?_) (fun c => absurd c (by omega))
    exact kk
  | succ n ih0 =>
    intro hn h kk
    have ih := ih0 (by omega)
    have e0 : 13 - ((n + 1 : Nat) : Int) = 12 - (n : Int) := by omega
    rw [e0]
    refine g_iload X dL_state_93 rfl ?_
    refine g_bipush X dL_state_95 (by decide) ?_
    refine g_icmp_ge X (tgt := 119) dL_state_97 (by decide) ⟨by omega, by omega⟩ ⟨by decide, by decide⟩ (fun c => absurd c (by omega)) (fun _ => ?_)
    refine g_lload_n X dL_state_100 rfl ?_
    refine g_aload_n X dL_state_101 rfl ?_
    refine g_iload_n X dL_state_102 rfl ?_
    refine g_iload X dL_state_103 rfl ?_
    refine cl_L_31 X (c_X7_pileOf l E σ s N hC hN p (12 - (n : Int)) ⟨by omega, by omega⟩ ⟨by omega, by omega⟩) fk0 ⟨Nat.le_of_ble_eq_true rfl, Nat.le_of_ble_eq_true rfl⟩ rfl (Nat.le_of_ble_eq_true rfl) dL_state_105 rfl (fun v13 τ14 p15 => ?_)
    obtain ⟨rfl, rfl⟩ := p15
    refine g_i2lW X dL_state_108 ?_
    refine cl_L_19 X (c_L_mixed l E σ h (wr (pileOfX s p (12 - (n : Int))))) ⟨Nat.le_of_ble_eq_true rfl, Nat.le_of_ble_eq_true rfl⟩ rfl (Nat.le_of_ble_eq_true rfl) dL_state_109 rfl (fun v16 τ17 p18 => ?_)
    obtain ⟨rfl, rfl⟩ := p18
    refine g_lstore_n X (lw := [some (rv E (0)), some (jv (31 * h + (wr (pileOfX s p (12 - (n : Int)))))), none, some (iv (p)), some (iv (12 - (n : Int)))]) dL_state_112 (by decide) rfl rfl ?_
    refine g_iinc X (lw := [some (rv E (0)), some (jv (31 * h + (wr (pileOfX s p (12 - (n : Int)))))), none, some (iv (p)), some (iv (12 - (n : Int) + 1))]) dL_state_113 rfl (by decide) rfl rfl ?_
    refine g_goto X (tgt := 93) dL_state_116 (by decide) ?_
    have e : 12 - (n : Int) + 1 = 13 - n := by omega
    rw [e]
    exact ih _ kk
set_option maxHeartbeats 1000000 in
theorem st_l5 {l : Launch} {E : wEnv} {K : Mem → Nat → List (Option Value) → List Value → Prop} {σ : Mem} {s : St} {N : Int} (X : Ctx l E K RL cL_state 5 4 91) (hC : CRep σ s N) (hN : N + 600 ≤ 400000) {p M : Int} (hp : 0 ≤ p ∧ p < s.1 19) (hM : M = 2 * pileOfX s p 12) : ∀ (n : Nat), (n : Int) ≤ M → ∀ h : Int, K σ 161 [some (rv E 0), some (jv (hBl s.1 p M n h)), none, some (iv p), some (iv (M))] [] → K σ 122 [some (rv E 0), some (jv (h)), none, some (iv p), some (iv (M - (n : Int)))] [] := by
  have r19 := hC.2.1.2.2.2.2.1
  have hk := hC.2.1.kept (i := p.toNat) (by omega)
  have e12 := pileOfX_12 hp
  intro n
  induction n with
  | zero =>
    intro _ h kk
    have e0 : M - ((0 : Nat) : Int) = M := by omega
    rw [e0]
    refine g_iload X dL_state_122 rfl ?_
    refine g_iconst X dL_state_124 ?_
    refine g_aload_n X dL_state_125 rfl ?_
    refine g_iload_n X dL_state_126 rfl ?_
    refine g_bipush X dL_state_127 (by decide) ?_
    refine cl_L_31 X (c_X7_pileOf l E σ s N hC hN p 12 ⟨by omega, by omega⟩ ⟨by decide, by decide⟩) fk0 ⟨Nat.le_of_ble_eq_true rfl, Nat.le_of_ble_eq_true rfl⟩ rfl (Nat.le_of_ble_eq_true rfl) dL_state_129 rfl (fun v19 τ20 p21 => ?_)
    obtain ⟨rfl, rfl⟩ := p21
    refine g_imul X dL_state_132 ?_
    rw [← hM]
    refine g_icmp_ge X (tgt := 161) dL_state_133 (by decide) ⟨by omega, by omega⟩ ⟨by omega, by omega⟩ (fun _ => kk) (fun c => absurd c (by omega))
  | succ n ih0 =>
    intro hn h kk
    have ih := ih0 (by omega)
    have e0 : M - ((n + 1 : Nat) : Int) = M - 1 - (n : Int) := by omega
    rw [e0]
    refine g_iload X dL_state_122 rfl ?_
    refine g_iconst X dL_state_124 ?_
    refine g_aload_n X dL_state_125 rfl ?_
    refine g_iload_n X dL_state_126 rfl ?_
    refine g_bipush X dL_state_127 (by decide) ?_
    refine cl_L_31 X (c_X7_pileOf l E σ s N hC hN p 12 ⟨by omega, by omega⟩ ⟨by decide, by decide⟩) fk0 ⟨Nat.le_of_ble_eq_true rfl, Nat.le_of_ble_eq_true rfl⟩ rfl (Nat.le_of_ble_eq_true rfl) dL_state_129 rfl (fun v19 τ20 p21 => ?_)
    obtain ⟨rfl, rfl⟩ := p21
    refine g_imul X dL_state_132 ?_
    rw [← hM]
    refine g_icmp_ge X (tgt := 161) dL_state_133 (by decide) ⟨by omega, by omega⟩ ⟨by omega, by omega⟩ (fun c => absurd c (by omega)) (fun _ => ?_)
    refine g_lload_n X dL_state_136 rfl ?_
    refine g_aload_n X dL_state_137 rfl ?_
    refine g_iload_n X dL_state_138 rfl ?_
    refine g_iload X dL_state_139 rfl ?_
    refine g_iconst X dL_state_141 ?_
    refine g_idiv X dL_state_142 (by omega) (by omega) (by decide) (by decide) ?_
    refine g_iload X dL_state_143 rfl ?_
    refine g_iconst X dL_state_145 ?_
    refine g_irem X dL_state_146 (by omega) (by omega) (by decide) (by decide) ?_
    refine cl_L_34 X (c_X7_blow l E σ s N hC hN p ((M - 1 - (n : Int)) / 2) ((M - 1 - (n : Int)) % 2) ⟨by omega, by omega⟩ ⟨by omega, by omega⟩ ⟨by omega, by omega⟩) fk0 ⟨Nat.le_of_ble_eq_true rfl, Nat.le_of_ble_eq_true rfl⟩ rfl (Nat.le_of_ble_eq_true rfl) dL_state_147 rfl (fun v22 τ23 p24 => ?_)
    obtain ⟨rfl, rfl⟩ := p24
    refine g_i2lW X dL_state_150 ?_
    refine cl_L_19 X (c_L_mixed l E σ h (wr (blowX s p ((M - 1 - (n : Int)) / 2) ((M - 1 - (n : Int)) % 2)))) ⟨Nat.le_of_ble_eq_true rfl, Nat.le_of_ble_eq_true rfl⟩ rfl (Nat.le_of_ble_eq_true rfl) dL_state_151 rfl (fun v25 τ26 p27 => ?_)
    obtain ⟨rfl, rfl⟩ := p27
    refine g_lstore_n X (lw := [some (rv E (0)), some (jv (31 * h + (wr (blowX s p ((M - 1 - (n : Int)) / 2) ((M - 1 - (n : Int)) % 2))))), none, some (iv (p)), some (iv (M - 1 - (n : Int)))]) dL_state_154 (by decide) rfl rfl ?_
    refine g_iinc X (lw := [some (rv E (0)), some (jv (31 * h + (wr (blowX s p ((M - 1 - (n : Int)) / 2) ((M - 1 - (n : Int)) % 2))))), none, some (iv (p)), some (iv (M - 1 - (n : Int) + 1))]) dL_state_155 rfl (by decide) rfl rfl ?_
    refine g_goto X (tgt := 122) dL_state_158 (by decide) ?_
    have e : M - 1 - (n : Int) + 1 = M - n := by omega
    rw [e]
    exact ih _ kk
set_option maxHeartbeats 1000000 in
theorem st_l3 {l : Launch} {E : wEnv} {K : Mem → Nat → List (Option Value) → List Value → Prop} {s : St} {N : Int} (X : Ctx l E K RL cL_state 5 4 91) (hN : N + 600 ≤ 400000) (hS : SInv s) : ∀ (n : Nat), (n : Int) ≤ s.1 19 → ∀ (σ : Mem) (h : Int), CRep σ s N → (∀ σ', CRep σ' s N → frM σ σ' → K σ' 178 [some (rv E 0), some (jv (hPi s.1 (s.1 19) n h)), none, some (iv (s.1 19)), none] []) → K σ 79 [some (rv E 0), some (jv (h)), none, some (iv (s.1 19 - (n : Int))), none] [] := by
  intro n
  induction n with
  | zero =>
    intro _ σ h hC kk
    have r19 := hC.2.1.2.2.2.2.1
    have e0 : s.1 19 - ((0 : Nat) : Int) = s.1 19 := by omega
    rw [e0]
    refine g_iload_n X dL_state_79 rfl ?_
    refine g_i2l X dL_state_80 ⟨by omega, by omega⟩ ?_
    refine g_aload_n X dL_state_81 rfl ?_
    refine g_iconst X dL_state_82 ?_
    refine cl_L_13 X (c_X7_count l E σ s N hC hN 1 ⟨by decide, by decide⟩) fk0 ⟨Nat.le_of_ble_eq_true rfl, Nat.le_of_ble_eq_true rfl⟩ rfl (Nat.le_of_ble_eq_true rfl) dL_state_83 rfl (fun v1 τ1 p1 => ?_)
    obtain ⟨rfl, rfl⟩ := p1
    rw [countX_1]
    refine g_lcmpS X dL_state_86 ?_
    refine g_if_ge X (tgt := 178) dL_state_87 (by decide) ⟨by decide, by decide⟩ (fun _ => kk σ hC frM.refl) (fun c => absurd c (by decide))
  | succ n ih0 =>
    intro hn σ h hC kk
    have ih := ih0 (by omega)
    have r19 := hC.2.1.2.2.2.2.1
    have e0 : s.1 19 - ((n + 1 : Nat) : Int) = s.1 19 - 1 - (n : Int) := by omega
    rw [e0]
    refine g_iload_n X dL_state_79 rfl ?_
    refine g_i2l X dL_state_80 ⟨by omega, by omega⟩ ?_
    refine g_aload_n X dL_state_81 rfl ?_
    refine g_iconst X dL_state_82 ?_
    refine cl_L_13 X (c_X7_count l E σ s N hC hN 1 ⟨by decide, by decide⟩) fk0 ⟨Nat.le_of_ble_eq_true rfl, Nat.le_of_ble_eq_true rfl⟩ rfl (Nat.le_of_ble_eq_true rfl) dL_state_83 rfl (fun v1 τ1 p1 => ?_)
    obtain ⟨rfl, rfl⟩ := p1
    rw [countX_1]
    refine g_lcmp X ⟨by omega, by omega⟩ ⟨by omega, by omega⟩ dL_state_86 (fun _ => ?_) (fun c => absurd c (by omega)) (fun c => absurd c (by omega))
    refine g_if_ge X (tgt := 178) dL_state_87 (by decide) ⟨by decide, by decide⟩ (fun c => absurd c (by decide)) (fun _ => ?_)
    refine g_iconst X dL_state_90 ?_
    refine g_istore X (lw := [some (rv E (0)), some (jv (h)), none, some (iv (s.1 19 - 1 - (n : Int))), some (iv (0))]) dL_state_91 (by decide) rfl rfl ?_
    refine st_l4 X hC hN (p := s.1 19 - 1 - (n : Int)) ⟨by omega, by omega⟩ 13 (by omega) h ?_
    refine g_iconst X dL_state_119 ?_
    refine g_istore X (lw := [some (rv E (0)), some (jv (hPo s.1 (s.1 19 - 1 - (n : Int)) 13 h)), none, some (iv (s.1 19 - 1 - (n : Int))), some (iv (0))]) dL_state_120 (by decide) rfl rfl ?_
    have hk := hC.2.1.kept (i := (s.1 19 - 1 - (n : Int)).toNat) (by omega)
    have e12 := pileOfX_12 (s := s) (p := s.1 19 - 1 - (n : Int)) ⟨by omega, by omega⟩
    have hm := st_l5 X hC hN (p := s.1 19 - 1 - (n : Int)) (M := 2 * pileOfX s (s.1 19 - 1 - (n : Int)) 12) ⟨by omega, by omega⟩ rfl (2 * pileOfX s (s.1 19 - 1 - (n : Int)) 12).toNat (by omega) (hPo s.1 (s.1 19 - 1 - (n : Int)) 13 h)
    have em : 2 * pileOfX s (s.1 19 - 1 - (n : Int)) 12 - (((2 * pileOfX s (s.1 19 - 1 - (n : Int)) 12).toNat : Nat) : Int) = 0 := by omega
    rw [em] at hm
    refine hm ?_
    refine g_lload_n X dL_state_161 rfl ?_
    refine g_aload_n X dL_state_162 rfl ?_
    refine g_iload_n X dL_state_163 rfl ?_
    refine cl_L_38 X (c_X7_runs l E σ s N hC hN hS.runs (s.1 19 - 1 - (n : Int)) ⟨by omega, by omega⟩) fk0 ⟨Nat.le_of_ble_eq_true rfl, Nat.le_of_ble_eq_true rfl⟩ rfl (Nat.le_of_ble_eq_true rfl) dL_state_164 rfl (fun v2 τ2 p2 => ?_)
    obtain ⟨rfl, hC2, hf2⟩ := p2
    refine g_i2lW X dL_state_167 ?_
    refine cl_L_19 X (c_L_mixed l E τ2 (hBl s.1 (s.1 19 - 1 - (n : Int)) (2 * pileOfX s (s.1 19 - 1 - (n : Int)) 12) (2 * pileOfX s (s.1 19 - 1 - (n : Int)) 12).toNat (hPo s.1 (s.1 19 - 1 - (n : Int)) 13 h)) (wr (runsX s (s.1 19 - 1 - (n : Int))))) ⟨Nat.le_of_ble_eq_true rfl, Nat.le_of_ble_eq_true rfl⟩ rfl (Nat.le_of_ble_eq_true rfl) dL_state_168 rfl (fun v28 τ29 p30 => ?_)
    obtain ⟨rfl, rfl⟩ := p30
    refine g_lstore_n X (lw := [some (rv E (0)), some (jv (31 * (hBl s.1 (s.1 19 - 1 - (n : Int)) (2 * pileOfX s (s.1 19 - 1 - (n : Int)) 12) (2 * pileOfX s (s.1 19 - 1 - (n : Int)) 12).toNat (hPo s.1 (s.1 19 - 1 - (n : Int)) 13 h)) + (wr (runsX s (s.1 19 - 1 - (n : Int)))))), none, some (iv (s.1 19 - 1 - (n : Int))), some (iv (2 * pileOfX s (s.1 19 - 1 - (n : Int)) 12))]) dL_state_171 (by decide) rfl rfl ?_
    refine g_kill X 4 (lw := [some (rv E 0), some (jv (31 * (hBl s.1 (s.1 19 - 1 - (n : Int)) (2 * pileOfX s (s.1 19 - 1 - (n : Int)) 12) (2 * pileOfX s (s.1 19 - 1 - (n : Int)) 12).toNat (hPo s.1 (s.1 19 - 1 - (n : Int)) 13 h)) + wr (runsX s (s.1 19 - 1 - (n : Int))))), none, some (iv (s.1 19 - 1 - (n : Int))), none]) rfl ?_
    refine g_iinc X (lw := [some (rv E (0)), some (jv (31 * (hBl s.1 (s.1 19 - 1 - (n : Int)) (2 * pileOfX s (s.1 19 - 1 - (n : Int)) 12) (2 * pileOfX s (s.1 19 - 1 - (n : Int)) 12).toNat (hPo s.1 (s.1 19 - 1 - (n : Int)) 13 h)) + (wr (runsX s (s.1 19 - 1 - (n : Int)))))), none, some (iv (s.1 19 - 1 - (n : Int) + 1)), none]) dL_state_172 rfl (by decide) rfl rfl ?_
    refine g_goto X (tgt := 79) dL_state_175 (by decide) ?_
    have e : s.1 19 - 1 - (n : Int) + 1 = s.1 19 - n := by omega
    rw [e]
    exact ih τ2 _ (hC.back hC2) (fun σ' c1 c2 => kk σ' c1 (hf2.trans c2))
set_option maxHeartbeats 1000000 in
theorem c_L_state (l : Launch) (E : wEnv) (σ : Mem) (s : St) (N : Int) (hC : CRep σ s N) (hN : N + 600 ≤ 400000) (hS : SInv s) : MetC l E yL_state cL_state 5 (some .long) 4 91 [rv E 0] σ (fun v σ' => v = some (jv (hashR s.1)) ∧ CRep σ' s N ∧ frM σ σ') := by
  have r0 := hC.2.1.1
  have r19 := hC.2.1.2.2.2.2.1
  refine MetC.of (own := RL) (by decide) rfl (by simp [Value.category]) (Nat.le_of_ble_eq_true rfl) [some (rv E 0), none, none, none, none] rfl (by simp) (fun K X R => ?_)
  refine g_ldc2 X (n := 5) dL_state_0 wK_RL_11 (by decide) ?_
  refine g_lstore_n X (lw := [some (rv E (0)), some (jv (5)), none, none, none]) dL_state_3 (by decide) rfl rfl ?_
  refine g_iconst X dL_state_4 ?_
  refine g_istore_n X (lw := [some (rv E (0)), some (jv (5)), none, some (iv (0)), none]) dL_state_5 (by decide) rfl rfl ?_
  refine st_l1 X hC hN 25 (by decide) 5 ?_
  refine g_iconst X dL_state_38 ?_
  refine g_istore_n X (lw := [some (rv E (0)), some (jv (hCnt s.1 25 5)), none, some (iv (0)), none]) dL_state_39 (by decide) rfl rfl ?_
  have h2 := st_l2 X hC hN (4 * s.1 0).toNat (by omega) (hCnt s.1 25 5)
  have e2 : 4 * s.1 0 - (((4 * s.1 0).toNat : Nat) : Int) = 0 := by omega
  rw [e2] at h2
  refine h2 ?_
  refine g_iconst X dL_state_77 ?_
  refine g_istore_n X (lw := [some (rv E (0)), some (jv (hGr s.1 (4 * s.1 0) (4 * s.1 0).toNat (hCnt s.1 25 5))), none, some (iv (0)), none]) dL_state_78 (by decide) rfl rfl ?_
  have h3 := st_l3 X hN hS (s.1 19).toNat (by omega) σ (hGr s.1 (4 * s.1 0) (4 * s.1 0).toNat (hCnt s.1 25 5)) hC
  have e3 : s.1 19 - (((s.1 19).toNat : Nat) : Int) = 0 := by omega
  rw [e3] at h3
  refine h3 (fun σ1 hC1 hf1 => ?_)
  refine g_lload_n X dL_state_178 rfl ?_
  exact R _ _ _ _ dL_state_179 ⟨rfl, hC1, hf1⟩
