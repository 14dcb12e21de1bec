/-! ===== characters that the law types; a fault that it asks for ===== -/
def tyW (w : Int) : Nat → St → St
  | 0, s => s
  | n + 1, s => tyW w n (if byI w n = 0 then s else (typeX s (byI w n)).2)
theorem type_keep (s : St) (c : Int) : (typeX s c).2.1 = s.1 ∧ (typeX s c).2.2.1 = s.2.1 ∧ (typeX s c).2.2.2.1 = s.2.2.1 := by
  unfold typeX
  split
  · split
    · exact ⟨rfl, rfl, rfl⟩
    · exact ⟨rfl, rfl, rfl⟩
  · exact ⟨rfl, rfl, rfl⟩
theorem tyW_keep (w : Int) : ∀ (n : Nat) (s : St), (tyW w n s).1 = s.1 ∧ (tyW w n s).2.1 = s.2.1 ∧ (tyW w n s).2.2.1 = s.2.2.1
  | 0, s => ⟨rfl, rfl, rfl⟩
  | n + 1, s => by
    have h := tyW_keep w n (if byI w n = 0 then s else (typeX s (byI w n)).2)
    rw [tyW]
    by_cases e : byI w n = 0
    · rw [if_pos e] at h ⊢; exact h
    · rw [if_neg e] at h ⊢
      have k := type_keep s (byI w n)
      exact ⟨h.1.trans k.1, h.2.1.trans k.2.1, h.2.2.trans k.2.2⟩
theorem SInv.of {s s' : St} (h : SInv s) (e1 : s'.1 = s.1) (e2 : s'.2.1 = s.2.1) (e3 : s'.2.2.1 = s.2.2.1) : SInv s' := by
  unfold SInv
  rw [e1, e2, e3]
  exact h
set_option maxHeartbeats 1000000 in
theorem ty_l {l : Launch} {E : wEnv} {K : Mem → Nat → List (Option Value) → List Value → Prop} {N : Int} (X : Ctx l E K RL cL_types 5 2 43) (hN : N + 600 ≤ 400000) {w : Int} (h0 : 0 ≤ w) (h1 : w < 9223372036854775808) : ∀ (n : Nat), n ≤ 8 → ∀ (σ : Mem) (s : St), CRep σ s N → (∀ σ', CRep σ' (tyW w n s) N → frM σ σ' → K σ' 38 [some (rv E 0), some (jv w), none, some (iv (-1)), none] []) → K σ 3 [some (rv E 0), some (jv w), none, some (iv ((n : Int) - 1)), none] [] := by
  intro n
  induction n with
  | zero =>
    intro _ σ s hC kk
    have e0 : ((0 : Nat) : Int) - 1 = -1 := by decide
    rw [e0]
    refine g_iload_n X dL_types_3 rfl ?_
    refine g_if_lt X (tgt := 38) dL_types_4 (by decide) ⟨by decide, by decide⟩ (fun _ => kk σ hC frM.refl) (fun c => absurd c (by decide))
  | succ n ih0 =>
    intro hn σ s hC kk
    have ih := ih0 (by omega)
    have e0 : ((n + 1 : Nat) : Int) - 1 = n := by omega
    rw [e0]
    refine g_iload_n X dL_types_3 rfl ?_
    refine g_if_lt X (tgt := 38) dL_types_4 (by decide) ⟨by omega, by omega⟩ (fun c => absurd c (by omega)) (fun _ => ?_)
    refine g_lload_n X dL_types_7 rfl ?_
    refine g_bipush X dL_types_8 (by decide) ?_
    refine g_iload_n X dL_types_10 rfl ?_
    refine g_imul X dL_types_11 ?_
    refine g_byte X (w := w) (k := n) h0 h1 (by omega) rfl wK_RL_97 (by decide) dL_types_12 dL_types_13 dL_types_16 ?_
    have hb := byI_bd w n
    refine g_l2i X dL_types_17 ?_
    refine g_istore X (lw := [some (rv E (0)), some (jv (w)), none, some (iv ((n : Int))), some (iv (byI w n))]) dL_types_18 (by decide) rfl rfl ?_
    refine g_iload X dL_types_20 rfl ?_
    refine g_if_eq X (tgt := 32) dL_types_22 (by decide) ⟨by omega, by omega⟩ (fun hz => ?_) (fun hz => ?_)
    · rw [tyW, if_pos hz] at kk
      refine g_kill X 4 (lw := [some (rv E 0), some (jv (w)), none, some (iv ((n : Int))), none]) rfl ?_
      refine g_iinc X (lw := [some (rv E (0)), some (jv (w)), none, some (iv ((n : Int) + (-1))), none]) dL_types_32 rfl (by decide) rfl rfl ?_
      refine g_goto X (tgt := 3) dL_types_35 (by decide) ?_
      have e : (n : Int) + (-1) = n - 1 := by omega
      rw [e]
      exact ih σ s hC kk
    rw [tyW, if_neg hz] at kk
    refine g_aload_n X dL_types_25 rfl ?_
    refine g_iload X dL_types_26 rfl ?_
    refine cl_L_62 X (c_X7_type l E σ s N hC hN (byI w n) ⟨by omega, by omega⟩) fk0 ⟨Nat.le_of_ble_eq_true rfl, Nat.le_of_ble_eq_true rfl⟩ rfl (Nat.le_of_ble_eq_true rfl) dL_types_28 rfl (fun v1 σ1 p1 => ?_)
    obtain ⟨rfl, hC1, hf1⟩ := p1
    refine g_pop X dL_types_31 rfl ?_
    refine g_kill X 4 (lw := [some (rv E 0), some (jv (w)), none, some (iv ((n : Int))), none]) rfl ?_
    refine g_iinc X (lw := [some (rv E (0)), some (jv (w)), none, some (iv ((n : Int) + (-1))), none]) dL_types_32 rfl (by decide) rfl rfl ?_
    refine g_goto X (tgt := 3) dL_types_35 (by decide) ?_
    have e : (n : Int) + (-1) = n - 1 := by omega
    rw [e]
    have k := type_keep s (byI w n)
    exact ih σ1 _ (hC.as hC1 k.1 k.2.1 k.2.2) (fun σ' c1 c2 => kk σ' c1 (hf1.trans c2))
set_option maxHeartbeats 1000000 in
theorem c_L_types (l : Launch) (E : wEnv) (σ : Mem) (s : St) (N : Int) (hC : CRep σ s N) (hN : N + 600 ≤ 400000) (w : Int) (h0 : 0 ≤ w) (h1 : w < 9223372036854775808) : MetC l E yL_types cL_types 5 none 2 43 [rv E 0, jv w] σ (fun v σ' => v = none ∧ CRep σ' (tyW w 8 s) N ∧ frM σ σ') := by
  refine MetC.of2 (own := RL) (n := 2) (by decide) rfl (Nat.le_of_ble_eq_true rfl) [some (rv E 0), some (jv w), none, none, none] rfl (by simp) (fun K X R => ?_)
  refine g_bipush X dL_types_0 (by decide) ?_
  refine g_istore_n X (lw := [some (rv E 0), some (jv w), none, some (iv 7), none]) dL_types_2 (by decide) rfl rfl ?_
  exact ty_l X hN h0 h1 8 (by decide) σ s hC (fun σ' c1 c2 => R _ _ _ dL_types_38 ⟨rfl, c1, c2⟩)
def texS (a b c : Int) (s : St) : St := tyW c 8 (tyW b 8 (tyW a 8 (clearX s).2))
set_option maxHeartbeats 1000000 in
theorem c_L_isFault (l : Launch) (E : wEnv) (σ : Mem) (s : St) (N : Int) (hC : CRep σ s N) (hN : N + 600 ≤ 400000) (a b c p q : Int) (ha : 0 ≤ a ∧ a < 9223372036854775808) (hb : 0 ≤ b ∧ b < 9223372036854775808) (hc : 0 ≤ c ∧ c < 9223372036854775808) (e0 : faultX (texS a b c s) 0 = p) (e1 : faultX (texS a b c s) 1 = q) : MetC l E yL_isFault cL_isFault 9 (some .boolean) 6 136 [rv E 0, jv a, jv b, jv c, iv p, iv q] σ (fun v σ' => v = some (iv 1) ∧ CRep σ' (texS a b c s) N ∧ frM σ σ') := by
  refine MetC.of2 (own := RL) (n := 0) (by decide) rfl (Nat.le_of_ble_eq_true rfl) [some (rv E 0), some (jv a), none, some (jv b), none, some (jv c), none, some (iv p), some (iv q)] rfl (by simp) (fun K X R => ?_)
  unfold texS at e0 e1
  refine g_aload_n X dL_isFault_0 rfl ?_
  refine cl_L_99 X (c_X7_clearText l E σ s N hC hN) fk0 ⟨Nat.le_of_ble_eq_true rfl, Nat.le_of_ble_eq_true rfl⟩ rfl (Nat.le_of_ble_eq_true rfl) dL_isFault_1 rfl (fun v1 σ1 p1 => ?_)
  obtain ⟨rfl, hC1, hf1⟩ := p1
  have hD1 := hC.as hC1 rfl rfl rfl
  refine g_pop X dL_isFault_4 rfl ?_
  refine g_aload_n X dL_isFault_5 rfl ?_
  refine g_lload_n X dL_isFault_6 rfl ?_
  refine cl_L_103 X (c_L_types l E σ1 ((clearX s).2) N hD1 hN a ha.1 ha.2) ⟨Nat.le_of_ble_eq_true rfl, Nat.le_of_ble_eq_true rfl⟩ rfl (Nat.le_of_ble_eq_true rfl) dL_isFault_7 rfl (fun v2 σ2 p2 => ?_)
  obtain ⟨rfl, hD2, hf2⟩ := p2
  refine g_aload_n X dL_isFault_10 rfl ?_
  refine g_lload_n X dL_isFault_11 rfl ?_
  refine cl_L_103 X (c_L_types l E σ2 (tyW a 8 ((clearX s).2)) N hD2 hN b hb.1 hb.2) ⟨Nat.le_of_ble_eq_true rfl, Nat.le_of_ble_eq_true rfl⟩ rfl (Nat.le_of_ble_eq_true rfl) dL_isFault_12 rfl (fun v3 σ3 p3 => ?_)
  obtain ⟨rfl, hD3, hf3⟩ := p3
  refine g_aload_n X dL_isFault_15 rfl ?_
  refine g_lload X dL_isFault_16 rfl ?_
  refine cl_L_103 X (c_L_types l E σ3 (tyW b 8 (tyW a 8 ((clearX s).2))) N hD3 hN c hc.1 hc.2) ⟨Nat.le_of_ble_eq_true rfl, Nat.le_of_ble_eq_true rfl⟩ rfl (Nat.le_of_ble_eq_true rfl) dL_isFault_18 rfl (fun v4 σ4 p4 => ?_)
  obtain ⟨rfl, hD4, hf4⟩ := p4
  refine g_aload_n X dL_isFault_21 rfl ?_
  refine g_iconst X dL_isFault_22 ?_
  refine cl_L_65 X (c_X7_fault l E σ4 _ N hD4 hN 0 ⟨by decide, by decide⟩) fk0 ⟨Nat.le_of_ble_eq_true rfl, Nat.le_of_ble_eq_true rfl⟩ rfl (Nat.le_of_ble_eq_true rfl) dL_isFault_23 rfl (fun v5 σ5 p5 => ?_)
  obtain ⟨rfl, hC5, hf5⟩ := p5
  rw [e0]
  have hD5 := hD4.back hC5
  refine g_iload X dL_isFault_26 rfl ?_
  refine g_neS X (tgt := 45) dL_isFault_28 (by decide) ?_
  refine g_aload_n X dL_isFault_31 rfl ?_
  refine g_iconst X dL_isFault_32 ?_
  refine cl_L_65 X (c_X7_fault l E σ5 _ N hD5 hN 1 ⟨by decide, by decide⟩) fk0 ⟨Nat.le_of_ble_eq_true rfl, Nat.le_of_ble_eq_true rfl⟩ rfl (Nat.le_of_ble_eq_true rfl) dL_isFault_33 rfl (fun v6 σ6 p6 => ?_)
  obtain ⟨rfl, hC6, hf6⟩ := p6
  rw [e1]
  have hD6 := hD5.back hC6
  refine g_iload X dL_isFault_36 rfl ?_
  refine g_neS X (tgt := 45) dL_isFault_38 (by decide) ?_
  refine g_iconst X dL_isFault_41 ?_
  refine g_goto X (tgt := 46) dL_isFault_42 (by decide) ?_
  exact R _ _ _ _ (Or.inr (by decide)) dL_isFault_46 ⟨rfl, hD6, ((((hf1.trans hf2).trans hf3).trans hf4).trans hf5).trans hf6⟩
