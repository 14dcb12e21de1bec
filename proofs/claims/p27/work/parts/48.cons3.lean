/-! ===== the constructors that hold states; the reference's ===== -/
def pX2 (ia : Nat → ClassId) (h0 : Nat) (ws : va_W) : Prop := ∃ (q : Nat) (a0 a1 a2 a3 : Nat → Nat), ws = [(h0, .inr (2, [.ref q, iv 0, iv 0])), (q, eQ ia 3 4 [some (a0 0), some (a1 0), some (a2 0), some (a3 0)])] ++ stW ia a0 ++ stW ia a1 ++ stW ia a2 ++ stW ia a3
set_option maxHeartbeats 4000000 in
set_option maxRecDepth 100000 in
theorem k_X2_init (l : Launch) (D : va_G) (ia : Nat → ClassId) (z0 t h0 sz : Nat) : MetN l D ia z0 t yX2_init cX2_init 2 4 85 145 3888 [.ref h0] [(h0, .inr (2, fsX2))] sz (pX2 ia h0) := by
  refine MetN.of (own := RX2) (nm := "<init>") (by decide) rfl rfl (by simp [Value.category]) (Nat.le_of_ble_eq_true rfl) [some (.ref h0), none] rfl (fun K X hret => ?_)
  refine n_aload_n X dX2_init_0 rfl ?_
  refine n_objInit X wL_X2_3 (Nat.le_of_ble_eq_true rfl) (Nat.le_of_ble_eq_true rfl) dX2_init_1 ?_
  refine n_aload_n X dX2_init_4 rfl ?_
  refine n_iconst X dX2_init_5 ?_
  refine n_newq X (i := 4) (N := 4) (kA := 3) (k1 := 1) (n1 := 4) wL_X2_9 rfl (by first | exact Or.inl rfl | exact Or.inr rfl) (by decide) (by omega) rfl rfl (Nat.le_of_ble_eq_true rfl) (Nat.le_of_ble_eq_true rfl) dX2_init_6 (fun q1 => ?_)
  show K ([(h0, .inr (2, [.null, iv 0, iv 0])), (q1, eQ ia 3 4 [none, none, none, none])]) 1 4 _ _ _
  refine n_putF X (ci := 2) (k := 0) (ty := .array (.object "PileSets$State")) (ws' := [(h0, .inr (2, [.ref q1, iv 0, iv 0])), (q1, eQ ia 3 4 [none, none, none, none])]) tyX2 tyX2_ok nmX2 0 rfl rfl inlX2 (by decide) wL_X2_11 rfl rfl rfl (by decide +kernel) rfl rfl (Nat.le_of_ble_eq_true rfl) dX2_init_9 rfl ?_
  refine n_iconst X dX2_init_12 ?_
  refine n_istore_n X (lw := [some (.ref h0), some (iv 0)]) dX2_init_13 (by decide) rfl rfl ?_
  refine n_iload_n X dX2_init_14 rfl ?_
  refine n_aload_n X dX2_init_15 rfl ?_
  refine n_getf X (ci := 2) (k := 0) 0 rfl rfl inlX2 (by decide) wL_X2_11 rfl (v := .ref q1) rfl dX2_init_16 ?_
  refine n_alenQ X (kA := 3) (z := 4) 1 rfl rfl rfl dX2_init_19 ?_
  refine n_icmp_ge X (a := 0) (b := 4) (tgt := 42) dX2_init_20 (by decide) ⟨by decide, by decide⟩ ⟨by decide, by decide⟩ (fun h => absurd h (by decide)) (fun _ => ?_)
  refine n_aload_n X dX2_init_23 rfl ?_
  refine n_getf X (ci := 2) (k := 0) 0 rfl rfl inlX2 (by decide) wL_X2_11 rfl (v := .ref q1) rfl dX2_init_24 ?_
  refine n_iload_n X dX2_init_27 rfl ?_
  refine n_mkN X (st := [(iv 0 : Value), (.ref q1 : Value)]) (ws := [(h0, .inr (2, [.ref q1, iv 0, iv 0])), (q1, eQ ia 3 4 [none, none, none, none])]) (ci := 6) (fs := fsX6) (k1 := 37) (n1 := 975) (fun q sz => k_X6_init l D ia z0 t q sz) tyX6 tyX6_ok inlX6 wL_X2_9 wM_X6 rfl dfX6 rfl nL_X2_17 wI_X6_init wN_X6 wC_X6_init rfl ⟨by decide +kernel, by decide +kernel, by decide +kernel⟩ ⟨Nat.le_of_ble_eq_true rfl, Nat.le_of_ble_eq_true rfl⟩ (by exact Nat.le_of_ble_eq_true rfl) rfl rfl (Nat.le_of_ble_eq_true rfl) (Nat.le_of_ble_eq_true rfl) dX2_init_28 dX2_init_31 dX2_init_32 (fun q2 w1 hp => ?_)
  obtain ⟨ad3, rfl, rfl⟩ := hp
  show K ([(h0, .inr (2, [.ref q1, iv 0, iv 0])), (q1, eQ ia 3 4 [none, none, none, none])] ++ stW ia ad3) 37 975 _ _ _
  refine n_aast X (i := 0) (j := 0) (ci := 6) (r := (RX6, TX6, 10)) (L' := [some (ad3 0), none, none, none]) (ws' := [(h0, .inr (2, [.ref q1, iv 0, iv 0])), (q1, eQ ia 3 4 [some (ad3 0), none, none, none])] ++ stW ia ad3) (by decide) (by decide) (by decide) 1 2 rfl rfl rfl rfl (Nat.le_of_ble_eq_true rfl) rfl rfl dX2_init_35 ?_
  refine n_iinc X (lw := [some (.ref h0), some (iv 1)]) dX2_init_36 rfl (by decide) rfl rfl ?_
  refine n_goto X (tgt := 14) dX2_init_39 (by decide) ?_
  refine n_iload_n X dX2_init_14 rfl ?_
  refine n_aload_n X dX2_init_15 rfl ?_
  refine n_getf X (ci := 2) (k := 0) 0 rfl rfl inlX2 (by decide) wL_X2_11 rfl (v := .ref q1) rfl dX2_init_16 ?_
  refine n_alenQ X (kA := 3) (z := 4) 1 rfl rfl rfl dX2_init_19 ?_
  refine n_icmp_ge X (a := 1) (b := 4) (tgt := 42) dX2_init_20 (by decide) ⟨by decide, by decide⟩ ⟨by decide, by decide⟩ (fun h => absurd h (by decide)) (fun _ => ?_)
  refine n_aload_n X dX2_init_23 rfl ?_
  refine n_getf X (ci := 2) (k := 0) 0 rfl rfl inlX2 (by decide) wL_X2_11 rfl (v := .ref q1) rfl dX2_init_24 ?_
  refine n_iload_n X dX2_init_27 rfl ?_
  refine n_mkN X (st := [(iv 1 : Value), (.ref q1 : Value)]) (ws := [(h0, .inr (2, [.ref q1, iv 0, iv 0])), (q1, eQ ia 3 4 [some (ad3 0), none, none, none])] ++ stW ia ad3) (ci := 6) (fs := fsX6) (k1 := 73) (n1 := 1946) (fun q sz => k_X6_init l D ia z0 t q sz) tyX6 tyX6_ok inlX6 wL_X2_9 wM_X6 rfl dfX6 rfl nL_X2_17 wI_X6_init wN_X6 wC_X6_init rfl ⟨by decide +kernel, by decide +kernel, by decide +kernel⟩ ⟨Nat.le_of_ble_eq_true rfl, Nat.le_of_ble_eq_true rfl⟩ (by exact Nat.le_of_ble_eq_true rfl) rfl rfl (Nat.le_of_ble_eq_true rfl) (Nat.le_of_ble_eq_true rfl) dX2_init_28 dX2_init_31 dX2_init_32 (fun q4 w1 hp => ?_)
  obtain ⟨ad5, rfl, rfl⟩ := hp
  show K ([(h0, .inr (2, [.ref q1, iv 0, iv 0])), (q1, eQ ia 3 4 [some (ad3 0), none, none, none])] ++ stW ia ad3 ++ stW ia ad5) 73 1946 _ _ _
  refine n_aast X (i := 1) (j := 1) (ci := 6) (r := (RX6, TX6, 10)) (L' := [some (ad3 0), some (ad5 0), none, none]) (ws' := [(h0, .inr (2, [.ref q1, iv 0, iv 0])), (q1, eQ ia 3 4 [some (ad3 0), some (ad5 0), none, none])] ++ stW ia ad3 ++ stW ia ad5) (by decide) (by decide) (by decide) 1 38 rfl rfl rfl rfl (Nat.le_of_ble_eq_true rfl) rfl rfl dX2_init_35 ?_
  refine n_iinc X (lw := [some (.ref h0), some (iv 2)]) dX2_init_36 rfl (by decide) rfl rfl ?_
  refine n_goto X (tgt := 14) dX2_init_39 (by decide) ?_
  refine n_iload_n X dX2_init_14 rfl ?_
  refine n_aload_n X dX2_init_15 rfl ?_
  refine n_getf X (ci := 2) (k := 0) 0 rfl rfl inlX2 (by decide) wL_X2_11 rfl (v := .ref q1) rfl dX2_init_16 ?_
  refine n_alenQ X (kA := 3) (z := 4) 1 rfl rfl rfl dX2_init_19 ?_
  refine n_icmp_ge X (a := 2) (b := 4) (tgt := 42) dX2_init_20 (by decide) ⟨by decide, by decide⟩ ⟨by decide, by decide⟩ (fun h => absurd h (by decide)) (fun _ => ?_)
  refine n_aload_n X dX2_init_23 rfl ?_
  refine n_getf X (ci := 2) (k := 0) 0 rfl rfl inlX2 (by decide) wL_X2_11 rfl (v := .ref q1) rfl dX2_init_24 ?_
  refine n_iload_n X dX2_init_27 rfl ?_
  refine n_mkN X (st := [(iv 2 : Value), (.ref q1 : Value)]) (ws := [(h0, .inr (2, [.ref q1, iv 0, iv 0])), (q1, eQ ia 3 4 [some (ad3 0), some (ad5 0), none, none])] ++ stW ia ad3 ++ stW ia ad5) (ci := 6) (fs := fsX6) (k1 := 109) (n1 := 2917) (fun q sz => k_X6_init l D ia z0 t q sz) tyX6 tyX6_ok inlX6 wL_X2_9 wM_X6 rfl dfX6 rfl nL_X2_17 wI_X6_init wN_X6 wC_X6_init rfl ⟨by decide +kernel, by decide +kernel, by decide +kernel⟩ ⟨Nat.le_of_ble_eq_true rfl, Nat.le_of_ble_eq_true rfl⟩ (by exact Nat.le_of_ble_eq_true rfl) rfl rfl (Nat.le_of_ble_eq_true rfl) (Nat.le_of_ble_eq_true rfl) dX2_init_28 dX2_init_31 dX2_init_32 (fun q6 w1 hp => ?_)
  obtain ⟨ad7, rfl, rfl⟩ := hp
  show K ([(h0, .inr (2, [.ref q1, iv 0, iv 0])), (q1, eQ ia 3 4 [some (ad3 0), some (ad5 0), none, none])] ++ stW ia ad3 ++ stW ia ad5 ++ stW ia ad7) 109 2917 _ _ _
  refine n_aast X (i := 2) (j := 2) (ci := 6) (r := (RX6, TX6, 10)) (L' := [some (ad3 0), some (ad5 0), some (ad7 0), none]) (ws' := [(h0, .inr (2, [.ref q1, iv 0, iv 0])), (q1, eQ ia 3 4 [some (ad3 0), some (ad5 0), some (ad7 0), none])] ++ stW ia ad3 ++ stW ia ad5 ++ stW ia ad7) (by decide) (by decide) (by decide) 1 74 rfl rfl rfl rfl (Nat.le_of_ble_eq_true rfl) rfl rfl dX2_init_35 ?_
  refine n_iinc X (lw := [some (.ref h0), some (iv 3)]) dX2_init_36 rfl (by decide) rfl rfl ?_
  refine n_goto X (tgt := 14) dX2_init_39 (by decide) ?_
  refine n_iload_n X dX2_init_14 rfl ?_
  refine n_aload_n X dX2_init_15 rfl ?_
  refine n_getf X (ci := 2) (k := 0) 0 rfl rfl inlX2 (by decide) wL_X2_11 rfl (v := .ref q1) rfl dX2_init_16 ?_
  refine n_alenQ X (kA := 3) (z := 4) 1 rfl rfl rfl dX2_init_19 ?_
  refine n_icmp_ge X (a := 3) (b := 4) (tgt := 42) dX2_init_20 (by decide) ⟨by decide, by decide⟩ ⟨by decide, by decide⟩ (fun h => absurd h (by decide)) (fun _ => ?_)
  refine n_aload_n X dX2_init_23 rfl ?_
  refine n_getf X (ci := 2) (k := 0) 0 rfl rfl inlX2 (by decide) wL_X2_11 rfl (v := .ref q1) rfl dX2_init_24 ?_
  refine n_iload_n X dX2_init_27 rfl ?_
  refine n_mkN X (st := [(iv 3 : Value), (.ref q1 : Value)]) (ws := [(h0, .inr (2, [.ref q1, iv 0, iv 0])), (q1, eQ ia 3 4 [some (ad3 0), some (ad5 0), some (ad7 0), none])] ++ stW ia ad3 ++ stW ia ad5 ++ stW ia ad7) (ci := 6) (fs := fsX6) (k1 := 145) (n1 := 3888) (fun q sz => k_X6_init l D ia z0 t q sz) tyX6 tyX6_ok inlX6 wL_X2_9 wM_X6 rfl dfX6 rfl nL_X2_17 wI_X6_init wN_X6 wC_X6_init rfl ⟨by decide +kernel, by decide +kernel, by decide +kernel⟩ ⟨Nat.le_of_ble_eq_true rfl, Nat.le_of_ble_eq_true rfl⟩ (by exact Nat.le_of_ble_eq_true rfl) rfl rfl (Nat.le_of_ble_eq_true rfl) (Nat.le_of_ble_eq_true rfl) dX2_init_28 dX2_init_31 dX2_init_32 (fun q8 w1 hp => ?_)
  obtain ⟨ad9, rfl, rfl⟩ := hp
  show K ([(h0, .inr (2, [.ref q1, iv 0, iv 0])), (q1, eQ ia 3 4 [some (ad3 0), some (ad5 0), some (ad7 0), none])] ++ stW ia ad3 ++ stW ia ad5 ++ stW ia ad7 ++ stW ia ad9) 145 3888 _ _ _
  refine n_aast X (i := 3) (j := 3) (ci := 6) (r := (RX6, TX6, 10)) (L' := [some (ad3 0), some (ad5 0), some (ad7 0), some (ad9 0)]) (ws' := [(h0, .inr (2, [.ref q1, iv 0, iv 0])), (q1, eQ ia 3 4 [some (ad3 0), some (ad5 0), some (ad7 0), some (ad9 0)])] ++ stW ia ad3 ++ stW ia ad5 ++ stW ia ad7 ++ stW ia ad9) (by decide) (by decide) (by decide) 1 110 rfl rfl rfl rfl (Nat.le_of_ble_eq_true rfl) rfl rfl dX2_init_35 ?_
  refine n_iinc X (lw := [some (.ref h0), some (iv 4)]) dX2_init_36 rfl (by decide) rfl rfl ?_
  refine n_goto X (tgt := 14) dX2_init_39 (by decide) ?_
  refine n_iload_n X dX2_init_14 rfl ?_
  refine n_aload_n X dX2_init_15 rfl ?_
  refine n_getf X (ci := 2) (k := 0) 0 rfl rfl inlX2 (by decide) wL_X2_11 rfl (v := .ref q1) rfl dX2_init_16 ?_
  refine n_alenQ X (kA := 3) (z := 4) 1 rfl rfl rfl dX2_init_19 ?_
  refine n_icmp_ge X (a := 4) (b := 4) (tgt := 42) dX2_init_20 (by decide) ⟨by decide, by decide⟩ ⟨by decide, by decide⟩ (fun _ => ?_) (fun h => absurd h (by decide))
  exact hret _ _ _ _ _ (Nat.le_of_ble_eq_true rfl) (Nat.le_of_ble_eq_true rfl) dX2_init_42 ⟨q1, ad3, ad5, ad7, ad9, rfl⟩
def pX7 (ia : Nat → ClassId) (h0 : Nat) (ws : va_W) : Prop := ∃ (a b0 b1 b2 b3 : Nat → Nat) (qh qm qt qc qr qa qo o1 o2 o3 o4 : Nat), ws = [(h0, .inr (7, [.ref (a 0), .ref qh, .ref qt, .ref qr, .ref qo]))] ++ stW ia a ++ ([(qh, .inr (2, [.ref qm, iv 0, iv 0])), (qm, eQ ia 3 4 [some (b0 0), some (b1 0), some (b2 0), some (b3 0)])] ++ stW ia b0 ++ stW ia b1 ++ stW ia b2 ++ stW ia b3) ++ [(qt, .inr (0, [.ref qc, iv 0, iv 0, iv 0, iv 0, iv 0, iv 0])), (qc, eC ia 80 zr), (qr, .inr (5, [.ref qa, iv 0, iv 0, iv 0, iv 0, iv 0, iv 0])), (qa, eI ia 4 zr), (qo, .inr (3, [.ref o1, .ref o2, iv 0, .ref o3, .ref o4, iv 0, iv 0])), (o1, eI ia 10 zr), (o2, eI ia 10 zr), (o3, eI ia 5 zr), (o4, eI ia 5 zr)]
set_option maxHeartbeats 4000000 in
set_option maxRecDepth 100000 in
theorem k_X7_init (l : Launch) (D : va_G) (ia : Nat → ClassId) (z0 t h0 sz : Nat) : MetN l D ia z0 t yX7_init cX7_init 1 5 106 191 4997 [.ref h0] [(h0, .inr (7, fsX7))] sz (pX7 ia h0) := by
  refine MetN.of (own := RX7) (nm := "<init>") (by decide) rfl rfl (by simp [Value.category]) (Nat.le_of_ble_eq_true rfl) [some (.ref h0)] rfl (fun K X hret => ?_)
  refine n_aload_n X dX7_init_0 rfl ?_
  refine n_objInit X wL_X7_1 (Nat.le_of_ble_eq_true rfl) (Nat.le_of_ble_eq_true rfl) dX7_init_1 ?_
  refine n_aload_n X dX7_init_4 rfl ?_
  refine n_mkN X (st := [(.ref h0 : Value)]) (ws := [(h0, .inr (7, [.null, .null, .null, .null, .null]))]) (ci := 6) (fs := fsX6) (k1 := 36) (n1 := 971) (fun q sz => k_X6_init l D ia z0 t q sz) tyX6 tyX6_ok inlX6 wL_X7_7 wM_X6 rfl dfX6 rfl nL_X7_9 wI_X6_init wN_X6 wC_X6_init rfl ⟨by decide +kernel, by decide +kernel, by decide +kernel⟩ ⟨Nat.le_of_ble_eq_true rfl, Nat.le_of_ble_eq_true rfl⟩ (by exact Nat.le_of_ble_eq_true rfl) rfl rfl (Nat.le_of_ble_eq_true rfl) (Nat.le_of_ble_eq_true rfl) dX7_init_5 dX7_init_8 dX7_init_9 (fun q1 w1 hp => ?_)
  obtain ⟨ad2, rfl, rfl⟩ := hp
  show K ([(h0, .inr (7, [.null, .null, .null, .null, .null]))] ++ stW ia ad2) 36 971 _ _ _
  refine n_putF X (ci := 7) (k := 0) (ty := .object "PileSets$State") (ws' := [(h0, .inr (7, [.ref (ad2 0), .null, .null, .null, .null]))] ++ stW ia ad2) tyX7 tyX7_ok nmX7 0 rfl rfl inlX7 (by decide) wL_X7_10 rfl rfl rfl (by decide +kernel) rfl rfl (Nat.le_of_ble_eq_true rfl) dX7_init_12 rfl ?_
  refine n_aload_n X dX7_init_15 rfl ?_
  refine n_mkN X (st := [(.ref h0 : Value)]) (ws := [(h0, .inr (7, [.ref (ad2 0), .null, .null, .null, .null]))] ++ stW ia ad2) (ci := 2) (fs := fsX2) (k1 := 182) (n1 := 4862) (fun q sz => k_X2_init l D ia z0 t q sz) tyX2 tyX2_ok inlX2 wL_X7_16 wM_X2 rfl dfX2 rfl nL_X7_18 wI_X2_init wN_X2 wC_X2_init rfl ⟨by decide +kernel, by decide +kernel, by decide +kernel⟩ ⟨Nat.le_of_ble_eq_true rfl, Nat.le_of_ble_eq_true rfl⟩ (by exact Nat.le_of_ble_eq_true rfl) rfl rfl (Nat.le_of_ble_eq_true rfl) (Nat.le_of_ble_eq_true rfl) dX7_init_16 dX7_init_19 dX7_init_20 (fun q3 w1 hp => ?_)
  obtain ⟨q4, b5_0, b5_1, b5_2, b5_3, rfl⟩ := hp
  show K ([(h0, .inr (7, [.ref (ad2 0), .null, .null, .null, .null]))] ++ stW ia ad2 ++ ([(q3, .inr (2, [.ref q4, iv 0, iv 0])), (q4, eQ ia 3 4 [some (b5_0 0), some (b5_1 0), some (b5_2 0), some (b5_3 0)])] ++ stW ia b5_0 ++ stW ia b5_1 ++ stW ia b5_2 ++ stW ia b5_3)) 182 4862 _ _ _
  refine n_putF X (ci := 7) (k := 1) (ty := .object "PileSets$History") (ws' := [(h0, .inr (7, [.ref (ad2 0), .ref q3, .null, .null, .null]))] ++ stW ia ad2 ++ ([(q3, .inr (2, [.ref q4, iv 0, iv 0])), (q4, eQ ia 3 4 [some (b5_0 0), some (b5_1 0), some (b5_2 0), some (b5_3 0)])] ++ stW ia b5_0 ++ stW ia b5_1 ++ stW ia b5_2 ++ stW ia b5_3)) tyX7 tyX7_ok nmX7 0 rfl rfl inlX7 (by decide) wL_X7_19 rfl rfl rfl (by decide +kernel) rfl rfl (Nat.le_of_ble_eq_true rfl) dX7_init_23 rfl ?_
  refine n_aload_n X dX7_init_26 rfl ?_
  refine n_mkN X (st := [(.ref h0 : Value)]) (ws := [(h0, .inr (7, [.ref (ad2 0), .ref q3, .null, .null, .null]))] ++ stW ia ad2 ++ ([(q3, .inr (2, [.ref q4, iv 0, iv 0])), (q4, eQ ia 3 4 [some (b5_0 0), some (b5_1 0), some (b5_2 0), some (b5_3 0)])] ++ stW ia b5_0 ++ stW ia b5_1 ++ stW ia b5_2 ++ stW ia b5_3)) (ci := 0) (fs := fsX0) (k1 := 184) (n1 := 4949) (fun q sz => k_X0_init l D ia z0 t q sz) tyX0 tyX0_ok inlX0 wL_X7_23 wM_X0 rfl dfX0 rfl nL_X7_25 wI_X0_init wN_X0 wC_X0_init rfl ⟨by decide +kernel, by decide +kernel, by decide +kernel⟩ ⟨Nat.le_of_ble_eq_true rfl, Nat.le_of_ble_eq_true rfl⟩ (by exact Nat.le_of_ble_eq_true rfl) rfl rfl (Nat.le_of_ble_eq_true rfl) (Nat.le_of_ble_eq_true rfl) dX7_init_27 dX7_init_30 dX7_init_31 (fun q6 w1 hp => ?_)
  obtain ⟨q7, rfl⟩ := hp
  show K ([(h0, .inr (7, [.ref (ad2 0), .ref q3, .null, .null, .null]))] ++ stW ia ad2 ++ ([(q3, .inr (2, [.ref q4, iv 0, iv 0])), (q4, eQ ia 3 4 [some (b5_0 0), some (b5_1 0), some (b5_2 0), some (b5_3 0)])] ++ stW ia b5_0 ++ stW ia b5_1 ++ stW ia b5_2 ++ stW ia b5_3) ++ [(q6, .inr (0, [.ref q7, iv 0, iv 0, iv 0, iv 0, iv 0, iv 0])), (q7, eC ia 80 zr)]) 184 4949 _ _ _
  refine n_putF X (ci := 7) (k := 2) (ty := .object "PileSets$BlowText") (ws' := [(h0, .inr (7, [.ref (ad2 0), .ref q3, .ref q6, .null, .null]))] ++ stW ia ad2 ++ ([(q3, .inr (2, [.ref q4, iv 0, iv 0])), (q4, eQ ia 3 4 [some (b5_0 0), some (b5_1 0), some (b5_2 0), some (b5_3 0)])] ++ stW ia b5_0 ++ stW ia b5_1 ++ stW ia b5_2 ++ stW ia b5_3) ++ [(q6, .inr (0, [.ref q7, iv 0, iv 0, iv 0, iv 0, iv 0, iv 0])), (q7, eC ia 80 zr)]) tyX7 tyX7_ok nmX7 0 rfl rfl inlX7 (by decide) wL_X7_26 rfl rfl rfl (by decide +kernel) rfl rfl (Nat.le_of_ble_eq_true rfl) dX7_init_34 rfl ?_
  refine n_aload_n X dX7_init_37 rfl ?_
  refine n_mkN X (st := [(.ref h0 : Value)]) (ws := [(h0, .inr (7, [.ref (ad2 0), .ref q3, .ref q6, .null, .null]))] ++ stW ia ad2 ++ ([(q3, .inr (2, [.ref q4, iv 0, iv 0])), (q4, eQ ia 3 4 [some (b5_0 0), some (b5_1 0), some (b5_2 0), some (b5_3 0)])] ++ stW ia b5_0 ++ stW ia b5_1 ++ stW ia b5_2 ++ stW ia b5_3) ++ [(q6, .inr (0, [.ref q7, iv 0, iv 0, iv 0, iv 0, iv 0, iv 0])), (q7, eC ia 80 zr)]) (ci := 5) (fs := fsX5) (k1 := 186) (n1 := 4960) (fun q sz => k_X5_init l D ia z0 t q sz) tyX5 tyX5_ok inlX5 wL_X7_30 wM_X5 rfl dfX5 rfl nL_X7_32 wI_X5_init wN_X5 wC_X5_init rfl ⟨by decide +kernel, by decide +kernel, by decide +kernel⟩ ⟨Nat.le_of_ble_eq_true rfl, Nat.le_of_ble_eq_true rfl⟩ (by exact Nat.le_of_ble_eq_true rfl) rfl rfl (Nat.le_of_ble_eq_true rfl) (Nat.le_of_ble_eq_true rfl) dX7_init_38 dX7_init_41 dX7_init_42 (fun q8 w1 hp => ?_)
  obtain ⟨q9, rfl⟩ := hp
  show K ([(h0, .inr (7, [.ref (ad2 0), .ref q3, .ref q6, .null, .null]))] ++ stW ia ad2 ++ ([(q3, .inr (2, [.ref q4, iv 0, iv 0])), (q4, eQ ia 3 4 [some (b5_0 0), some (b5_1 0), some (b5_2 0), some (b5_3 0)])] ++ stW ia b5_0 ++ stW ia b5_1 ++ stW ia b5_2 ++ stW ia b5_3) ++ [(q6, .inr (0, [.ref q7, iv 0, iv 0, iv 0, iv 0, iv 0, iv 0])), (q7, eC ia 80 zr), (q8, .inr (5, [.ref q9, iv 0, iv 0, iv 0, iv 0, iv 0, iv 0])), (q9, eI ia 4 zr)]) 186 4960 _ _ _
  refine n_putF X (ci := 7) (k := 3) (ty := .object "PileSets$RunFinder") (ws' := [(h0, .inr (7, [.ref (ad2 0), .ref q3, .ref q6, .ref q8, .null]))] ++ stW ia ad2 ++ ([(q3, .inr (2, [.ref q4, iv 0, iv 0])), (q4, eQ ia 3 4 [some (b5_0 0), some (b5_1 0), some (b5_2 0), some (b5_3 0)])] ++ stW ia b5_0 ++ stW ia b5_1 ++ stW ia b5_2 ++ stW ia b5_3) ++ [(q6, .inr (0, [.ref q7, iv 0, iv 0, iv 0, iv 0, iv 0, iv 0])), (q7, eC ia 80 zr), (q8, .inr (5, [.ref q9, iv 0, iv 0, iv 0, iv 0, iv 0, iv 0])), (q9, eI ia 4 zr)]) tyX7 tyX7_ok nmX7 0 rfl rfl inlX7 (by decide) wL_X7_33 rfl rfl rfl (by decide +kernel) rfl rfl (Nat.le_of_ble_eq_true rfl) dX7_init_45 rfl ?_
  refine n_aload_n X dX7_init_48 rfl ?_
  refine n_mkN X (st := [(.ref h0 : Value)]) (ws := [(h0, .inr (7, [.ref (ad2 0), .ref q3, .ref q6, .ref q8, .null]))] ++ stW ia ad2 ++ ([(q3, .inr (2, [.ref q4, iv 0, iv 0])), (q4, eQ ia 3 4 [some (b5_0 0), some (b5_1 0), some (b5_2 0), some (b5_3 0)])] ++ stW ia b5_0 ++ stW ia b5_1 ++ stW ia b5_2 ++ stW ia b5_3) ++ [(q6, .inr (0, [.ref q7, iv 0, iv 0, iv 0, iv 0, iv 0, iv 0])), (q7, eC ia 80 zr), (q8, .inr (5, [.ref q9, iv 0, iv 0, iv 0, iv 0, iv 0, iv 0])), (q9, eI ia 4 zr)]) (ci := 3) (fs := fsX3) (k1 := 191) (n1 := 4997) (fun q sz => k_X3_init l D ia z0 t q sz) tyX3 tyX3_ok inlX3 wL_X7_37 wM_X3 rfl dfX3 rfl nL_X7_39 wI_X3_init wN_X3 wC_X3_init rfl ⟨by decide +kernel, by decide +kernel, by decide +kernel⟩ ⟨Nat.le_of_ble_eq_true rfl, Nat.le_of_ble_eq_true rfl⟩ (by exact Nat.le_of_ble_eq_true rfl) rfl rfl (Nat.le_of_ble_eq_true rfl) (Nat.le_of_ble_eq_true rfl) dX7_init_49 dX7_init_52 dX7_init_53 (fun q10 w1 hp => ?_)
  obtain ⟨q11, q12, q13, q14, rfl⟩ := hp
  show K ([(h0, .inr (7, [.ref (ad2 0), .ref q3, .ref q6, .ref q8, .null]))] ++ stW ia ad2 ++ ([(q3, .inr (2, [.ref q4, iv 0, iv 0])), (q4, eQ ia 3 4 [some (b5_0 0), some (b5_1 0), some (b5_2 0), some (b5_3 0)])] ++ stW ia b5_0 ++ stW ia b5_1 ++ stW ia b5_2 ++ stW ia b5_3) ++ [(q6, .inr (0, [.ref q7, iv 0, iv 0, iv 0, iv 0, iv 0, iv 0])), (q7, eC ia 80 zr), (q8, .inr (5, [.ref q9, iv 0, iv 0, iv 0, iv 0, iv 0, iv 0])), (q9, eI ia 4 zr), (q10, .inr (3, [.ref q11, .ref q12, iv 0, .ref q13, .ref q14, iv 0, iv 0])), (q11, eI ia 10 zr), (q12, eI ia 10 zr), (q13, eI ia 5 zr), (q14, eI ia 5 zr)]) 191 4997 _ _ _
  refine n_putF X (ci := 7) (k := 4) (ty := .object "PileSets$OrderFinder") (ws' := [(h0, .inr (7, [.ref (ad2 0), .ref q3, .ref q6, .ref q8, .ref q10]))] ++ stW ia ad2 ++ ([(q3, .inr (2, [.ref q4, iv 0, iv 0])), (q4, eQ ia 3 4 [some (b5_0 0), some (b5_1 0), some (b5_2 0), some (b5_3 0)])] ++ stW ia b5_0 ++ stW ia b5_1 ++ stW ia b5_2 ++ stW ia b5_3) ++ [(q6, .inr (0, [.ref q7, iv 0, iv 0, iv 0, iv 0, iv 0, iv 0])), (q7, eC ia 80 zr), (q8, .inr (5, [.ref q9, iv 0, iv 0, iv 0, iv 0, iv 0, iv 0])), (q9, eI ia 4 zr), (q10, .inr (3, [.ref q11, .ref q12, iv 0, .ref q13, .ref q14, iv 0, iv 0])), (q11, eI ia 10 zr), (q12, eI ia 10 zr), (q13, eI ia 5 zr), (q14, eI ia 5 zr)]) tyX7 tyX7_ok nmX7 0 rfl rfl inlX7 (by decide) wL_X7_40 rfl rfl rfl (by decide +kernel) rfl rfl (Nat.le_of_ble_eq_true rfl) dX7_init_56 rfl ?_
  exact hret _ _ _ _ _ (Nat.le_of_ble_eq_true rfl) (Nat.le_of_ble_eq_true rfl) dX7_init_59 ⟨ad2, b5_0, b5_1, b5_2, b5_3, q3, q4, q6, q7, q8, q9, q10, q11, q12, q13, q14, rfl⟩
