/-! ===== the constructors that hold states; the reference's ===== -/
def pX2 (ia : Nat → ClassId) (h0 : Nat) (ws : va_W) : Prop := ∃ (q : Nat) (a0 a1 a2 a3 : Nat → Nat), ws = [(h0, .inr (2, [.ref q, iv 0, iv 0])), (q, eQ ia 3 4 [some (a0 0), some (a1 0), some (a2 0), some (a3 0)])] ++ stW ia a0 ++ stW ia a1 ++ stW ia a2 ++ stW ia a3
set_option maxHeartbeats 4000000 in
set_option maxRecDepth 100000 in
theorem k_X2_init (l : Launch) (D : va_G) (ia : Nat → ClassId) (z0 t h0 sz : Nat) : MetN l D ia z0 t yX2_init cX2_init 2 4 85 145 3888 [.ref h0] [(h0, .inr (2, fsX2))] sz (pX2 ia h0) := by
  refine MetN.of (own := RX2) (nm := "<init>") (by decide) rfl rfl (by simp [Value.category]) (Nat.le_of_ble_eq_true rfl) [some (.ref h0), none] rfl (fun K X hret => ?_)
  refine n_aload_n X dX2_init_0 rfl ?_
  refine n_objInit X wL_X2_3 (Nat.le_of_ble_eq_true rfl) (Nat.le_of_ble_eq_true rfl) dX2_init_1 ?_
  refine n_aload_n X dX2_init_4 rfl ?_
  refine n_iconst X dX2_init_5 ?_
  refine n_newq X (i := 4) (N := 4) (kA := 3) (k1 := 1) (n1 := 4) wL_X2_9 rfl (by first | exact Or.inl rfl | exact Or.inr rfl) (by decide) (by omega) rfl rfl (Nat.le_of_ble_eq_true rfl) (Nat.le_of_ble_eq_true rfl) dX2_init_6 (fun q1 => ?_)
  show K ([(h0, .inr (2, [.null, iv 0, iv 0])), (q1, eQ ia 3 4 [none, none, none, none])]) 1 4 _ _ _
  refine n_putF X (ci := 2) (k := 0) (ty := .array (.object "PileSets$State")) (ws' := [(h0, .inr (2, [.ref q1, iv 0, iv 0])), (q1, eQ ia 3 4 [none, none, none, none])]) tyX2 tyX2_ok nmX2 0 rfl rfl inlX2 (by decide) wL_X2_11 rfl rfl rfl (by decide +kernel) rfl rfl (Nat.le_of_ble_eq_true rfl) dX2_init_9 rfl ?_
  refine n_iconst X dX2_init_12 ?_
  refine n_istore_n X (lw := [some (.ref h0), some (iv 0)]) dX2_init_13 (by decide) rfl rfl ?_
  refine n_iload_n X dX2_init_14 rfl ?_
  refine n_aload_n X dX2_init_15 rfl ?_
  refine n_getf X (ci := 2) (k := 0) 0 rfl rfl inlX2 (by decide) wL_X2_11 rfl (v := .ref q1) rfl dX2_init_16 ?_
  refine n_alenQ X (kA := 3) (z := 4) 1 rfl rfl rfl dX2_init_19 ?_
  refine n_icmp_ge X (a := 0) (b := 4) (tgt := 42) dX2_init_20 (by decide) ⟨by decide, by decide⟩ ⟨by decide, by decide⟩ (fun h => absurd h (by decide)) (fun _ => ?_)
  refine n_aload_n X dX2_init_23 rfl ?_
  refine n_getf X (ci := 2) (k := 0) 0 rfl rfl inlX2 (by decide) wL_X2_11 rfl (v := .ref q1) rfl dX2_init_24 ?_
  refine n_iload_n X dX2_init_27 rfl ?_
  refine n_mkN X (st := [(iv 0 : Value), (.ref q1 : Value)]) (ws := [(h0, .inr (2, [.ref q1, iv 0, iv 0])), (q1, eQ ia 3 4 [none, none, none, none])]) (ci := 6) (fs := fsX6) (k1 := 37) (n1 := 975) (fun q sz => k_X6_init l D ia z0 t q sz) tyX6 tyX6_ok inlX6 wL_X2_9 wM_X6 rfl dfX6 rfl nL_X2_17 wI_X6_init wN_X6 wC_X6_init rfl ⟨by decide +kernel, by decide +kernel, by decide +kernel⟩ ⟨Nat.le_of_ble_eq_true rfl, Nat.le_of_ble_eq_true rfl⟩ (by exact Nat.le_of_ble_eq_true rfl) rfl rfl (Nat.le_of_ble_eq_true rfl) (Nat.le_of_ble_eq_true rfl) dX2_init_28 dX2_init_31 dX2_init_32 (fun q2 w1 hp => ?_)
  obtain ⟨ad3, rfl, rfl⟩ := hp
  show K ([(h0, .inr (2, [.ref q1, iv 0, iv 0])), (q1, eQ ia 3 4 [none, none, none, none])] ++ stW ia ad3) 37 975 _ _ _
  refine n_aast X (i := 0) (j := 0) (ci := 6) (r := (RX6, TX6, 10)) (L' := [some (ad3 0), none, none, none]) (ws' := [(h0, .inr (2, [.ref q1, iv 0, iv 0])), (q1, eQ ia 3 4 [some (ad3 0), none, none, none])] ++ stW ia ad3) (by decide) (by decide) (by decide) 1 2 rfl rfl rfl rfl (Nat.le_of_ble_eq_true rfl) rfl rfl dX2_init_35 ?_
  refine n_iinc X (lw := [some (.ref h0), some (iv 1)]) dX2_init_36 rfl (by decide) rfl rfl ?_
  refine n_goto X (tgt := 14) dX2_init_39 (by decide) ?_
  refine n_iload_n X dX2_init_14 rfl ?_
  refine n_aload_n X dX2_init_15 rfl ?_
  refine n_getf X (ci := 2) (k := 0) 0 rfl rfl inlX2 (by decide) wL_X2_11 rfl (v := .ref q1) rfl dX2_init_16 ?_
  refine n_alenQ X (kA := 3) (z := 4) 1 rfl rfl rfl dX2_init_19 ?_
  refine n_icmp_ge X (a := 1) (b := 4) (tgt := 42) dX2_init_20 (by decide) ⟨by decide, by decide⟩ ⟨by decide, by decide⟩ (fun h => absurd h (by decide)) (fun _ => ?_)
  refine n_aload_n X dX2_init_23 rfl ?_
  refine n_getf X (ci := 2) (k := 0) 0 rfl rfl inlX2 (by decide) wL_X2_11 rfl (v := .ref q1) rfl dX2_init_24 ?_
  refine n_iload_n X dX2_init_27 rfl ?_
  refine n_mkN X (st := [(iv 1 : Value), (.ref q1 : Value)]) (ws := [(h0, .inr (2, [.ref q1, iv 0, iv 0])), (q1, eQ ia 3 4 [some (ad3 0), none, none, none])] ++ stW ia ad3) (ci := 6) (fs := fsX6) (k1 := 73) (n1 := 1946) (fun q sz => k_X6_init l D ia z0 t q sz) tyX6 tyX6_ok inlX6 wL_X2_9 wM_X6 rfl dfX6 rfl nL_X2_17 wI_X6_init wN_X6 wC_X6_init rfl ⟨by decide +kernel, by decide +kernel, by decide +kernel⟩ ⟨Nat.le_of_ble_eq_true rfl, Nat.le_of_ble_eq_true rfl⟩ (by exact Nat.le_of_ble_eq_true rfl) rfl rfl (Nat.le_of_ble_eq_true rfl) (Nat.le_of_ble_eq_true rfl) dX2_init_28 dX2_init_31 dX2_init_32 (fun q4 w1 hp => ?_)
  obtain ⟨ad5, rfl, rfl⟩ := hp
  show K ([(h0, .inr (2, [.ref q1, iv 0, iv 0])), (q1, eQ ia 3 4 [some (ad3 0), none, none, none])] ++ stW ia ad3 ++ stW ia ad5) 73 1946 _ _ _
  refine n_aast X (i := 1) (j := 1) (ci := 6) (r := (RX6, TX6, 10)) (L' := [some (ad3 0), some (ad5 0), none, none]) (ws' := [(h0, .inr (2, [.ref q1, iv 0, iv 0])), (q1, eQ ia 3 4 [some (ad3 0), some (ad5 0), none, none])] ++ stW ia ad3 ++ stW ia ad5) (by decide) (by decide) (by decide) 1 38 rfl rfl rfl rfl (Nat.le_of_ble_eq_true rfl) rfl rfl dX2_init_35 ?_
  refine n_iinc X (lw := [some (.ref h0), some (iv 2)]) dX2_init_36 rfl (by decide) rfl rfl ?_
  refine n_goto X (tgt := 14) dX2_init_39 (by decide) ?_
  refine n_iload_n X dX2_init_14 rfl ?_
  refine n_aload_n X dX2_init_15 rfl ?_
  refine n_getf X (ci := 2) (k := 0) 0 rfl rfl inlX2 (by decide) wL_X2_11 rfl (v := .ref q1) rfl dX2_init_16 ?_
  refine n_alenQ X (kA := 3) (z := 4) 1 rfl rfl rfl dX2_init_19 ?_
  refine n_icmp_ge X (a := 2) (b := 4) (tgt := 42) dX2_init_20 (by decide) ⟨by decide, by decide⟩ ⟨by decide, by decide⟩ (fun h => absurd h (by decide)) (fun _ => ?_)
  refine n_aload_n X dX2_init_23 rfl ?_
  refine n_getf X (ci := 2) (k := 0) 0 rfl rfl inlX2 (by decide) wL_X2_11 rfl (v := .ref q1) rfl dX2_init_24 ?_
  refine n_iload_n X dX2_init_27 rfl ?_
  refine n_mkN X (st := [(iv 2 : Value), (.ref q1 : Value)]) (ws := [(h0, .inr (2, [.ref q1, iv 0, iv 0])), (q1, eQ ia 3 4 [some (ad3 0), some (ad5 0), none, none])] ++ stW ia ad3 ++ stW ia ad5) (ci := 6) (fs := fsX6) (k1 := 109) (n1 := 2917) (fun q sz => k_X6_init l D ia z0 t q sz) tyX6 tyX6_ok inlX6 wL_X2_9 wM_X6 rfl dfX6 rfl nL_X2_17 wI_X6_init wN_X6 wC_X6_init rfl ⟨by decide +kernel, by decide +kernel, by decide +kernel⟩ ⟨Nat.le_of_ble_eq_true rfl, Nat.le_of_ble_eq_true rfl⟩ (by exact Nat.le_of_ble_eq_true rfl) rfl rfl (Nat.le_of_ble_eq_true rfl) (Nat.le_of_ble_eq_true rfl) dX2_init_28 dX2_init_31 dX2_init_32 (fun q6 w1 hp => ?_)
  obtain ⟨ad7, rfl, rfl⟩ := hp
  show K ([(h0, .inr (2, [.ref q1, iv 0, iv 0])), (q1, eQ ia 3 4 [some (ad3 0), some (ad5 0), none, none])] ++ stW ia ad3 ++ stW ia ad5 ++ stW ia ad7) 109 2917 _ _ _
  refine n_aast X (i := 2) (j := 2) (ci := 6) (r := (RX6, TX6, 10)) (L' := [some (ad3 0), some (ad5 0), some (ad7 0), none]) (ws' := [(h0, .inr (2, [.ref q1, iv 0, iv 0])), (q1, eQ ia 3 4 [some (ad3 0), some (ad5 0), some (ad7 0), none])] ++ stW ia ad3 ++ stW ia ad5 ++ stW ia ad7) (by decide) (by decide) (by decide) 1 74 rfl rfl rfl rfl (Nat.le_of_ble_eq_true rfl) rfl rfl dX2_init_35 ?_
  refine n_iinc X (lw := [some (.ref h0), some (iv 3)]) dX2_init_36 rfl (by decide) rfl rfl ?_
  refine n_goto X (tgt := 14) dX2_init_39 (by decide) ?_
  refine n_iload_n X dX2_init_14 rfl ?_
  refine n_aload_n X dX2_init_15 rfl ?_
  refine n_getf X (ci := 2) (k := 0) 0 rfl rfl inlX2 (by decide) wL_X2_11 rfl (v := .ref q1) rfl dX2_init_16 ?_
  refine n_alenQ X (kA := 3) (z := 4) 1 rfl rfl rfl dX2_init_19 ?_
  refine n_icmp_ge X (a := 3) (b := 4) (tgt := 42) dX2_init_20 (by decide) ⟨by decide, by decide⟩ ⟨by decide, by decide⟩ (fun h => absurd h (by decide)) (fun _ => ?_)
  refine n_aload_n X dX2_init_23 rfl ?_
  refine n_getf X (ci := 2) (k := 0) 0 rfl rfl inlX2 (by decide) wL_X2_11 rfl (v := .ref q1) rfl dX2_init_24 ?_
  refine n_iload_n X dX2_init_27 rfl ?_
  refine n_mkN X (st := [(iv 3 : Value), (.ref q1 : Value)]) (ws := [(h0, .inr (2, [.ref q1, iv 0, iv 0])), (q1, eQ ia 3 4 [some (ad3 0), some (ad5 0), some (ad7 0), none])] ++ stW ia ad3 ++ stW ia ad5 ++ stW ia ad7) (ci := 6) (fs := fsX6) (k1 := 145) (n1 := 3888) (fun q sz => k_X6_init l D ia z0 t q sz) tyX6 tyX6_ok inlX6 wL_X2_9 wM_X6 rfl dfX6 rfl nL_X2_17 wI_X6_init wN_X6 wC_X6_init rfl ⟨by decide +kernel, by decide +kernel, by decide +kernel⟩ ⟨Nat.le_of_ble_eq_true rfl, Nat.le_of_ble_eq_true rfl⟩ (by exact Nat.le_of_ble_eq_true rfl) rfl rfl (Nat.le_of_ble_eq_true rfl) (Nat.le_of_ble_eq_true rfl) dX2_init_28 dX2_init_31 dX2_init_32 (fun q8 w1 hp => ?_)
  obtain ⟨ad9, rfl, rfl⟩ := hp
  show K ([(h0, .inr (2, [.ref q1, iv 0, iv 0])), (q1, eQ ia 3 4 [some (ad3 0), some (ad5 0), some (ad7 0), none])] ++ stW ia ad3 ++ stW ia ad5 ++ stW ia ad7 ++ stW ia ad9) 145 3888 _ _ _
  refine n_aast X (i := 3) (j := 3) (ci := 6) (r := (RX6, TX6, 10)) (L' := [some (ad3 0), some (ad5 0), some (ad7 0), some (ad9 0)]) (ws' := [(h0, .inr (2, [.ref q1, iv 0, iv 0])), (q1, eQ ia 3 4 [some (ad3 0), some (ad5 0), some (ad7 0), some (ad9 0)])] ++ stW ia ad3 ++ stW ia ad5 ++ stW ia ad7 ++ stW ia ad9) (by decide) (by decide) (by decide) 1 110 rfl rfl rfl rfl (Nat.le_of_ble_eq_true rfl) rfl rfl dX2_init_35 ?_
  refine n_iinc X (lw := [some (.ref h0), some (iv 4)]) dX2_init_36 rfl (by decide) rfl rfl ?_
  refine n_goto X (tgt := 14) dX2_init_39 (by decide) ?_
  refine n_iload_n X dX2_init_14 rfl ?_
  refine n_aload_n X dX2_init_15 rfl ?_
  refine n_getf X (ci := 2) (k := 0) 0 rfl rfl inlX2 (by decide) wL_X2_11 rfl (v := .ref q1) rfl dX2_init_16 ?_
  refine n_alenQ X (kA := 3) (z := 4) 1 rfl rfl rfl dX2_init_19 ?_
  refine n_icmp_ge X (a := 4) (b := 4) (tgt := 42) dX2_init_20 (by decide) ⟨by decide, by decide⟩ ⟨by decide, by decide⟩ (fun _ => ?_) (fun h => absurd h (by decide))
  exact hret _ _ _ _ _ (Nat.le_of_ble_eq_true rfl) (Nat.le_of_ble_eq_true rfl) dX2_init_42 ⟨q1, ad3, ad5, ad7, ad9, rfl⟩
def pX7 (ia : Nat → ClassId) (h0 : Nat) (ws : va_W) : Prop := ∃ (a b0 b1 b2 b3 : Nat → Nat) (qh qm qt qc qr qa qo o1 o2 o3 o4 : Nat), ws = [(h0, .inr (7, [.ref (a 0), .ref qh, .ref qt, .ref qr, .ref qo]))] ++ stW ia a ++ ([(qh, .inr (2, [.ref qm, iv 0, iv 0])), (qm, eQ ia 3 4 [some (b0 0), some (b1 0), some (b2 0), some (b3 0)])] ++ stW ia b0 ++ stW ia b1 ++ stW ia b2 ++ stW ia b3) ++ [(qt, .inr (0, [.ref qc, iv 0, iv 0, iv 0, iv 0, iv 0, iv 0])), (qc, eC ia 80 zr), (qr, .inr (5, [.ref qa, iv 0, iv 0, iv 0, iv 0, iv 0, iv 0])), (qa, eI ia 4 zr), (qo, .inr (3, [.ref o1, .ref o2, iv 0, .ref o3, .ref o4, iv 0, iv 0])), (o1, eI ia 10 zr), (o2, eI ia 10 zr), (o3, eI ia 5 zr), (o4, eI ia 5 zr)]
set_option maxHeartbeats 4000000 in
set_option maxRecDepth 100000 in
theorem k_X7_init (l : Launch) (D : va_G) (ia : Nat → ClassId) (z0 t h0 sz : Nat) : MetN l D ia z0 t yX7_init cX7_init 1 5 106 191 4997 [.ref h0] [(h0, .inr (7, fsX7))] sz (pX7 ia h0) := by
  refine MetN.of (own := RX7) (nm := "<init>") (by decide) rfl rfl (by simp [Value.category]) (Nat.le_of_ble_eq_true rfl) [some (.ref h0)] rfl (fun K X hret => ?_)
  refine n_aload_n X dX7_init_0 rfl ?_
  refine n_objInit X wL_X7_1 (Nat.le_of_ble_eq_true rfl) (Nat.le_of_ble_eq_true rfl) dX7_init_1 ?_
  refine n_aload_n X dX7_init_4 rfl ?_
  refine n_mkN X (st := [(.ref h0 : Value)]) (ws := [(h0, .inr (7, [.null, .null, .null, .null, .null]))]) (ci := 6) (fs := fsX6) (k1 := 36) (n1 := 971) (fun q sz => k_X6_init l D ia z0 t q sz) tyX6 tyX6_ok inlX6 wL_X7_7 wM_X6 rfl dfX6 rfl nL_X7_9 wI_X6_init wN_X6 wC_X6_init rfl ⟨by decide +kernel, by decide +kernel, by decide +kernel⟩ ⟨Nat.le_of_ble_eq_true rfl, Nat.le_of_ble_eq_true rfl⟩ (by exact Nat.le_of_ble_eq_true rfl) rfl rfl (Nat.le_of_ble_eq_true rfl) (Nat.le_of_ble_eq_true rfl) dX7_init_5 dX7_init_8 dX7_init_9 (fun q1 w1 hp => ?_)
  obtain ⟨ad2, rfl, rfl⟩ := hp
  show K ([(h0, .inr (7, [.null, .null, .null, .null, .null]))] ++ stW ia ad2) 36 971 _ _ _
  refine n_putF X (ci := 7) (k := 0) (ty := .object "PileSets$State") (ws' := [(h0, .inr (7, [.ref (ad2 0), .null, .null, .null, .null]))] ++ stW ia ad2) tyX7 tyX7_ok nmX7 0 rfl rfl inlX7 (by decide) wL_X7_10 rfl rfl rfl (by decide +kernel) rfl rfl (Nat.le_of_ble_eq_true rfl) dX7_init_12 rfl ?_
  refine n_aload_n X dX7_init_15 rfl ?_
  refine n_mkN X (st := [(.ref h0 : Value)]) (ws := [(h0, .inr (7, [.ref (ad2 0), .null, .null, .null, .null]))] ++ stW ia ad2) (ci := 2) (fs := fsX2) (k1 := 182) (n1 := 4862) (fun q sz => k_X2_init l D ia z0 t q sz) tyX2 tyX2_ok inlX2 wL_X7_16 wM_X2 rfl dfX2 rfl nL_X7_18 wI_X2_init wN_X2 wC_X2_init rfl ⟨by decide +kernel, by decide +kernel, by decide +kernel⟩ ⟨Nat.le_of_ble_eq_true rfl, Nat.le_of_ble_eq_true rfl⟩ (by exact Nat.le_of_ble_eq_true rfl) rfl rfl (Nat.le_of_ble_eq_true rfl) (Nat.le_of_ble_eq_true rfl) dX7_init_16 dX7_init_19 dX7_init_20 (fun q3 w1 hp => ?_)
  obtain ⟨q4, b5_0, b5_1, b5_2, b5_3, rfl⟩ := hp
  show K ([(h0, .inr (7, [.ref (ad2 0), .null, .null, .null, .null]))] ++ stW ia ad2 ++ ([(q3, .inr (2, [.ref q4, iv 0, iv 0])), (q4, eQ ia 3 4 [some (b5_0 0), some (b5_1 0), some (b5_2 0), some (b5_3 0)])] ++ stW ia b5_0 ++ stW ia b5_1 ++ stW ia b5_2 ++ stW ia b5_3)) 182 4862 _ _ _
  refine n_putF X (ci := 7) (k := 1) (ty := .object "PileSets$History") (ws' := [(h0, .inr (7, [.ref (ad2 0), .ref q3, .null, .null, .null]))] ++ stW ia ad2 ++ ([(q3, .inr (2, [.ref q4, iv 0, iv 0])), (q4, eQ ia 3 4 [some (b5_0 0), some (b5_1 0), some (b5_2 0), some (b5_3 0)])] ++ stW ia b5_0 ++ stW ia b5_1 ++ stW ia b5_2 ++ stW ia b5_3)) tyX7 tyX7_ok nmX7 0 rfl rfl inlX7 (by decide) wL_X7_19 rfl rfl rfl (by decide +kernel) rfl rfl (Nat.le_of_ble_eq_true rfl) dX7_init_23 rfl ?_
  refine n_aload_n X dX7_init_26 rfl ?_
  refine n_mkN X (st := [(.ref h0 : Value)]) (ws := [(h0, .inr (7, [.ref (ad2 0), .ref q3, .null, .null, .null]))] ++ stW ia ad2 ++ ([(q3, .inr (2, [.ref q4, iv 0, iv 0])), (q4, eQ ia 3 4 [some (b5_0 0), some (b5_1 0), some (b5_2 0), some (b5_3 0)])] ++ stW ia b5_0 ++ stW ia b5_1 ++ stW ia b5_2 ++ stW ia b5_3)) (ci := 0) (fs := fsX0) (k1 := 184) (n1 := 4949) (fun q sz => k_X0_init l D ia z0 t q sz) tyX0 tyX0_ok inlX0 wL_X7_23 wM_X0 rfl dfX0 rfl nL_X7_25 wI_X0_init wN_X0 wC_X0_init rfl ⟨by decide +kernel, by decide +kernel, by decide +kernel⟩ ⟨Nat.le_of_ble_eq_true rfl, Nat.le_of_ble_eq_true rfl⟩ (by exact Nat.le_of_ble_eq_true rfl) rfl rfl (Nat.le_of_ble_eq_true rfl) (Nat.le_of_ble_eq_true rfl) dX7_init_27 dX7_init_30 dX7_init_31 (fun q6 w1 hp => ?_)
  obtain ⟨q7, rfl⟩ := hp
  show K ([(h0, .inr (7, [.ref (ad2 0), .ref q3, .null, .null, .null]))] ++ stW ia ad2 ++ ([(q3, .inr (2, [.ref q4, iv 0, iv 0])), (q4, eQ ia 3 4 [some (b5_0 0), some (b5_1 0), some (b5_2 0), some (b5_3 0)])] ++ stW ia b5_0 ++ stW ia b5_1 ++ stW ia b5_2 ++ stW ia b5_3) ++ [(q6, .inr (0, [.ref q7, iv 0, iv 0, iv 0, iv 0, iv 0, iv 0])), (q7, eC ia 80 zr)]) 184 4949 _ _ _
  refine n_putF X (ci := 7) (k := 2) (ty := .object "PileSets$BlowText") (ws' := [(h0, .inr (7, [.ref (ad2 0), .ref q3, .ref q6, .null, .null]))] ++ stW ia ad2 ++ ([(q3, .inr (2, [.ref q4, iv 0, iv 0])), (q4, eQ ia 3 4 [some (b5_0 0), some (b5_1 0), some (b5_2 0), some (b5_3 0)])] ++ stW ia b5_0 ++ stW ia b5_1 ++ stW ia b5_2 ++ stW ia b5_3) ++ [(q6, .inr (0, [.ref q7, iv 0, iv 0, iv 0, iv 0, iv 0, iv 0])), (q7, eC ia 80 zr)]) tyX7 tyX7_ok nmX7 0 rfl rfl inlX7 (by decide) wL_X7_26 rfl rfl rfl (by decide +kernel) rfl rfl (Nat.le_of_ble_eq_true rfl) dX7_init_34 rfl ?_
  refine n_aload_n X dX7_init_37 rfl ?_
  refine n_mkN X (st := [(.ref h0 : Value)]) (ws := [(h0, .inr (7, [.ref (ad2 0), .ref q3, .ref q6, .null, .null]))] ++ stW ia ad2 ++ ([(q3, .inr (2, [.ref q4, iv 0, iv 0])), (q4, eQ ia 3 4 [some (b5_0 0), some (b5_1 0), some (b5_2 0), some (b5_3 0)])] ++ stW ia b5_0 ++ stW ia b5_1 ++ stW ia b5_2 ++ stW ia b5_3) ++ [(q6, .inr (0, [.ref q7, iv 0, iv 0, iv 0, iv 0, iv 0, iv 0])), (q7, eC ia 80 zr)]) (ci := 5) (fs := fsX5) (k1 := 186) (n1 := 4960) (fun q sz => k_X5_init l D ia z0 t q sz) tyX5 tyX5_ok inlX5 wL_X7_30 wM_X5 rfl dfX5 rfl nL_X7_32 wI_X5_init wN_X5 wC_X5_init rfl ⟨by decide +kernel, by decide +kernel, by decide +kernel⟩ ⟨Nat.le_of_ble_eq_true rfl, Nat.le_of_ble_eq_true rfl⟩ (by exact Nat.le_of_ble_eq_true rfl) rfl rfl (Nat.le_of_ble_eq_true rfl) (Nat.le_of_ble_eq_true rfl) dX7_init_38 dX7_init_41 dX7_init_42 (fun q8 w1 hp => ?_)
  obtain ⟨q9, rfl⟩ := hp
  show K ([(h0, .inr (7, [.ref (ad2 0), .ref q3, .ref q6, .null, .null]))] ++ stW ia ad2 ++ ([(q3, .inr (2, [.ref q4, iv 0, iv 0])), (q4, eQ ia 3 4 [some (b5_0 0), some (b5_1 0), some (b5_2 0), some (b5_3 0)])] ++ stW ia b5_0 ++ stW ia b5_1 ++ stW ia b5_2 ++ stW ia b5_3) ++ [(q6, .inr (0, [.ref q7, iv 0, iv 0, iv 0, iv 0, iv 0, iv 0])), (q7, eC ia 80 zr), (q8, .inr (5, [.ref q9, iv 0, iv 0, iv 0, iv 0, iv 0, iv 0])), (q9, eI ia 4 zr)]) 186 4960 _ _ _
  refine n_putF X (ci := 7) (k := 3) (ty := .object "PileSets$RunFinder") (ws' := [(h0, .inr (7, [.ref (ad2 0), .ref q3, .ref q6, .ref q8, .null]))] ++ stW ia ad2 ++ ([(q3, .inr (2, [.ref q4, iv 0, iv 0])), (q4, eQ ia 3 4 [some (b5_0 0), some (b5_1 0), some (b5_2 0), some (b5_3 0)])] ++ stW ia b5_0 ++ stW ia b5_1 ++ stW ia b5_2 ++ stW ia b5_3) ++ [(q6, .inr (0, [.ref q7, iv 0, iv 0, iv 0, iv 0, iv 0, iv 0])), (q7, eC ia 80 zr), (q8, .inr (5, [.ref q9, iv 0, iv 0, iv 0, iv 0, iv 0, iv 0])), (q9, eI ia 4 zr)]) tyX7 tyX7_ok nmX7 0 rfl rfl inlX7 (by decide) wL_X7_33 rfl rfl rfl (by decide +kernel) rfl rfl (Nat.le_of_ble_eq_true rfl) dX7_init_45 rfl ?_
  refine n_aload_n X dX7_init_48 rfl ?_
  refine n_mkN X (st := [(.ref h0 : Value)]) (ws := [(h0, .inr (7, [.ref (ad2 0), .ref q3, .ref q6, .ref q8, .null]))] ++ stW ia ad2 ++ ([(q3, .inr (2, [.ref q4, iv 0, iv 0])), (q4, eQ ia 3 4 [some (b5_0 0), some (b5_1 0), some (b5_2 0), some (b5_3 0)])] ++ stW ia b5_0 ++ stW ia b5_1 ++ stW ia b5_2 ++ stW ia b5_3) ++ [(q6, .inr (0, [.ref q7, iv 0, iv 0, iv 0, iv 0, iv 0, iv 0])), (q7, eC ia 80 zr), (q8, .inr (5, [.ref q9, iv 0, iv 0, iv 0, iv 0, iv 0, iv 0])), (q9, eI ia 4 zr)]) (ci := 3) (fs := fsX3) (k1 := 191) (n1 := 4997) (fun q sz => k_X3_init l D ia z0 t q sz) tyX3 tyX3_ok inlX3 wL_X7_37 wM_X3 rfl dfX3 rfl nL_X7_39 wI_X3_init wN_X3 wC_X3_init rfl ⟨by decide +kernel, by decide +kernel, by decide +kernel⟩ ⟨Nat.le_of_ble_eq_true rfl, Nat.le_of_ble_eq_true rfl⟩ (by exact Nat.le_of_ble_eq_true rfl) rfl rfl (Nat.le_of_ble_eq_true rfl) (Nat.le_of_ble_eq_true rfl) dX7_init_49 dX7_init_52 dX7_init_53 (fun q10 w1 hp => ?_)
  obtain ⟨q11, q12, q13, q14, rfl⟩ := hp
  show K ([(h0, .inr (7, [.ref (ad2 0), .ref q3, .ref q6, .ref q8, .null]))] ++ stW ia ad2 ++ ([(q3, .inr (2, [.ref q4, iv 0, iv 0])), (q4, eQ ia 3 4 [some (b5_0 0), some (b5_1 0), some (b5_2 0), some (b5_3 0)])] ++ stW ia b5_0 ++ stW ia b5_1 ++ stW ia b5_2 ++ stW ia b5_3) ++ [(q6, .inr (0, [.ref q7, iv 0, iv 0, iv 0, iv 0, iv 0, iv 0])), (q7, eC ia 80 zr), (q8, .inr (5, [.ref q9, iv 0, iv 0, iv 0, iv 0, iv 0, iv 0])), (q9, eI ia 4 zr), (q10, .inr (3, [.ref q11, .ref q12, iv 0, .ref q13, .ref q14, iv 0, iv 0])), (q11, eI ia 10 zr), (q12, eI ia 10 zr), (q13, eI ia 5 zr), (q14, eI ia 5 zr)]) 191 4997 _ _ _
  refine n_putF X (ci := 7) (k := 4) (ty := .object "PileSets$OrderFinder") (ws' := [(h0, .inr (7, [.ref (ad2 0), .ref q3, .ref q6, .ref q8, .ref q10]))] ++ stW ia ad2 ++ ([(q3, .inr (2, [.ref q4, iv 0, iv 0])), (q4, eQ ia 3 4 [some (b5_0 0), some (b5_1 0), some (b5_2 0), some (b5_3 0)])] ++ stW ia b5_0 ++ stW ia b5_1 ++ stW ia b5_2 ++ stW ia b5_3) ++ [(q6, .inr (0, [.ref q7, iv 0, iv 0, iv 0, iv 0, iv 0, iv 0])), (q7, eC ia 80 zr), (q8, .inr (5, [.ref q9, iv 0, iv 0, iv 0, iv 0, iv 0, iv 0])), (q9, eI ia 4 zr), (q10, .inr (3, [.ref q11, .ref q12, iv 0, .ref q13, .ref q14, iv 0, iv 0])), (q11, eI ia 10 zr), (q12, eI ia 10 zr), (q13, eI ia 5 zr), (q14, eI ia 5 zr)]) tyX7 tyX7_ok nmX7 0 rfl rfl inlX7 (by decide) wL_X7_40 rfl rfl rfl (by decide +kernel) rfl rfl (Nat.le_of_ble_eq_true rfl) dX7_init_56 rfl ?_
  exact hret _ _ _ _ _ (Nat.le_of_ble_eq_true rfl) (Nat.le_of_ble_eq_true rfl) dX7_init_59 ⟨ad2, b5_0, b5_1, b5_2, b5_3, q3, q4, q6, q7, q8, q9, q10, q11, q12, q13, q14, rfl⟩
def pX8 (ia : Nat → ClassId) (h0 : Nat) (ws : va_W) : Prop := ∃ q1 q2 q3 q4 q5 q6 q7 q8 q9 q10 q11 q12 : Nat, ws = [(h0, .inr (8, [.ref q1, .ref q2, .ref q3, .ref q4, iv 0, .ref q5, iv 0, .ref q6, .ref q7, .ref q8, iv 0, .ref q9, iv 0, .ref q10, .ref q11, .ref q12, iv 0, iv 0, iv 0, iv 0, iv 0, iv 0])), (q1, eI ia 934 (upv (upv (upv (upv (upv (upv (upv (upv (upv zr 0 1) 1 10000) 7 50) 13 2000) 14 70) 15 3) 16 200) 17 3000) 18 4)), (q2, eI ia 3736 zr), (q3, eJ ia 2 zr), (q4, eJ ia 8 zr), (q5, eI ia 80 zr), (q6, eI ia 40 zr), (q7, eI ia 40 zr), (q8, eI ia 40 zr), (q9, eI ia 10 zr), (q10, eI ia 10 zr), (q11, eI ia 10 zr), (q12, eI ia 10 zr)]
set_option maxHeartbeats 1000000 in
set_option maxRecDepth 100000 in
theorem k_X8_init (l : Launch) (D : va_G) (ia : Nat → ClassId) (z0 t h0 sz : Nat) : MetN l D ia z0 t yX8_init cX8_init 1 1 20 12 4920 [.ref h0] [(h0, .inr (8, fsX8))] sz (pX8 ia h0) := by
  refine MetN.of (own := RX8) (nm := "<init>") (by decide) rfl rfl (by simp [Value.category]) (Nat.le_of_ble_eq_true rfl) [some (.ref h0)] rfl (fun K X hret => ?_)
  refine n_aload_n X dX8_init_0 rfl ?_
  refine n_objInit X wL_X8_1 (Nat.le_of_ble_eq_true rfl) (Nat.le_of_ble_eq_true rfl) dX8_init_1 ?_
  refine n_aload_n X dX8_init_4 rfl ?_
  refine n_sipush X dX8_init_5 (by decide) ?_
  refine n_newI X (i := 934) (N := 934) (k1 := 1) (n1 := 934) (by decide) (by omega) rfl rfl (Nat.le_of_ble_eq_true rfl) (Nat.le_of_ble_eq_true rfl) dX8_init_8 (fun q1 => ?_)
  show K ([(h0, .inr (8, [.null, .null, .null, .null, iv 0, .null, iv 0, .null, .null, .null, iv 0, .null, iv 0, .null, .null, .null, iv 0, iv 0, iv 0, iv 0, iv 0, iv 0])), (q1, eI ia 934 zr)]) 1 934 _ _ _
  refine n_putF X (ci := 8) (k := 0) (ty := .array .int) (ws' := [(h0, .inr (8, [.ref q1, .null, .null, .null, iv 0, .null, iv 0, .null, .null, .null, iv 0, .null, iv 0, .null, .null, .null, iv 0, iv 0, iv 0, iv 0, iv 0, iv 0])), (q1, eI ia 934 zr)]) tyX8 tyX8_ok nmX8 0 rfl rfl inlX8 (by decide) wL_X8_7 rfl rfl rfl (by decide +kernel) rfl rfl (Nat.le_of_ble_eq_true rfl) dX8_init_10 rfl ?_
  refine n_aload_n X dX8_init_13 rfl ?_
  refine n_sipush X dX8_init_14 (by decide) ?_
  refine n_newI X (i := 3736) (N := 3736) (k1 := 2) (n1 := 4670) (by decide) (by omega) rfl rfl (Nat.le_of_ble_eq_true rfl) (Nat.le_of_ble_eq_true rfl) dX8_init_17 (fun q2 => ?_)
  show K ([(h0, .inr (8, [.ref q1, .null, .null, .null, iv 0, .null, iv 0, .null, .null, .null, iv 0, .null, iv 0, .null, .null, .null, iv 0, iv 0, iv 0, iv 0, iv 0, iv 0])), (q1, eI ia 934 zr), (q2, eI ia 3736 zr)]) 2 4670 _ _ _
  refine n_putF X (ci := 8) (k := 1) (ty := .array .int) (ws' := [(h0, .inr (8, [.ref q1, .ref q2, .null, .null, iv 0, .null, iv 0, .null, .null, .null, iv 0, .null, iv 0, .null, .null, .null, iv 0, iv 0, iv 0, iv 0, iv 0, iv 0])), (q1, eI ia 934 zr), (q2, eI ia 3736 zr)]) tyX8 tyX8_ok nmX8 0 rfl rfl inlX8 (by decide) wL_X8_13 rfl rfl rfl (by decide +kernel) rfl rfl (Nat.le_of_ble_eq_true rfl) dX8_init_19 rfl ?_
  refine n_aload_n X dX8_init_22 rfl ?_
  refine n_iconst X dX8_init_23 ?_
  refine n_newJ X (i := 2) (N := 2) (k1 := 3) (n1 := 4672) (by decide) (by omega) rfl rfl (Nat.le_of_ble_eq_true rfl) (Nat.le_of_ble_eq_true rfl) dX8_init_24 (fun q3 => ?_)
  show K ([(h0, .inr (8, [.ref q1, .ref q2, .null, .null, iv 0, .null, iv 0, .null, .null, .null, iv 0, .null, iv 0, .null, .null, .null, iv 0, iv 0, iv 0, iv 0, iv 0, iv 0])), (q1, eI ia 934 zr), (q2, eI ia 3736 zr), (q3, eJ ia 2 zr)]) 3 4672 _ _ _
  refine n_putF X (ci := 8) (k := 2) (ty := .array .long) (ws' := [(h0, .inr (8, [.ref q1, .ref q2, .ref q3, .null, iv 0, .null, iv 0, .null, .null, .null, iv 0, .null, iv 0, .null, .null, .null, iv 0, iv 0, iv 0, iv 0, iv 0, iv 0])), (q1, eI ia 934 zr), (q2, eI ia 3736 zr), (q3, eJ ia 2 zr)]) tyX8 tyX8_ok nmX8 0 rfl rfl inlX8 (by decide) wL_X8_16 rfl rfl rfl (by decide +kernel) rfl rfl (Nat.le_of_ble_eq_true rfl) dX8_init_26 rfl ?_
  refine n_aload_n X dX8_init_29 rfl ?_
  refine n_bipush X dX8_init_30 (by decide) ?_
  refine n_newJ X (i := 8) (N := 8) (k1 := 4) (n1 := 4680) (by decide) (by omega) rfl rfl (Nat.le_of_ble_eq_true rfl) (Nat.le_of_ble_eq_true rfl) dX8_init_32 (fun q4 => ?_)
  show K ([(h0, .inr (8, [.ref q1, .ref q2, .ref q3, .null, iv 0, .null, iv 0, .null, .null, .null, iv 0, .null, iv 0, .null, .null, .null, iv 0, iv 0, iv 0, iv 0, iv 0, iv 0])), (q1, eI ia 934 zr), (q2, eI ia 3736 zr), (q3, eJ ia 2 zr), (q4, eJ ia 8 zr)]) 4 4680 _ _ _
  refine n_putF X (ci := 8) (k := 3) (ty := .array .long) (ws' := [(h0, .inr (8, [.ref q1, .ref q2, .ref q3, .ref q4, iv 0, .null, iv 0, .null, .null, .null, iv 0, .null, iv 0, .null, .null, .null, iv 0, iv 0, iv 0, iv 0, iv 0, iv 0])), (q1, eI ia 934 zr), (q2, eI ia 3736 zr), (q3, eJ ia 2 zr), (q4, eJ ia 8 zr)]) tyX8 tyX8_ok nmX8 0 rfl rfl inlX8 (by decide) wL_X8_20 rfl rfl rfl (by decide +kernel) rfl rfl (Nat.le_of_ble_eq_true rfl) dX8_init_34 rfl ?_
  refine n_aload_n X dX8_init_37 rfl ?_
  refine n_bipush X dX8_init_38 (by decide) ?_
  refine n_newI X (i := 80) (N := 80) (k1 := 5) (n1 := 4760) (by decide) (by omega) rfl rfl (Nat.le_of_ble_eq_true rfl) (Nat.le_of_ble_eq_true rfl) dX8_init_40 (fun q5 => ?_)
  show K ([(h0, .inr (8, [.ref q1, .ref q2, .ref q3, .ref q4, iv 0, .null, iv 0, .null, .null, .null, iv 0, .null, iv 0, .null, .null, .null, iv 0, iv 0, iv 0, iv 0, iv 0, iv 0])), (q1, eI ia 934 zr), (q2, eI ia 3736 zr), (q3, eJ ia 2 zr), (q4, eJ ia 8 zr), (q5, eI ia 80 zr)]) 5 4760 _ _ _
  refine n_putF X (ci := 8) (k := 5) (ty := .array .int) (ws' := [(h0, .inr (8, [.ref q1, .ref q2, .ref q3, .ref q4, iv 0, .ref q5, iv 0, .null, .null, .null, iv 0, .null, iv 0, .null, .null, .null, iv 0, iv 0, iv 0, iv 0, iv 0, iv 0])), (q1, eI ia 934 zr), (q2, eI ia 3736 zr), (q3, eJ ia 2 zr), (q4, eJ ia 8 zr), (q5, eI ia 80 zr)]) tyX8 tyX8_ok nmX8 0 rfl rfl inlX8 (by decide) wL_X8_23 rfl rfl rfl (by decide +kernel) rfl rfl (Nat.le_of_ble_eq_true rfl) dX8_init_42 rfl ?_
  refine n_aload_n X dX8_init_45 rfl ?_
  refine n_bipush X dX8_init_46 (by decide) ?_
  refine n_newI X (i := 40) (N := 40) (k1 := 6) (n1 := 4800) (by decide) (by omega) rfl rfl (Nat.le_of_ble_eq_true rfl) (Nat.le_of_ble_eq_true rfl) dX8_init_48 (fun q6 => ?_)
  show K ([(h0, .inr (8, [.ref q1, .ref q2, .ref q3, .ref q4, iv 0, .ref q5, iv 0, .null, .null, .null, iv 0, .null, iv 0, .null, .null, .null, iv 0, iv 0, iv 0, iv 0, iv 0, iv 0])), (q1, eI ia 934 zr), (q2, eI ia 3736 zr), (q3, eJ ia 2 zr), (q4, eJ ia 8 zr), (q5, eI ia 80 zr), (q6, eI ia 40 zr)]) 6 4800 _ _ _
  refine n_putF X (ci := 8) (k := 7) (ty := .array .int) (ws' := [(h0, .inr (8, [.ref q1, .ref q2, .ref q3, .ref q4, iv 0, .ref q5, iv 0, .ref q6, .null, .null, iv 0, .null, iv 0, .null, .null, .null, iv 0, iv 0, iv 0, iv 0, iv 0, iv 0])), (q1, eI ia 934 zr), (q2, eI ia 3736 zr), (q3, eJ ia 2 zr), (q4, eJ ia 8 zr), (q5, eI ia 80 zr), (q6, eI ia 40 zr)]) tyX8 tyX8_ok nmX8 0 rfl rfl inlX8 (by decide) wL_X8_26 rfl rfl rfl (by decide +kernel) rfl rfl (Nat.le_of_ble_eq_true rfl) dX8_init_50 rfl ?_
  refine n_aload_n X dX8_init_53 rfl ?_
  refine n_bipush X dX8_init_54 (by decide) ?_
  refine n_newI X (i := 40) (N := 40) (k1 := 7) (n1 := 4840) (by decide) (by omega) rfl rfl (Nat.le_of_ble_eq_true rfl) (Nat.le_of_ble_eq_true rfl) dX8_init_56 (fun q7 => ?_)
  show K ([(h0, .inr (8, [.ref q1, .ref q2, .ref q3, .ref q4, iv 0, .ref q5, iv 0, .ref q6, .null, .null, iv 0, .null, iv 0, .null, .null, .null, iv 0, iv 0, iv 0, iv 0, iv 0, iv 0])), (q1, eI ia 934 zr), (q2, eI ia 3736 zr), (q3, eJ ia 2 zr), (q4, eJ ia 8 zr), (q5, eI ia 80 zr), (q6, eI ia 40 zr), (q7, eI ia 40 zr)]) 7 4840 _ _ _
  refine n_putF X (ci := 8) (k := 8) (ty := .array .int) (ws' := [(h0, .inr (8, [.ref q1, .ref q2, .ref q3, .ref q4, iv 0, .ref q5, iv 0, .ref q6, .ref q7, .null, iv 0, .null, iv 0, .null, .null, .null, iv 0, iv 0, iv 0, iv 0, iv 0, iv 0])), (q1, eI ia 934 zr), (q2, eI ia 3736 zr), (q3, eJ ia 2 zr), (q4, eJ ia 8 zr), (q5, eI ia 80 zr), (q6, eI ia 40 zr), (q7, eI ia 40 zr)]) tyX8 tyX8_ok nmX8 0 rfl rfl inlX8 (by decide) wL_X8_29 rfl rfl rfl (by decide +kernel) rfl rfl (Nat.le_of_ble_eq_true rfl) dX8_init_58 rfl ?_
  refine n_aload_n X dX8_init_61 rfl ?_
  refine n_bipush X dX8_init_62 (by decide) ?_
  refine n_newI X (i := 40) (N := 40) (k1 := 8) (n1 := 4880) (by decide) (by omega) rfl rfl (Nat.le_of_ble_eq_true rfl) (Nat.le_of_ble_eq_true rfl) dX8_init_64 (fun q8 => ?_)
  show K ([(h0, .inr (8, [.ref q1, .ref q2, .ref q3, .ref q4, iv 0, .ref q5, iv 0, .ref q6, .ref q7, .null, iv 0, .null, iv 0, .null, .null, .null, iv 0, iv 0, iv 0, iv 0, iv 0, iv 0])), (q1, eI ia 934 zr), (q2, eI ia 3736 zr), (q3, eJ ia 2 zr), (q4, eJ ia 8 zr), (q5, eI ia 80 zr), (q6, eI ia 40 zr), (q7, eI ia 40 zr), (q8, eI ia 40 zr)]) 8 4880 _ _ _
  refine n_putF X (ci := 8) (k := 9) (ty := .array .int) (ws' := [(h0, .inr (8, [.ref q1, .ref q2, .ref q3, .ref q4, iv 0, .ref q5, iv 0, .ref q6, .ref q7, .ref q8, iv 0, .null, iv 0, .null, .null, .null, iv 0, iv 0, iv 0, iv 0, iv 0, iv 0])), (q1, eI ia 934 zr), (q2, eI ia 3736 zr), (q3, eJ ia 2 zr), (q4, eJ ia 8 zr), (q5, eI ia 80 zr), (q6, eI ia 40 zr), (q7, eI ia 40 zr), (q8, eI ia 40 zr)]) tyX8 tyX8_ok nmX8 0 rfl rfl inlX8 (by decide) wL_X8_32 rfl rfl rfl (by decide +kernel) rfl rfl (Nat.le_of_ble_eq_true rfl) dX8_init_66 rfl ?_
  refine n_aload_n X dX8_init_69 rfl ?_
  refine n_bipush X dX8_init_70 (by decide) ?_
  refine n_newI X (i := 10) (N := 10) (k1 := 9) (n1 := 4890) (by decide) (by omega) rfl rfl (Nat.le_of_ble_eq_true rfl) (Nat.le_of_ble_eq_true rfl) dX8_init_72 (fun q9 => ?_)
  show K ([(h0, .inr (8, [.ref q1, .ref q2, .ref q3, .ref q4, iv 0, .ref q5, iv 0, .ref q6, .ref q7, .ref q8, iv 0, .null, iv 0, .null, .null, .null, iv 0, iv 0, iv 0, iv 0, iv 0, iv 0])), (q1, eI ia 934 zr), (q2, eI ia 3736 zr), (q3, eJ ia 2 zr), (q4, eJ ia 8 zr), (q5, eI ia 80 zr), (q6, eI ia 40 zr), (q7, eI ia 40 zr), (q8, eI ia 40 zr), (q9, eI ia 10 zr)]) 9 4890 _ _ _
  refine n_putF X (ci := 8) (k := 11) (ty := .array .int) (ws' := [(h0, .inr (8, [.ref q1, .ref q2, .ref q3, .ref q4, iv 0, .ref q5, iv 0, .ref q6, .ref q7, .ref q8, iv 0, .ref q9, iv 0, .null, .null, .null, iv 0, iv 0, iv 0, iv 0, iv 0, iv 0])), (q1, eI ia 934 zr), (q2, eI ia 3736 zr), (q3, eJ ia 2 zr), (q4, eJ ia 8 zr), (q5, eI ia 80 zr), (q6, eI ia 40 zr), (q7, eI ia 40 zr), (q8, eI ia 40 zr), (q9, eI ia 10 zr)]) tyX8 tyX8_ok nmX8 0 rfl rfl inlX8 (by decide) wL_X8_35 rfl rfl rfl (by decide +kernel) rfl rfl (Nat.le_of_ble_eq_true rfl) dX8_init_74 rfl ?_
  refine n_aload_n X dX8_init_77 rfl ?_
  refine n_bipush X dX8_init_78 (by decide) ?_
  refine n_newI X (i := 10) (N := 10) (k1 := 10) (n1 := 4900) (by decide) (by omega) rfl rfl (Nat.le_of_ble_eq_true rfl) (Nat.le_of_ble_eq_true rfl) dX8_init_80 (fun q10 => ?_)
  show K ([(h0, .inr (8, [.ref q1, .ref q2, .ref q3, .ref q4, iv 0, .ref q5, iv 0, .ref q6, .ref q7, .ref q8, iv 0, .ref q9, iv 0, .null, .null, .null, iv 0, iv 0, iv 0, iv 0, iv 0, iv 0])), (q1, eI ia 934 zr), (q2, eI ia 3736 zr), (q3, eJ ia 2 zr), (q4, eJ ia 8 zr), (q5, eI ia 80 zr), (q6, eI ia 40 zr), (q7, eI ia 40 zr), (q8, eI ia 40 zr), (q9, eI ia 10 zr), (q10, eI ia 10 zr)]) 10 4900 _ _ _
  refine n_putF X (ci := 8) (k := 13) (ty := .array .int) (ws' := [(h0, .inr (8, [.ref q1, .ref q2, .ref q3, .ref q4, iv 0, .ref q5, iv 0, .ref q6, .ref q7, .ref q8, iv 0, .ref q9, iv 0, .ref q10, .null, .null, iv 0, iv 0, iv 0, iv 0, iv 0, iv 0])), (q1, eI ia 934 zr), (q2, eI ia 3736 zr), (q3, eJ ia 2 zr), (q4, eJ ia 8 zr), (q5, eI ia 80 zr), (q6, eI ia 40 zr), (q7, eI ia 40 zr), (q8, eI ia 40 zr), (q9, eI ia 10 zr), (q10, eI ia 10 zr)]) tyX8 tyX8_ok nmX8 0 rfl rfl inlX8 (by decide) wL_X8_38 rfl rfl rfl (by decide +kernel) rfl rfl (Nat.le_of_ble_eq_true rfl) dX8_init_82 rfl ?_
  refine n_aload_n X dX8_init_85 rfl ?_
  refine n_bipush X dX8_init_86 (by decide) ?_
  refine n_newI X (i := 10) (N := 10) (k1 := 11) (n1 := 4910) (by decide) (by omega) rfl rfl (Nat.le_of_ble_eq_true rfl) (Nat.le_of_ble_eq_true rfl) dX8_init_88 (fun q11 => ?_)
  show K ([(h0, .inr (8, [.ref q1, .ref q2, .ref q3, .ref q4, iv 0, .ref q5, iv 0, .ref q6, .ref q7, .ref q8, iv 0, .ref q9, iv 0, .ref q10, .null, .null, iv 0, iv 0, iv 0, iv 0, iv 0, iv 0])), (q1, eI ia 934 zr), (q2, eI ia 3736 zr), (q3, eJ ia 2 zr), (q4, eJ ia 8 zr), (q5, eI ia 80 zr), (q6, eI ia 40 zr), (q7, eI ia 40 zr), (q8, eI ia 40 zr), (q9, eI ia 10 zr), (q10, eI ia 10 zr), (q11, eI ia 10 zr)]) 11 4910 _ _ _
  refine n_putF X (ci := 8) (k := 14) (ty := .array .int) (ws' := [(h0, .inr (8, [.ref q1, .ref q2, .ref q3, .ref q4, iv 0, .ref q5, iv 0, .ref q6, .ref q7, .ref q8, iv 0, .ref q9, iv 0, .ref q10, .ref q11, .null, iv 0, iv 0, iv 0, iv 0, iv 0, iv 0])), (q1, eI ia 934 zr), (q2, eI ia 3736 zr), (q3, eJ ia 2 zr), (q4, eJ ia 8 zr), (q5, eI ia 80 zr), (q6, eI ia 40 zr), (q7, eI ia 40 zr), (q8, eI ia 40 zr), (q9, eI ia 10 zr), (q10, eI ia 10 zr), (q11, eI ia 10 zr)]) tyX8 tyX8_ok nmX8 0 rfl rfl inlX8 (by decide) wL_X8_41 rfl rfl rfl (by decide +kernel) rfl rfl (Nat.le_of_ble_eq_true rfl) dX8_init_90 rfl ?_
  refine n_aload_n X dX8_init_93 rfl ?_
  refine n_bipush X dX8_init_94 (by decide) ?_
  refine n_newI X (i := 10) (N := 10) (k1 := 12) (n1 := 4920) (by decide) (by omega) rfl rfl (Nat.le_of_ble_eq_true rfl) (Nat.le_of_ble_eq_true rfl) dX8_init_96 (fun q12 => ?_)
  show K ([(h0, .inr (8, [.ref q1, .ref q2, .ref q3, .ref q4, iv 0, .ref q5, iv 0, .ref q6, .ref q7, .ref q8, iv 0, .ref q9, iv 0, .ref q10, .ref q11, .null, iv 0, iv 0, iv 0, iv 0, iv 0, iv 0])), (q1, eI ia 934 zr), (q2, eI ia 3736 zr), (q3, eJ ia 2 zr), (q4, eJ ia 8 zr), (q5, eI ia 80 zr), (q6, eI ia 40 zr), (q7, eI ia 40 zr), (q8, eI ia 40 zr), (q9, eI ia 10 zr), (q10, eI ia 10 zr), (q11, eI ia 10 zr), (q12, eI ia 10 zr)]) 12 4920 _ _ _
  refine n_putF X (ci := 8) (k := 15) (ty := .array .int) (ws' := [(h0, .inr (8, [.ref q1, .ref q2, .ref q3, .ref q4, iv 0, .ref q5, iv 0, .ref q6, .ref q7, .ref q8, iv 0, .ref q9, iv 0, .ref q10, .ref q11, .ref q12, iv 0, iv 0, iv 0, iv 0, iv 0, iv 0])), (q1, eI ia 934 zr), (q2, eI ia 3736 zr), (q3, eJ ia 2 zr), (q4, eJ ia 8 zr), (q5, eI ia 80 zr), (q6, eI ia 40 zr), (q7, eI ia 40 zr), (q8, eI ia 40 zr), (q9, eI ia 10 zr), (q10, eI ia 10 zr), (q11, eI ia 10 zr), (q12, eI ia 10 zr)]) tyX8 tyX8_ok nmX8 0 rfl rfl inlX8 (by decide) wL_X8_44 rfl rfl rfl (by decide +kernel) rfl rfl (Nat.le_of_ble_eq_true rfl) dX8_init_98 rfl ?_
  refine n_aload_n X dX8_init_101 rfl ?_
  refine n_getf X (ci := 8) (k := 0) 0 rfl rfl inlX8 (by decide) wL_X8_7 rfl (v := .ref q1) rfl dX8_init_102 ?_
  refine n_iconst X dX8_init_105 ?_
  refine n_iconst X dX8_init_106 ?_
  refine n_iast X (i := 0) (j := 0) (ws' := [(h0, .inr (8, [.ref q1, .ref q2, .ref q3, .ref q4, iv 0, .ref q5, iv 0, .ref q6, .ref q7, .ref q8, iv 0, .ref q9, iv 0, .ref q10, .ref q11, .ref q12, iv 0, iv 0, iv 0, iv 0, iv 0, iv 0])), (q1, eI ia 934 (upv zr 0 1)), (q2, eI ia 3736 zr), (q3, eJ ia 2 zr), (q4, eJ ia 8 zr), (q5, eI ia 80 zr), (q6, eI ia 40 zr), (q7, eI ia 40 zr), (q8, eI ia 40 zr), (q9, eI ia 10 zr), (q10, eI ia 10 zr), (q11, eI ia 10 zr), (q12, eI ia 10 zr)]) (by decide) (by decide) (by decide) 1 rfl rfl dX8_init_107 ?_
  refine n_aload_n X dX8_init_108 rfl ?_
  refine n_getf X (ci := 8) (k := 0) 0 rfl rfl inlX8 (by decide) wL_X8_7 rfl (v := .ref q1) rfl dX8_init_109 ?_
  refine n_iconst X dX8_init_112 ?_
  refine n_sipush X dX8_init_113 (by decide) ?_
  refine n_iast X (i := 1) (j := 1) (ws' := [(h0, .inr (8, [.ref q1, .ref q2, .ref q3, .ref q4, iv 0, .ref q5, iv 0, .ref q6, .ref q7, .ref q8, iv 0, .ref q9, iv 0, .ref q10, .ref q11, .ref q12, iv 0, iv 0, iv 0, iv 0, iv 0, iv 0])), (q1, eI ia 934 (upv (upv zr 0 1) 1 10000)), (q2, eI ia 3736 zr), (q3, eJ ia 2 zr), (q4, eJ ia 8 zr), (q5, eI ia 80 zr), (q6, eI ia 40 zr), (q7, eI ia 40 zr), (q8, eI ia 40 zr), (q9, eI ia 10 zr), (q10, eI ia 10 zr), (q11, eI ia 10 zr), (q12, eI ia 10 zr)]) (by decide) (by decide) (by decide) 1 rfl rfl dX8_init_116 ?_
  refine n_aload_n X dX8_init_117 rfl ?_
  refine n_getf X (ci := 8) (k := 0) 0 rfl rfl inlX8 (by decide) wL_X8_7 rfl (v := .ref q1) rfl dX8_init_118 ?_
  refine n_bipush X dX8_init_121 (by decide) ?_
  refine n_bipush X dX8_init_123 (by decide) ?_
  refine n_iast X (i := 7) (j := 7) (ws' := [(h0, .inr (8, [.ref q1, .ref q2, .ref q3, .ref q4, iv 0, .ref q5, iv 0, .ref q6, .ref q7, .ref q8, iv 0, .ref q9, iv 0, .ref q10, .ref q11, .ref q12, iv 0, iv 0, iv 0, iv 0, iv 0, iv 0])), (q1, eI ia 934 (upv (upv (upv zr 0 1) 1 10000) 7 50)), (q2, eI ia 3736 zr), (q3, eJ ia 2 zr), (q4, eJ ia 8 zr), (q5, eI ia 80 zr), (q6, eI ia 40 zr), (q7, eI ia 40 zr), (q8, eI ia 40 zr), (q9, eI ia 10 zr), (q10, eI ia 10 zr), (q11, eI ia 10 zr), (q12, eI ia 10 zr)]) (by decide) (by decide) (by decide) 1 rfl rfl dX8_init_125 ?_
  refine n_aload_n X dX8_init_126 rfl ?_
  refine n_getf X (ci := 8) (k := 0) 0 rfl rfl inlX8 (by decide) wL_X8_7 rfl (v := .ref q1) rfl dX8_init_127 ?_
  refine n_bipush X dX8_init_130 (by decide) ?_
  refine n_sipush X dX8_init_132 (by decide) ?_
  refine n_iast X (i := 13) (j := 13) (ws' := [(h0, .inr (8, [.ref q1, .ref q2, .ref q3, .ref q4, iv 0, .ref q5, iv 0, .ref q6, .ref q7, .ref q8, iv 0, .ref q9, iv 0, .ref q10, .ref q11, .ref q12, iv 0, iv 0, iv 0, iv 0, iv 0, iv 0])), (q1, eI ia 934 (upv (upv (upv (upv zr 0 1) 1 10000) 7 50) 13 2000)), (q2, eI ia 3736 zr), (q3, eJ ia 2 zr), (q4, eJ ia 8 zr), (q5, eI ia 80 zr), (q6, eI ia 40 zr), (q7, eI ia 40 zr), (q8, eI ia 40 zr), (q9, eI ia 10 zr), (q10, eI ia 10 zr), (q11, eI ia 10 zr), (q12, eI ia 10 zr)]) (by decide) (by decide) (by decide) 1 rfl rfl dX8_init_135 ?_
  refine n_aload_n X dX8_init_136 rfl ?_
  refine n_getf X (ci := 8) (k := 0) 0 rfl rfl inlX8 (by decide) wL_X8_7 rfl (v := .ref q1) rfl dX8_init_137 ?_
  refine n_bipush X dX8_init_140 (by decide) ?_
  refine n_bipush X dX8_init_142 (by decide) ?_
  refine n_iast X (i := 14) (j := 14) (ws' := [(h0, .inr (8, [.ref q1, .ref q2, .ref q3, .ref q4, iv 0, .ref q5, iv 0, .ref q6, .ref q7, .ref q8, iv 0, .ref q9, iv 0, .ref q10, .ref q11, .ref q12, iv 0, iv 0, iv 0, iv 0, iv 0, iv 0])), (q1, eI ia 934 (upv (upv (upv (upv (upv zr 0 1) 1 10000) 7 50) 13 2000) 14 70)), (q2, eI ia 3736 zr), (q3, eJ ia 2 zr), (q4, eJ ia 8 zr), (q5, eI ia 80 zr), (q6, eI ia 40 zr), (q7, eI ia 40 zr), (q8, eI ia 40 zr), (q9, eI ia 10 zr), (q10, eI ia 10 zr), (q11, eI ia 10 zr), (q12, eI ia 10 zr)]) (by decide) (by decide) (by decide) 1 rfl rfl dX8_init_144 ?_
  refine n_aload_n X dX8_init_145 rfl ?_
  refine n_getf X (ci := 8) (k := 0) 0 rfl rfl inlX8 (by decide) wL_X8_7 rfl (v := .ref q1) rfl dX8_init_146 ?_
  refine n_bipush X dX8_init_149 (by decide) ?_
  refine n_iconst X dX8_init_151 ?_
  refine n_iast X (i := 15) (j := 15) (ws' := [(h0, .inr (8, [.ref q1, .ref q2, .ref q3, .ref q4, iv 0, .ref q5, iv 0, .ref q6, .ref q7, .ref q8, iv 0, .ref q9, iv 0, .ref q10, .ref q11, .ref q12, iv 0, iv 0, iv 0, iv 0, iv 0, iv 0])), (q1, eI ia 934 (upv (upv (upv (upv (upv (upv zr 0 1) 1 10000) 7 50) 13 2000) 14 70) 15 3)), (q2, eI ia 3736 zr), (q3, eJ ia 2 zr), (q4, eJ ia 8 zr), (q5, eI ia 80 zr), (q6, eI ia 40 zr), (q7, eI ia 40 zr), (q8, eI ia 40 zr), (q9, eI ia 10 zr), (q10, eI ia 10 zr), (q11, eI ia 10 zr), (q12, eI ia 10 zr)]) (by decide) (by decide) (by decide) 1 rfl rfl dX8_init_152 ?_
  refine n_aload_n X dX8_init_153 rfl ?_
  refine n_getf X (ci := 8) (k := 0) 0 rfl rfl inlX8 (by decide) wL_X8_7 rfl (v := .ref q1) rfl dX8_init_154 ?_
  refine n_bipush X dX8_init_157 (by decide) ?_
  refine n_sipush X dX8_init_159 (by decide) ?_
  refine n_iast X (i := 16) (j := 16) (ws' := [(h0, .inr (8, [.ref q1, .ref q2, .ref q3, .ref q4, iv 0, .ref q5, iv 0, .ref q6, .ref q7, .ref q8, iv 0, .ref q9, iv 0, .ref q10, .ref q11, .ref q12, iv 0, iv 0, iv 0, iv 0, iv 0, iv 0])), (q1, eI ia 934 (upv (upv (upv (upv (upv (upv (upv zr 0 1) 1 10000) 7 50) 13 2000) 14 70) 15 3) 16 200)), (q2, eI ia 3736 zr), (q3, eJ ia 2 zr), (q4, eJ ia 8 zr), (q5, eI ia 80 zr), (q6, eI ia 40 zr), (q7, eI ia 40 zr), (q8, eI ia 40 zr), (q9, eI ia 10 zr), (q10, eI ia 10 zr), (q11, eI ia 10 zr), (q12, eI ia 10 zr)]) (by decide) (by decide) (by decide) 1 rfl rfl dX8_init_162 ?_
  refine n_aload_n X dX8_init_163 rfl ?_
  refine n_getf X (ci := 8) (k := 0) 0 rfl rfl inlX8 (by decide) wL_X8_7 rfl (v := .ref q1) rfl dX8_init_164 ?_
  refine n_bipush X dX8_init_167 (by decide) ?_
  refine n_sipush X dX8_init_169 (by decide) ?_
  refine n_iast X (i := 17) (j := 17) (ws' := [(h0, .inr (8, [.ref q1, .ref q2, .ref q3, .ref q4, iv 0, .ref q5, iv 0, .ref q6, .ref q7, .ref q8, iv 0, .ref q9, iv 0, .ref q10, .ref q11, .ref q12, iv 0, iv 0, iv 0, iv 0, iv 0, iv 0])), (q1, eI ia 934 (upv (upv (upv (upv (upv (upv (upv (upv zr 0 1) 1 10000) 7 50) 13 2000) 14 70) 15 3) 16 200) 17 3000)), (q2, eI ia 3736 zr), (q3, eJ ia 2 zr), (q4, eJ ia 8 zr), (q5, eI ia 80 zr), (q6, eI ia 40 zr), (q7, eI ia 40 zr), (q8, eI ia 40 zr), (q9, eI ia 10 zr), (q10, eI ia 10 zr), (q11, eI ia 10 zr), (q12, eI ia 10 zr)]) (by decide) (by decide) (by decide) 1 rfl rfl dX8_init_172 ?_
  refine n_aload_n X dX8_init_173 rfl ?_
  refine n_getf X (ci := 8) (k := 0) 0 rfl rfl inlX8 (by decide) wL_X8_7 rfl (v := .ref q1) rfl dX8_init_174 ?_
  refine n_bipush X dX8_init_177 (by decide) ?_
  refine n_iconst X dX8_init_179 ?_
  refine n_iast X (i := 18) (j := 18) (ws' := [(h0, .inr (8, [.ref q1, .ref q2, .ref q3, .ref q4, iv 0, .ref q5, iv 0, .ref q6, .ref q7, .ref q8, iv 0, .ref q9, iv 0, .ref q10, .ref q11, .ref q12, iv 0, iv 0, iv 0, iv 0, iv 0, iv 0])), (q1, eI ia 934 (upv (upv (upv (upv (upv (upv (upv (upv (upv zr 0 1) 1 10000) 7 50) 13 2000) 14 70) 15 3) 16 200) 17 3000) 18 4)), (q2, eI ia 3736 zr), (q3, eJ ia 2 zr), (q4, eJ ia 8 zr), (q5, eI ia 80 zr), (q6, eI ia 40 zr), (q7, eI ia 40 zr), (q8, eI ia 40 zr), (q9, eI ia 10 zr), (q10, eI ia 10 zr), (q11, eI ia 10 zr), (q12, eI ia 10 zr)]) (by decide) (by decide) (by decide) 1 rfl rfl dX8_init_180 ?_
  exact hret _ _ _ _ _ (Nat.le_of_ble_eq_true rfl) (Nat.le_of_ble_eq_true rfl) dX8_init_181 ⟨q1, q2, q3, q4, q5, q6, q7, q8, q9, q10, q11, q12, rfl⟩
