/-! ===== contracts: the public methods ===== -/
set_option maxHeartbeats 1000000 in
set_option maxRecDepth 100000 in
theorem c_X7_stratum (l : Launch) (E : wEnv) (σ : Mem) (s : St) (N : Int) (hC : CRep σ s N) (hN : N + 600 ≤ 400000) (k t h : Int) (hk : I32 k) (ht : I32 t) (hh : I32 h) : MetC l E yX7_stratum cX7_stratum 4 (some .int) 4 127 [rv E (0), iv (k), iv (t), iv (h)] σ (fun v σ' => v = some (iv (stratumX s k t h).1) ∧ CRep σ' (stratumX s k t h).2 (N + 600) ∧ frM σ σ') := by
  refine MetC.of (own := RX7) (by decide) rfl (by simp [Value.category]) (Nat.le_of_ble_eq_true rfl) [some (rv E (0)), some (iv (k)), some (iv (t)), some (iv (h))] rfl (by simp) (fun K X R => ?_)
  have hS := hC.1
  have hR := hC.2.1
  have hH := hC.2.2.1
  have hI := hC.2.2.2.1
  have hT := hC.2.2.2.2
  have r19 := hR.2.2.2.2.1
  have r0 := hR.1
  have rN := hR.2.2.2.2.2.1
  refine g_iload_n X dX7_stratum_0 rfl ?_
  refine g_iconst X dX7_stratum_1 ?_
  refine g_aload_n X dX7_stratum_2 rfl ?_
  refine gf_X7_10 X fk0 dX7_stratum_3 ?_
  refine gf_X7_44 X now_k dX7_stratum_6 ?_
  refine gf_X7_48 X (st1 now_k) (hS.1) dX7_stratum_9 ?_
  refine cl_X7_54 X (c_X7_inRange l E σ k 0 (s.1 0) ⟨by omega, by omega⟩ ⟨by decide, by decide⟩ ⟨by omega, by omega⟩) ⟨Nat.le_of_ble_eq_true rfl, Nat.le_of_ble_eq_true rfl⟩ rfl (Nat.le_of_ble_eq_true rfl) dX7_stratum_12 rfl (fun v1 τ2 p3 => ?_)
  obtain ⟨rfl, ⟨b4, rfl⟩ | ⟨b4, rfl⟩⟩ := p3
  · skip
    skip
    refine g_if_eq X (tgt := 41) dX7_stratum_15 (by decide) ⟨by decide, by decide⟩ (fun q => absurd q (by decide)) (fun _ => ?_)
    refine g_iload_n X dX7_stratum_18 rfl ?_
    refine g_bipush X dX7_stratum_19 (by decide) ?_
    refine g_sipush X dX7_stratum_21 (by decide) ?_
    refine cl_X7_54 X (c_X7_inRange l E σ t 100 20000 ⟨by omega, by omega⟩ ⟨by decide, by decide⟩ ⟨by decide, by decide⟩) ⟨Nat.le_of_ble_eq_true rfl, Nat.le_of_ble_eq_true rfl⟩ rfl (Nat.le_of_ble_eq_true rfl) dX7_stratum_24 rfl (fun v5 τ6 p7 => ?_)
    obtain ⟨rfl, ⟨b8, rfl⟩ | ⟨b8, rfl⟩⟩ := p7
    · skip
      skip
      refine g_if_eq X (tgt := 41) dX7_stratum_27 (by decide) ⟨by decide, by decide⟩ (fun q => absurd q (by decide)) (fun _ => ?_)
      refine g_iload_n X dX7_stratum_30 rfl ?_
      refine g_iconst X dX7_stratum_31 ?_
      refine g_sipush X dX7_stratum_32 (by decide) ?_
      refine cl_X7_54 X (c_X7_inRange l E σ h 1 500 ⟨by omega, by omega⟩ ⟨by decide, by decide⟩ ⟨by decide, by decide⟩) ⟨Nat.le_of_ble_eq_true rfl, Nat.le_of_ble_eq_true rfl⟩ rfl (Nat.le_of_ble_eq_true rfl) dX7_stratum_35 rfl (fun v9 τ10 p11 => ?_)
      obtain ⟨rfl, ⟨b12, rfl⟩ | ⟨b12, rfl⟩⟩ := p11
      · skip
        skip
        refine g_if_ne X (tgt := 43) dX7_stratum_38 (by decide) ⟨by decide, by decide⟩ (fun _ => ?_) (fun q => absurd q (by decide))
        refine g_iload_n X dX7_stratum_43 rfl ?_
        refine g_bipush X dX7_stratum_44 (by decide) ?_
        refine g_icmp_lt X (tgt := 52) dX7_stratum_46 (by decide) ⟨by omega, by omega⟩ ⟨by decide, by decide⟩ (fun c13 => ?_) (fun c13 => ?_)
        · skip
          refine g_aload_n X dX7_stratum_52 rfl ?_
          refine gf_X7_19 X fk0 dX7_stratum_53 ?_
          refine g_aload_n X dX7_stratum_56 rfl ?_
          refine gf_X7_10 X fk0 dX7_stratum_57 ?_
          refine cl_X7_58 X (c_X2_remember l E σ s.2.1 s.2.2.1 s.1 N hH hI hS hR) fk1 ⟨Nat.le_of_ble_eq_true rfl, Nat.le_of_ble_eq_true rfl⟩ rfl (Nat.le_of_ble_eq_true rfl) dX7_stratum_60 rfl (fun v14 τ15 p16 => ?_)
          obtain ⟨rfl, hH60, hS60, hF60⟩ := p16
          refine g_aload_n X dX7_stratum_63 rfl ?_
          refine gf_X7_10 X fk0 dX7_stratum_64 ?_
          refine gf_X7_44 X now_k dX7_stratum_67 ?_
          refine g_iload_n X dX7_stratum_70 rfl ?_
          refine g_iload_n X dX7_stratum_71 rfl ?_
          refine g_iload_n X dX7_stratum_72 rfl ?_
          refine cl_X7_62 X (c_X1_put l E τ15 ((25 + 1)) k t h (st1 now_k) (by omega) (by omega) (by have q := hS60.1; omega)) (st1 now_k) ⟨Nat.le_of_ble_eq_true rfl, Nat.le_of_ble_eq_true rfl⟩ rfl (Nat.le_of_ble_eq_true rfl) dX7_stratum_73 rfl (fun v17 τ18 p19 => ?_)
          obtain ⟨rfl, rfl⟩ := p19
          refine g_aload_n X dX7_stratum_76 rfl ?_
          refine gf_X7_10 X fk0 dX7_stratum_77 ?_
          refine gf_X7_44 X now_k dX7_stratum_80 ?_
          refine gf_X7_48 X (st1 now_k) rfl dX7_stratum_83 ?_
          exact R _ _ _ _ dX7_stratum_86 (by have hk : ((k.toNat : Nat) : Int) = k := (by omega); have hp := put_rep hS60 hR (k := k.toNat) (t := t) (h := h) (by omega); rw [hk] at hp; have hi := put_inv hR (k := k.toNat) (t := t) (h := h) (by omega) (by omega) (by omega) (by omega); unfold stratumX; rw [if_pos (by omega), if_neg (by omega)]; exact ⟨congrArg (fun z => some (iv z)) hp.1, hC.chg hH60 hF60 hp (hi.mono (by omega) hN) frB_put hN⟩)
        · skip
          refine g_bipush X dX7_stratum_49 (by decide) ?_
          exact R _ _ _ _ dX7_stratum_51 (by unfold stratumX; rw [if_pos (by omega), if_pos (by omega)]; exact ⟨rfl, hC.mono (by omega) hN, frM.refl⟩)
      · skip
        skip
        refine g_if_ne X (tgt := 43) dX7_stratum_38 (by decide) ⟨by decide, by decide⟩ (fun q => absurd q (by decide)) (fun _ => ?_)
        refine g_iconst X dX7_stratum_41 ?_
        exact R _ _ _ _ dX7_stratum_42 (by unfold stratumX; rw [if_neg (by omega)]; exact ⟨rfl, hC.mono (by omega) hN, frM.refl⟩)
    · skip
      skip
      refine g_if_eq X (tgt := 41) dX7_stratum_27 (by decide) ⟨by decide, by decide⟩ (fun _ => ?_) (fun q => absurd q (by decide))
      refine g_iconst X dX7_stratum_41 ?_
      exact R _ _ _ _ dX7_stratum_42 (by unfold stratumX; rw [if_neg (by omega)]; exact ⟨rfl, hC.mono (by omega) hN, frM.refl⟩)
  · skip
    skip
    refine g_if_eq X (tgt := 41) dX7_stratum_15 (by decide) ⟨by decide, by decide⟩ (fun _ => ?_) (fun q => absurd q (by decide))
    refine g_iconst X dX7_stratum_41 ?_
    exact R _ _ _ _ dX7_stratum_42 (by unfold stratumX; rw [if_neg (by omega)]; exact ⟨rfl, hC.mono (by omega) hN, frM.refl⟩)
set_option maxHeartbeats 1000000 in
set_option maxRecDepth 100000 in
theorem c_X7_cut (l : Launch) (E : wEnv) (σ : Mem) (s : St) (N : Int) (hC : CRep σ s N) (hN : N + 600 ≤ 400000) : MetC l E yX7_cut cX7_cut 1 (some .int) 4 127 [rv E (0)] σ (fun v σ' => v = some (iv (cutX s).1) ∧ CRep σ' (cutX s).2 (N + 600) ∧ frM σ σ') := by
  refine MetC.of (own := RX7) (by decide) rfl (by simp [Value.category]) (Nat.le_of_ble_eq_true rfl) [some (rv E (0))] rfl (by simp) (fun K X R => ?_)
  have hS := hC.1
  have hR := hC.2.1
  have hH := hC.2.2.1
  have hI := hC.2.2.2.1
  have hT := hC.2.2.2.2
  have r19 := hR.2.2.2.2.1
  have r0 := hR.1
  have rN := hR.2.2.2.2.2.1
  refine g_aload_n X dX7_cut_0 rfl ?_
  refine gf_X7_10 X fk0 dX7_cut_1 ?_
  refine gf_X7_44 X now_k dX7_cut_4 ?_
  refine gf_X7_48 X (st1 now_k) (hS.1) dX7_cut_7 ?_
  refine g_iconst X dX7_cut_10 ?_
  refine g_icmp_gt X (tgt := 17) dX7_cut_11 (by decide) ⟨by omega, by omega⟩ ⟨by decide, by decide⟩ (fun c1 => ?_) (fun c1 => ?_)
  · skip
    refine g_aload_n X dX7_cut_17 rfl ?_
    refine gf_X7_19 X fk0 dX7_cut_18 ?_
    refine g_aload_n X dX7_cut_21 rfl ?_
    refine gf_X7_10 X fk0 dX7_cut_22 ?_
    refine cl_X7_58 X (c_X2_remember l E σ s.2.1 s.2.2.1 s.1 N hH hI hS hR) fk1 ⟨Nat.le_of_ble_eq_true rfl, Nat.le_of_ble_eq_true rfl⟩ rfl (Nat.le_of_ble_eq_true rfl) dX7_cut_25 rfl (fun v2 τ3 p4 => ?_)
    obtain ⟨rfl, hH25, hS25, hF25⟩ := p4
    refine g_aload_n X dX7_cut_28 rfl ?_
    refine gf_X7_10 X fk0 dX7_cut_29 ?_
    refine gf_X7_44 X now_k dX7_cut_32 ?_
    refine cl_X7_66 X (c_X1_removeLast l E τ3 ((25 + 1)) (st1 now_k)) (st1 now_k) ⟨Nat.le_of_ble_eq_true rfl, Nat.le_of_ble_eq_true rfl⟩ rfl (Nat.le_of_ble_eq_true rfl) dX7_cut_35 rfl (fun v5 τ6 p7 => ?_)
    obtain ⟨rfl, rfl⟩ := p7
    rw [show τ3 ((25 + 1)) 2 = s.1 0 from (hS25.1)]
    refine g_aload_n X dX7_cut_38 rfl ?_
    refine gf_X7_10 X fk0 dX7_cut_39 ?_
    refine gf_X7_44 X now_k dX7_cut_42 ?_
    refine gf_X7_48 X (st1 now_k) (up_same _ _ _ _) dX7_cut_45 ?_
    exact R _ _ _ _ dX7_cut_48 (by have hp := cut_rep hS25 hR; unfold cutX; rw [if_neg (by omega)]; exact ⟨rfl, hC.chg hH25 hF25 hp ((cut_inv hR (by omega)).mono (by omega) hN) (frB.refl.up (by omega) (by omega)) hN⟩)
  · skip
    refine g_bipush X dX7_cut_14 (by decide) ?_
    exact R _ _ _ _ dX7_cut_16 (by unfold cutX; rw [if_pos (by omega)]; exact ⟨rfl, hC.mono (by omega) hN, frM.refl⟩)
set_option maxHeartbeats 1000000 in
set_option maxRecDepth 100000 in
theorem c_X7_ground (l : Launch) (E : wEnv) (σ : Mem) (s : St) (N : Int) (hC : CRep σ s N) (hN : N + 600 ≤ 400000) (k w : Int) (hk : I32 k) (hw : I32 w) : MetC l E yX7_ground cX7_ground 3 (some .int) 2 47 [rv E (0), iv (k), iv (w)] σ (fun v σ' => v = some (iv (groundX s k w)) ∧ σ = σ') := by
  refine MetC.of (own := RX7) (by decide) rfl (by simp [Value.category]) (Nat.le_of_ble_eq_true rfl) [some (rv E (0)), some (iv (k)), some (iv (w))] rfl (by simp) (fun K X R => ?_)
  have hS := hC.1
  have hR := hC.2.1
  have hH := hC.2.2.1
  have hI := hC.2.2.2.1
  have hT := hC.2.2.2.2
  have r19 := hR.2.2.2.2.1
  have r0 := hR.1
  have rN := hR.2.2.2.2.2.1
  refine g_iload_n X dX7_ground_0 rfl ?_
  refine g_iconst X dX7_ground_1 ?_
  refine g_aload_n X dX7_ground_2 rfl ?_
  refine gf_X7_10 X fk0 dX7_ground_3 ?_
  refine gf_X7_44 X now_k dX7_ground_6 ?_
  refine gf_X7_48 X (st1 now_k) (hS.1) dX7_ground_9 ?_
  refine g_iconst X dX7_ground_12 ?_
  refine g_isub X dX7_ground_13 ?_
  refine cl_X7_54 X (c_X7_inRange l E σ k 0 (s.1 0 - 1) ⟨by omega, by omega⟩ ⟨by decide, by decide⟩ ⟨by omega, by omega⟩) ⟨Nat.le_of_ble_eq_true rfl, Nat.le_of_ble_eq_true rfl⟩ rfl (Nat.le_of_ble_eq_true rfl) dX7_ground_14 rfl (fun v1 τ2 p3 => ?_)
  obtain ⟨rfl, ⟨b4, rfl⟩ | ⟨b4, rfl⟩⟩ := p3
  · skip
    skip
    refine g_if_ne X (tgt := 22) dX7_ground_17 (by decide) ⟨by decide, by decide⟩ (fun _ => ?_) (fun q => absurd q (by decide))
    refine g_iload_n X dX7_ground_22 rfl ?_
    rcases (show w = 0 ∨ w = 1 ∨ w = 2 ∨ w = 3 ∨ (w < 0 ∨ 3 < w) by omega) with c5 | c5 | c5 | c5 | c5
    · skip
      refine g_tblIn X (tgt := 52) (off := 29) dX7_ground_23 ⟨by omega, by omega⟩ (by omega) (by omega) (by rw [c5]; decide) (by decide) ?_
      refine g_aload_n X dX7_ground_52 rfl ?_
      refine gf_X7_10 X fk0 dX7_ground_53 ?_
      refine gf_X7_44 X now_k dX7_ground_56 ?_
      refine g_iload_n X dX7_ground_59 rfl ?_
      refine cl_X7_69 X (c_X1_thicknessOf l E σ ((25 + 1)) k (st1 now_k) ⟨by omega, by omega⟩) (st1 now_k) ⟨Nat.le_of_ble_eq_true rfl, Nat.le_of_ble_eq_true rfl⟩ rfl (Nat.le_of_ble_eq_true rfl) dX7_ground_60 rfl (fun v6 τ7 p8 => ?_)
      obtain ⟨rfl, rfl⟩ := p8
      exact R _ _ _ _ dX7_ground_63 ⟨congrArg (fun z => some (iv z)) (by unfold groundX; rw [if_pos (by omega), if_pos (by omega), if_pos (by omega)]; exact hS.2.1 _ (by omega)), rfl⟩
    · skip
      refine g_tblIn X (tgt := 64) (off := 41) dX7_ground_23 ⟨by omega, by omega⟩ (by omega) (by omega) (by rw [c5]; decide) (by decide) ?_
      refine g_aload_n X dX7_ground_64 rfl ?_
      refine gf_X7_10 X fk0 dX7_ground_65 ?_
      refine gf_X7_44 X now_k dX7_ground_68 ?_
      refine g_iload_n X dX7_ground_71 rfl ?_
      refine cl_X7_73 X (c_X1_resistanceOf l E σ ((25 + 1)) k (st1 now_k) (hS.g hR) ⟨by omega, by omega⟩) (st1 now_k) ⟨Nat.le_of_ble_eq_true rfl, Nat.le_of_ble_eq_true rfl⟩ rfl (Nat.le_of_ble_eq_true rfl) dX7_ground_72 rfl (fun v9 τ10 p11 => ?_)
      obtain ⟨rfl, rfl⟩ := p11
      exact R _ _ _ _ dX7_ground_75 ⟨congrArg (fun z => some (iv z)) (by unfold groundX; have q := hS.1; rw [if_pos (by omega), if_pos (by omega), if_neg (by omega), if_pos (by omega)]; exact hS.2.2.1 _ (by omega)), rfl⟩
    · skip
      refine g_tblIn X (tgt := 76) (off := 53) dX7_ground_23 ⟨by omega, by omega⟩ (by omega) (by omega) (by rw [c5]; decide) (by decide) ?_
      refine g_aload_n X dX7_ground_76 rfl ?_
      refine gf_X7_10 X fk0 dX7_ground_77 ?_
      refine gf_X7_44 X now_k dX7_ground_80 ?_
      refine g_iload_n X dX7_ground_83 rfl ?_
      refine cl_X7_76 X (c_X1_topOf l E σ ((25 + 1)) k (st1 now_k) (by omega) (by omega)) (st1 now_k) ⟨Nat.le_of_ble_eq_true rfl, Nat.le_of_ble_eq_true rfl⟩ rfl (Nat.le_of_ble_eq_true rfl) dX7_ground_84 rfl (fun v12 τ13 p14 => ?_)
      obtain ⟨rfl, rfl⟩ := p14
      exact R _ _ _ _ dX7_ground_87 ⟨congrArg (fun z => some (iv z)) (by unfold groundX; rw [if_pos (by omega), if_neg (by omega), if_neg (by omega), if_pos (by omega)]; exact sumT_congr _ (fun j hj => hS.2.1 j (by omega))), rfl⟩
    · skip
      refine g_tblIn X (tgt := 88) (off := 65) dX7_ground_23 ⟨by omega, by omega⟩ (by omega) (by omega) (by rw [c5]; decide) (by decide) ?_
      refine g_aload_n X dX7_ground_88 rfl ?_
      refine gf_X7_10 X fk0 dX7_ground_89 ?_
      refine g_iload_n X dX7_ground_92 rfl ?_
      refine cl_X7_79 X (c_X6_feetIn l E σ 25 s.1 N now_k hS hR k  ⟨by omega, by omega⟩) now_k ⟨Nat.le_of_ble_eq_true rfl, Nat.le_of_ble_eq_true rfl⟩ rfl (Nat.le_of_ble_eq_true rfl) dX7_ground_93 rfl (fun v15 τ16 p17 => ?_)
      obtain ⟨rfl, rfl⟩ := p17
      have cb93 := cnt_bd (fun j => decide (((layR s.1 (s.1 (24 + 91 * j + 3)) : Nat) : Int) = k)) (s.1 19).toNat
      have r1993 := hR.2.2.2.2.1
      exact R _ _ _ _ dX7_ground_96 ⟨congrArg (fun z => some (iv z)) (by unfold groundX; rw [if_pos (by omega), if_neg (by omega), if_neg (by omega), if_neg (by omega)]; rfl), rfl⟩
    · skip
      refine g_tblOut X (tgt := 97) dX7_ground_23 ⟨by omega, by omega⟩ c5 (by decide) ?_
      refine g_iconst X dX7_ground_97 ?_
      exact R _ _ _ _ dX7_ground_98 ⟨congrArg (fun z => some (iv z)) (by unfold groundX; rw [if_neg (by omega)]), rfl⟩
  · skip
    skip
    refine g_if_ne X (tgt := 22) dX7_ground_17 (by decide) ⟨by decide, by decide⟩ (fun q => absurd q (by decide)) (fun _ => ?_)
    refine g_iconst X dX7_ground_20 ?_
    exact R _ _ _ _ dX7_ground_21 ⟨congrArg (fun z => some (iv z)) (by unfold groundX; rw [if_neg (by omega)]), rfl⟩
set_option maxHeartbeats 1000000 in
set_option maxRecDepth 100000 in
theorem c_X7_at (l : Launch) (E : wEnv) (σ : Mem) (s : St) (N : Int) (hC : CRep σ s N) (hN : N + 600 ≤ 400000) (d : Int) (hd : I32 d) : MetC l E yX7_at cX7_at 3 (some .int) 1 23 [rv E (0), iv (d)] σ (fun v σ' => v = some (iv (atX s d)) ∧ σ = σ') := by
  refine MetC.of (own := RX7) (by decide) rfl (by simp [Value.category]) (Nat.le_of_ble_eq_true rfl) [some (rv E (0)), some (iv (d)), none] rfl (by simp) (fun K X R => ?_)
  have hS := hC.1
  have hR := hC.2.1
  have hH := hC.2.2.1
  have hI := hC.2.2.2.1
  have hT := hC.2.2.2.2
  have r19 := hR.2.2.2.2.1
  have r0 := hR.1
  have rN := hR.2.2.2.2.2.1
  refine g_iload_n X dX7_at_0 rfl ?_
  refine g_iconst X dX7_at_1 ?_
  refine g_ldc X (n := 200000) dX7_at_2 wK_X7_82 (by decide) ?_
  refine cl_X7_54 X (c_X7_inRange l E σ d 0 200000 ⟨by omega, by omega⟩ ⟨by decide, by decide⟩ ⟨by decide, by decide⟩) ⟨Nat.le_of_ble_eq_true rfl, Nat.le_of_ble_eq_true rfl⟩ rfl (Nat.le_of_ble_eq_true rfl) dX7_at_4 rfl (fun v1 τ2 p3 => ?_)
  obtain ⟨rfl, ⟨b4, rfl⟩ | ⟨b4, rfl⟩⟩ := p3
  · skip
    skip
    refine g_if_ne X (tgt := 12) dX7_at_7 (by decide) ⟨by decide, by decide⟩ (fun _ => ?_) (fun q => absurd q (by decide))
    refine g_aload_n X dX7_at_12 rfl ?_
    refine gf_X7_10 X fk0 dX7_at_13 ?_
    refine gf_X7_44 X now_k dX7_at_16 ?_
    refine g_iload_n X dX7_at_19 rfl ?_
    refine cl_X7_83 X (cs_X1_layerAt l E σ 25 s.1 N now_k hS hR d ⟨by omega, by omega⟩) (st1 now_k) ⟨Nat.le_of_ble_eq_true rfl, Nat.le_of_ble_eq_true rfl⟩ rfl (Nat.le_of_ble_eq_true rfl) dX7_at_20 rfl (fun v5 τ6 p7 => ?_)
    obtain ⟨rfl, rfl⟩ := p7
    have hb20 := layR_le s.1 d
    refine g_istore_n X (lw := [some (rv E (0)), some (iv (d)), some (iv (((layR s.1 d : Nat) : Int)))]) dX7_at_23 (by decide) rfl rfl ?_
    refine g_iload_n X dX7_at_24 rfl ?_
    refine g_aload_n X dX7_at_25 rfl ?_
    refine gf_X7_10 X fk0 dX7_at_26 ?_
    refine gf_X7_44 X now_k dX7_at_29 ?_
    refine gf_X7_48 X (st1 now_k) (hS.1) dX7_at_32 ?_
    refine g_icmp_ge X (tgt := 42) dX7_at_35 (by decide) ⟨by omega, by omega⟩ ⟨by omega, by omega⟩ (fun c8 => ?_) (fun c8 => ?_)
    · skip
      refine g_bipush X dX7_at_42 (by decide) ?_
      exact R _ _ _ _ dX7_at_44 ⟨congrArg (fun z => some (iv z)) (by unfold atX; rw [if_pos (by omega), if_neg (by omega)]), rfl⟩
    · skip
      refine g_iload_n X dX7_at_38 rfl ?_
      refine g_goto X (tgt := 44) dX7_at_39 (by decide) ?_
      exact R _ _ _ _ dX7_at_44 ⟨congrArg (fun z => some (iv z)) (by unfold atX; rw [if_pos (by omega), if_pos (by omega)]), rfl⟩
  · skip
    skip
    refine g_if_ne X (tgt := 12) dX7_at_7 (by decide) ⟨by decide, by decide⟩ (fun q => absurd q (by decide)) (fun _ => ?_)
    refine g_iconst X dX7_at_10 ?_
    exact R _ _ _ _ dX7_at_11 ⟨congrArg (fun z => some (iv z)) (by unfold atX; rw [if_neg (by omega)]), rfl⟩
set_option maxHeartbeats 1000000 in
set_option maxRecDepth 100000 in
theorem c_X7_set (l : Launch) (E : wEnv) (σ : Mem) (s : St) (N : Int) (hC : CRep σ s N) (hN : N + 600 ≤ 400000) (k x : Int) (hk : I32 k) (hx : I32 x) : MetC l E yX7_set cX7_set 4 (some .int) 4 127 [rv E (0), iv (k), iv (x)] σ (fun v σ' => v = some (iv (setX s k x).1) ∧ CRep σ' (setX s k x).2 (N + 600) ∧ frM σ σ') := by
  refine MetC.of (own := RX7) (by decide) rfl (by simp [Value.category]) (Nat.le_of_ble_eq_true rfl) [some (rv E (0)), some (iv (k)), some (iv (x)), none] rfl (by simp) (fun K X R => ?_)
  have hS := hC.1
  have hR := hC.2.1
  have hH := hC.2.2.1
  have hI := hC.2.2.2.1
  have hT := hC.2.2.2.2
  have r19 := hR.2.2.2.2.1
  have r0 := hR.1
  have rN := hR.2.2.2.2.2.1
  have lb : 0 ≤ k → k < 6 → I32 (leastS.getD k.toNat 0) ∧ I32 (mostS.getD k.toNat 0) := fun h0 h1 => by rcases (show k = 0 ∨ k = 1 ∨ k = 2 ∨ k = 3 ∨ k = 4 ∨ k = 5 by omega) with rfl | rfl | rfl | rfl | rfl | rfl <;> exact ⟨⟨by decide, by decide⟩, ⟨by decide, by decide⟩⟩
  refine g_iload_n X dX7_set_0 rfl ?_
  refine cl_X7_86 X (c_X7_isSetting l E σ k ⟨by omega, by omega⟩) ⟨Nat.le_of_ble_eq_true rfl, Nat.le_of_ble_eq_true rfl⟩ rfl (Nat.le_of_ble_eq_true rfl) dX7_set_1 rfl (fun v1 τ2 p3 => ?_)
  obtain ⟨rfl, ⟨b4, rfl⟩ | ⟨b4, rfl⟩⟩ := p3
  · skip
    skip
    refine g_if_eq X (tgt := 24) dX7_set_4 (by decide) ⟨by decide, by decide⟩ (fun q => absurd q (by decide)) (fun _ => ?_)
    refine g_iload_n X dX7_set_7 rfl ?_
    refine g_gets0 X wL_X7_90 dX7_set_8 ?_
    refine g_iload_n X dX7_set_11 rfl ?_
    refine g_tld0 X (by omega) (by omega) dX7_set_12 ?_
    refine g_gets1 X wL_X7_94 dX7_set_13 ?_
    refine g_iload_n X dX7_set_16 rfl ?_
    refine g_tld1 X (by omega) (by omega) dX7_set_17 ?_
    refine cl_X7_54 X (c_X7_inRange l E σ x (leastS.getD (k).toNat 0) (mostS.getD (k).toNat 0) ⟨by omega, by omega⟩ (lb (by omega) (by omega)).1 (lb (by omega) (by omega)).2) ⟨Nat.le_of_ble_eq_true rfl, Nat.le_of_ble_eq_true rfl⟩ rfl (Nat.le_of_ble_eq_true rfl) dX7_set_18 rfl (fun v5 τ6 p7 => ?_)
    obtain ⟨rfl, ⟨b8, rfl⟩ | ⟨b8, rfl⟩⟩ := p7
    · skip
      skip
      refine g_if_ne X (tgt := 26) dX7_set_21 (by decide) ⟨by decide, by decide⟩ (fun _ => ?_) (fun q => absurd q (by decide))
      refine g_aload_n X dX7_set_26 rfl ?_
      refine gf_X7_19 X fk0 dX7_set_27 ?_
      refine g_aload_n X dX7_set_30 rfl ?_
      refine gf_X7_10 X fk0 dX7_set_31 ?_
      refine cl_X7_58 X (c_X2_remember l E σ s.2.1 s.2.2.1 s.1 N hH hI hS hR) fk1 ⟨Nat.le_of_ble_eq_true rfl, Nat.le_of_ble_eq_true rfl⟩ rfl (Nat.le_of_ble_eq_true rfl) dX7_set_34 rfl (fun v9 τ10 p11 => ?_)
      obtain ⟨rfl, hH34, hS34, hF34⟩ := p11
      refine g_aload_n X dX7_set_37 rfl ?_
      refine gf_X7_10 X fk0 dX7_set_38 ?_
      refine g_iload_n X dX7_set_41 rfl ?_
      refine cl_X7_97 X (cs_X6_setting l E τ10 25 s.1 N now_k hS34 hR k (13 + (k).toNat) (by omega) rfl) now_k ⟨Nat.le_of_ble_eq_true rfl, Nat.le_of_ble_eq_true rfl⟩ rfl (Nat.le_of_ble_eq_true rfl) dX7_set_42 rfl (fun v12 τ13 p14 => ?_)
      obtain ⟨rfl, rfl⟩ := p14
      refine g_istore_n X (lw := [some (rv E (0)), some (iv (k)), some (iv (x)), some (iv (s.1 (13 + (k).toNat)))]) dX7_set_45 (by decide) rfl rfl ?_
      refine g_aload_n X dX7_set_46 rfl ?_
      refine gf_X7_10 X fk0 dX7_set_47 ?_
      refine g_iload_n X dX7_set_50 rfl ?_
      refine g_iload_n X dX7_set_51 rfl ?_
      refine cl_X7_100 X (c_X6_changeSetting l E τ10 25 k x now_k (by omega) (by omega)) now_k ⟨Nat.le_of_ble_eq_true rfl, Nat.le_of_ble_eq_true rfl⟩ rfl (Nat.le_of_ble_eq_true rfl) dX7_set_52 rfl (fun v15 τ16 p17 => ?_)
      obtain ⟨rfl, rfl⟩ := p17
      refine g_iload_n X dX7_set_55 rfl ?_
      exact R _ _ _ _ dX7_set_56 (by have hp := sett_rep hS34 hR (k := k.toNat) (v := x) (by omega); have hi := sett_inv hR (k := k.toNat) (v := x) (by omega) (by omega); unfold setX; rw [if_pos (by omega)]; exact ⟨rfl, hC.chg hH34 hF34 hp (hi.mono (by omega) hN) (frB.refl.up (by omega) (by omega)) hN⟩)
    · skip
      skip
      refine g_if_ne X (tgt := 26) dX7_set_21 (by decide) ⟨by decide, by decide⟩ (fun q => absurd q (by decide)) (fun _ => ?_)
      refine g_iconst X dX7_set_24 ?_
      exact R _ _ _ _ dX7_set_25 (by unfold setX; rw [if_neg (by omega)]; exact ⟨rfl, hC.mono (by omega) hN, frM.refl⟩)
  · skip
    skip
    refine g_if_eq X (tgt := 24) dX7_set_4 (by decide) ⟨by decide, by decide⟩ (fun _ => ?_) (fun q => absurd q (by decide))
    refine g_iconst X dX7_set_24 ?_
    exact R _ _ _ _ dX7_set_25 (by unfold setX; rw [if_neg (by omega)]; exact ⟨rfl, hC.mono (by omega) hN, frM.refl⟩)
set_option maxHeartbeats 1000000 in
set_option maxRecDepth 100000 in
theorem c_X7_undo (l : Launch) (E : wEnv) (σ : Mem) (s : St) (N : Int) (hC : CRep σ s N) (hN : N + 600 ≤ 400000) : MetC l E yX7_undo cX7_undo 1 (some .int) 4 128 [rv E (0)] σ (fun v σ' => v = some (iv (undoX s).1) ∧ CRep σ' (undoX s).2 (N + 600) ∧ frM σ σ') := by
  refine MetC.of (own := RX7) (by decide) rfl (by simp [Value.category]) (Nat.le_of_ble_eq_true rfl) [some (rv E (0))] rfl (by simp) (fun K X R => ?_)
  have hS := hC.1
  have hR := hC.2.1
  have hH := hC.2.2.1
  have hI := hC.2.2.2.1
  have hT := hC.2.2.2.2
  have r19 := hR.2.2.2.2.1
  have r0 := hR.1
  have rN := hR.2.2.2.2.2.1
  have h4 := hH.1
  refine g_aload_n X dX7_undo_0 rfl ?_
  refine gf_X7_19 X fk0 dX7_undo_1 ?_
  refine gf_X7_115 X fk1 hH.2.1 dX7_undo_4 ?_
  refine g_if_gt X (tgt := 13) dX7_undo_7 (by decide) ⟨by omega, by omega⟩ (fun c1 => ?_) (fun c1 => ?_)
  · skip
    refine g_aload_n X dX7_undo_13 rfl ?_
    refine gf_X7_19 X fk0 dX7_undo_14 ?_
    refine g_aload_n X dX7_undo_17 rfl ?_
    refine gf_X7_10 X fk0 dX7_undo_18 ?_
    refine cl_X7_222 X (c_X2_restore l E σ s.2.1 (s.2.2.1 - 1) N (by rw [Nat.sub_add_cancel (by omega)]; exact hH) (by rw [Nat.sub_add_cancel (by omega)]; exact hI)) fk1 ⟨Nat.le_of_ble_eq_true rfl, Nat.le_of_ble_eq_true rfl⟩ rfl (Nat.le_of_ble_eq_true rfl) dX7_undo_21 rfl (fun v2 τ3 p4 => ?_)
    obtain ⟨rfl, hH21, hS21, hF21⟩ := p4
    refine g_aload_n X dX7_undo_24 rfl ?_
    refine gf_X7_19 X fk0 dX7_undo_25 ?_
    refine gf_X7_115 X fk1 (hH21.2.1) dX7_undo_28 ?_
    exact R _ _ _ _ dX7_undo_31 (by unfold undoX; rw [if_neg (by omega)]; exact ⟨rfl, ⟨hS21, (hI _ (by omega)).mono (by omega) hN, hH21, fun i (hi : i < s.2.2.1 - 1) => (hI i (by omega)).mono (by omega) hN, hT.fr (hF21 3 (by omega) (by omega)) (hF21 4 (by omega) (by omega))⟩, fun x h1 h2 => hF21 x (by omega) (by omega)⟩)
  · skip
    refine g_bipush X dX7_undo_10 (by decide) ?_
    exact R _ _ _ _ dX7_undo_12 (by unfold undoX; rw [if_pos (by omega)]; exact ⟨rfl, hC.mono (by omega) hN, frM.refl⟩)
set_option maxHeartbeats 1000000 in
set_option maxRecDepth 100000 in
theorem c_X0_append (l : Launch) (E : wEnv) (σ : Mem) (c : Int) (h0 : 0 ≤ σ 3 1) (h1 : σ 3 1 < 80) (hc0 : 0 ≤ c) (hc1 : c < 65536) : MetC l E yX0_append cX0_append 2 none 0 0 [rv E (3), iv (c)] σ (fun v σ' => v = none ∧ up (up σ 4 (σ 3 1).toNat c) 3 1 (σ 3 1 + 1) = σ') := by
  refine MetC.of (own := RX0) (by decide) rfl (by simp [Value.category]) (Nat.le_of_ble_eq_true rfl) [some (rv E (3)), some (iv (c))] rfl (by simp) (fun K X R => ?_)
  refine g_aload_n X dX0_append_0 rfl ?_
  refine gf_X0_15 X fk3 rfl dX0_append_1 ?_
  refine g_if_lt X (tgt := 39) dX0_append_4 (by decide) ⟨by omega, by omega⟩ (fun c1 => ?_) (fun c1 => ?_)
  · skip
    exact R _ _ _ dX0_append_39 ⟨rfl, by first | (exfalso; omega) | rfl⟩
  · skip
    refine g_aload_n X dX0_append_7 rfl ?_
    refine gf_X0_15 X fk3 rfl dX0_append_8 ?_
    refine g_aload_n X dX0_append_11 rfl ?_
    refine gf_X0_9 X fk3 dX0_append_12 ?_
    refine g_alen4 X fk4 fl4 dX0_append_15 ?_
    refine g_icmp_ge X (tgt := 39) dX0_append_16 (by decide) ⟨by omega, by omega⟩ ⟨by decide, by decide⟩ (fun c2 => ?_) (fun c2 => ?_)
    · skip
      exact R _ _ _ dX0_append_39 ⟨rfl, by first | (exfalso; omega) | rfl⟩
    · skip
      refine g_aload_n X dX0_append_19 rfl ?_
      refine gf_X0_9 X fk3 dX0_append_20 ?_
      refine g_aload_n X dX0_append_23 rfl ?_
      refine gf_X0_15 X fk3 rfl dX0_append_24 ?_
      refine g_iload_n X dX0_append_27 rfl ?_
      refine g_cast X fk4 fl4 (by omega) (by omega) (by decide) (by omega) (by omega) dX0_append_28 ?_
      refine g_aload_n X dX0_append_29 rfl ?_
      refine g_dup X dX0_append_30 rfl ?_
      refine gf_X0_15 X fk3 (up_ne1 (by omega) rfl) dX0_append_31 ?_
      refine g_iconst X dX0_append_34 ?_
      refine g_iadd X dX0_append_35 ?_
      refine pf_X0_15 X fk3 dX0_append_36 ?_
      exact R _ _ _ dX0_append_39 ⟨rfl, by first | (exfalso; omega) | rfl⟩
set_option maxHeartbeats 1000000 in
set_option maxRecDepth 100000 in
theorem c_X0_empty (l : Launch) (E : wEnv) (σ : Mem) : MetC l E yX0_empty cX0_empty 1 none 0 0 [rv E (3)] σ (fun v σ' => v = none ∧ up σ 3 1 0 = σ') := by
  refine MetC.of (own := RX0) (by decide) rfl (by simp [Value.category]) (Nat.le_of_ble_eq_true rfl) [some (rv E (3))] rfl (by simp) (fun K X R => ?_)
  refine g_aload_n X dX0_empty_0 rfl ?_
  refine g_iconst X dX0_empty_1 ?_
  refine pf_X0_15 X fk3 dX0_empty_2 ?_
  exact R _ _ _ dX0_empty_5 ⟨rfl, rfl⟩
theorem type_rep {σ : Mem} {s : St} {N : Int} (hC : CRep σ s N) {c : Int} (hc : 32 ≤ c ∧ c ≤ 126) (hL : s.2.2.2.1 < 80) (hN : N + 600 ≤ 400000) : CRep (up (up σ 4 ((s.2.2.2.1 : Nat) : Int).toNat c) 3 1 (s.2.2.2.1 + 1)) (s.1, s.2.1, s.2.2.1, s.2.2.2.1 + 1, fun j => if j = s.2.2.2.1 then c else s.2.2.2.2 j) (N + 600) ∧ frM σ (up (up σ 4 ((s.2.2.2.1 : Nat) : Int).toNat c) 3 1 (s.2.2.2.1 + 1)) := by
  obtain ⟨c1, c2, c3, c4, t1, t2, t3⟩ := hC
  have fr : ∀ x, x ≠ 3 → x ≠ 4 → (up (up σ 4 ((s.2.2.2.1 : Nat) : Int).toNat c) 3 1 (s.2.2.2.1 + 1)) x = σ x := fun x h3 h4 => by rw [up_neC _ _ h3, up_neC _ _ h4]
  refine ⟨⟨c1.fr c2 (fun x _ _ => fr x (by omega) (by omega)), c2.mono (by omega) hN, c3.fr c4 (fun x _ => fr x (by omega) (by omega)), c4.mono (by omega) hN, ?_⟩, fun x _ _ => fr x (by omega) (by omega)⟩
  refine ⟨by show s.2.2.2.1 + 1 ≤ 80; omega, by rw [up_same]; rfl, fun j hj => ?_⟩
  have hj2 : j < s.2.2.2.1 + 1 := hj
  show (up (up σ 4 ((s.2.2.2.1 : Nat) : Int).toNat c) 3 1 (s.2.2.2.1 + 1)) 4 j = (if j = s.2.2.2.1 then c else s.2.2.2.2 j) ∧ 32 ≤ (if j = s.2.2.2.1 then c else s.2.2.2.2 j) ∧ (if j = s.2.2.2.1 then c else s.2.2.2.2 j) ≤ 126
  rw [up_ne _ _ (Or.inl (by decide)), Int.toNat_natCast]
  by_cases h : j = s.2.2.2.1
  · subst h
    rw [if_pos rfl, up_same]
    exact ⟨rfl, hc⟩
  · rw [if_neg h, up_ne _ _ (Or.inr h)]
    exact t3 j (by omega)
theorem clear_rep {σ : Mem} {s : St} {N : Int} (hC : CRep σ s N) (hN : N + 600 ≤ 400000) : CRep (up σ 3 1 0) (s.1, s.2.1, s.2.2.1, 0, s.2.2.2.2) (N + 600) ∧ frM σ (up σ 3 1 0) := by
  obtain ⟨c1, c2, c3, c4, t1, t2, t3⟩ := hC
  have fr : ∀ x, x ≠ 3 → (up σ 3 1 0) x = σ x := fun x h3 => by rw [up_neC _ _ h3]
  exact ⟨⟨c1.fr c2 (fun x _ _ => fr x (by omega)), c2.mono (by omega) hN, c3.fr c4 (fun x _ => fr x (by omega)), c4.mono (by omega) hN, by show (0 : Nat) ≤ 80; omega, by rw [up_same]; rfl, fun j hj => absurd hj (Nat.not_lt_zero j)⟩, fun x _ _ => fr x (by omega)⟩
set_option maxHeartbeats 1000000 in
set_option maxRecDepth 100000 in
theorem c_X7_type (l : Launch) (E : wEnv) (σ : Mem) (s : St) (N : Int) (hC : CRep σ s N) (hN : N + 600 ≤ 400000) (c : Int) (hc : I32 c) : MetC l E yX7_type cX7_type 2 (some .int) 1 22 [rv E (0), iv (c)] σ (fun v σ' => v = some (iv (typeX s c).1) ∧ CRep σ' (typeX s c).2 (N + 600) ∧ frM σ σ') := by
  refine MetC.of (own := RX7) (by decide) rfl (by simp [Value.category]) (Nat.le_of_ble_eq_true rfl) [some (rv E (0)), some (iv (c))] rfl (by simp) (fun K X R => ?_)
  have hS := hC.1
  have hR := hC.2.1
  have hH := hC.2.2.1
  have hI := hC.2.2.2.1
  have hT := hC.2.2.2.2
  have r19 := hR.2.2.2.2.1
  have r0 := hR.1
  have rN := hR.2.2.2.2.2.1
  have hL := hT.1
  refine g_iload_n X dX7_type_0 rfl ?_
  refine g_bipush X dX7_type_1 (by decide) ?_
  refine g_bipush X dX7_type_3 (by decide) ?_
  refine cl_X7_54 X (c_X7_inRange l E σ c 32 126 ⟨by omega, by omega⟩ ⟨by decide, by decide⟩ ⟨by decide, by decide⟩) ⟨Nat.le_of_ble_eq_true rfl, Nat.le_of_ble_eq_true rfl⟩ rfl (Nat.le_of_ble_eq_true rfl) dX7_type_5 rfl (fun v1 τ2 p3 => ?_)
  obtain ⟨rfl, ⟨b4, rfl⟩ | ⟨b4, rfl⟩⟩ := p3
  · skip
    skip
    refine g_if_ne X (tgt := 13) dX7_type_8 (by decide) ⟨by decide, by decide⟩ (fun _ => ?_) (fun q => absurd q (by decide))
    refine g_aload_n X dX7_type_13 rfl ?_
    refine gf_X7_26 X fk0 dX7_type_14 ?_
    refine gf_X7_118 X fk3 hT.2.1 dX7_type_17 ?_
    refine g_bipush X dX7_type_20 (by decide) ?_
    refine g_icmp_lt X (tgt := 28) dX7_type_22 (by decide) ⟨by omega, by omega⟩ ⟨by decide, by decide⟩ (fun c5 => ?_) (fun c5 => ?_)
    · skip
      refine g_aload_n X dX7_type_28 rfl ?_
      refine gf_X7_26 X fk0 dX7_type_29 ?_
      refine g_iload_n X dX7_type_32 rfl ?_
      refine g_i2c X (by omega) (by omega) dX7_type_33 ?_
      refine cl_X7_248 X (c_X0_append l E σ c (by rw [hT.2.1]; omega) (by rw [hT.2.1]; omega) (by omega) (by omega)) fk3 ⟨Nat.le_of_ble_eq_true rfl, Nat.le_of_ble_eq_true rfl⟩ rfl (Nat.le_of_ble_eq_true rfl) dX7_type_34 rfl (fun v6 τ7 p8 => ?_)
      obtain ⟨rfl, rfl⟩ := p8
      rw [hT.2.1]
      refine g_aload_n X dX7_type_37 rfl ?_
      refine gf_X7_26 X fk0 dX7_type_38 ?_
      refine gf_X7_118 X fk3 (up_same _ _ _ _) dX7_type_41 ?_
      exact R _ _ _ _ dX7_type_44 (by unfold typeX; rw [if_pos (by omega), if_neg (by omega)]; exact ⟨rfl, type_rep hC (by omega) (by omega) hN⟩)
    · skip
      refine g_bipush X dX7_type_25 (by decide) ?_
      exact R _ _ _ _ dX7_type_27 (by unfold typeX; rw [if_pos (by omega), if_pos (by omega)]; exact ⟨rfl, hC.mono (by omega) hN, frM.refl⟩)
  · skip
    skip
    refine g_if_ne X (tgt := 13) dX7_type_8 (by decide) ⟨by decide, by decide⟩ (fun q => absurd q (by decide)) (fun _ => ?_)
    refine g_iconst X dX7_type_11 ?_
    exact R _ _ _ _ dX7_type_12 (by unfold typeX; rw [if_neg (by omega)]; exact ⟨rfl, hC.mono (by omega) hN, frM.refl⟩)
set_option maxHeartbeats 1000000 in
set_option maxRecDepth 100000 in
theorem c_X7_clearText (l : Launch) (E : wEnv) (σ : Mem) (s : St) (N : Int) (hC : CRep σ s N) (hN : N + 600 ≤ 400000) : MetC l E yX7_clearText cX7_clearText 2 (some .int) 1 20 [rv E (0)] σ (fun v σ' => v = some (iv (clearX s).1) ∧ CRep σ' (clearX s).2 (N + 600) ∧ frM σ σ') := by
  refine MetC.of (own := RX7) (by decide) rfl (by simp [Value.category]) (Nat.le_of_ble_eq_true rfl) [some (rv E (0)), none] rfl (by simp) (fun K X R => ?_)
  have hS := hC.1
  have hR := hC.2.1
  have hH := hC.2.2.1
  have hI := hC.2.2.2.1
  have hT := hC.2.2.2.2
  have r19 := hR.2.2.2.2.1
  have r0 := hR.1
  have rN := hR.2.2.2.2.2.1
  have hL := hT.1
  refine g_aload_n X dX7_clearText_0 rfl ?_
  refine gf_X7_26 X fk0 dX7_clearText_1 ?_
  refine gf_X7_118 X fk3 hT.2.1 dX7_clearText_4 ?_
  refine g_istore_n X (lw := [some (rv E (0)), some (iv (s.2.2.2.1))]) dX7_clearText_7 (by decide) rfl rfl ?_
  refine g_aload_n X dX7_clearText_8 rfl ?_
  refine gf_X7_26 X fk0 dX7_clearText_9 ?_
  refine cl_X7_252 X (c_X0_empty l E σ) fk3 ⟨Nat.le_of_ble_eq_true rfl, Nat.le_of_ble_eq_true rfl⟩ rfl (Nat.le_of_ble_eq_true rfl) dX7_clearText_12 rfl (fun v1 τ2 p3 => ?_)
  obtain ⟨rfl, rfl⟩ := p3
  refine g_iload_n X dX7_clearText_15 rfl ?_
  exact R _ _ _ _ dX7_clearText_16 ⟨rfl, clear_rep hC hN⟩
