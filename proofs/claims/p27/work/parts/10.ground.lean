/-! ===== contracts: the class's own functions, the ground ===== -/
set_option maxHeartbeats 1000000 in
set_option maxRecDepth 100000 in
theorem c_X7_inRange (l : Launch) (E : wEnv) (σ : Mem) (a b c : Int) (ha : I32 a) (hb : I32 b) (hc : I32 c) : MetC l E yX7_inRange cX7_inRange 3 (some .boolean) 0 0 [iv (a), iv (b), iv (c)] σ (fun v σ' => σ = σ' ∧ (((b ≤ a ∧ a ≤ c) ∧ v = some (iv 1)) ∨ (¬ (b ≤ a ∧ a ≤ c) ∧ v = some (iv 0)))) := by
  refine MetC.of (own := RX7) (by decide) rfl (by simp [Value.category]) (Nat.le_of_ble_eq_true rfl) [some (iv (a)), some (iv (b)), some (iv (c))] rfl (by simp) (fun K X R => ?_)
  refine g_iload_n X dX7_inRange_0 rfl ?_
  refine g_iload_n X dX7_inRange_1 rfl ?_
  refine g_icmp_lt X (tgt := 14) dX7_inRange_2 (by decide) ⟨by omega, by omega⟩ ⟨by omega, by omega⟩ (fun c1 => ?_) (fun c1 => ?_)
  · skip
    refine g_iconst X dX7_inRange_14 ?_
    exact R _ _ _ _ (Or.inl (by decide)) dX7_inRange_15 ⟨rfl, Or.inr ⟨by omega, rfl⟩⟩
  · skip
    refine g_iload_n X dX7_inRange_5 rfl ?_
    refine g_iload_n X dX7_inRange_6 rfl ?_
    refine g_icmp_gt X (tgt := 14) dX7_inRange_7 (by decide) ⟨by omega, by omega⟩ ⟨by omega, by omega⟩ (fun c2 => ?_) (fun c2 => ?_)
    · skip
      refine g_iconst X dX7_inRange_14 ?_
      exact R _ _ _ _ (Or.inl (by decide)) dX7_inRange_15 ⟨rfl, Or.inr ⟨by omega, rfl⟩⟩
    · skip
      refine g_iconst X dX7_inRange_10 ?_
      refine g_goto X (tgt := 15) dX7_inRange_11 (by decide) ?_
      exact R _ _ _ _ (Or.inr (by decide)) dX7_inRange_15 ⟨rfl, Or.inl ⟨by omega, rfl⟩⟩
set_option maxHeartbeats 1000000 in
set_option maxRecDepth 100000 in
theorem c_X7_isFall (l : Launch) (E : wEnv) (σ : Mem) (a : Int) (ha : I32 a) : MetC l E yX7_isFall cX7_isFall 1 (some .boolean) 1 22 [iv (a)] σ (fun v σ' => σ = σ' ∧ ((100 ≤ a ∧ a ≤ 3000) ∧ v = some (iv 1) ∨ ¬ (100 ≤ a ∧ a ≤ 3000) ∧ v = some (iv 0))) := by
  refine MetC.of (own := RX7) (by decide) rfl (by simp [Value.category]) (Nat.le_of_ble_eq_true rfl) [some (iv (a))] rfl (by simp) (fun K X R => ?_)
  refine g_iload_n X dX7_isFall_0 rfl ?_
  refine g_bipush X dX7_isFall_1 (by decide) ?_
  refine g_sipush X dX7_isFall_3 (by decide) ?_
  refine cl_X7_54 X (c_X7_inRange l E σ a 100 3000 ⟨by omega, by omega⟩ ⟨by decide, by decide⟩ ⟨by decide, by decide⟩) ⟨Nat.le_of_ble_eq_true rfl, Nat.le_of_ble_eq_true rfl⟩ rfl (Nat.le_of_ble_eq_true rfl) dX7_isFall_6 rfl (fun v1 τ2 p3 => ?_)
  obtain ⟨rfl, ⟨b4, rfl⟩ | ⟨b4, rfl⟩⟩ := p3
  · skip
    skip
    exact R _ _ _ _ (Or.inr (by decide)) dX7_isFall_9 ⟨rfl, Or.inl ⟨by omega, rfl⟩⟩
  · skip
    skip
    exact R _ _ _ _ (Or.inl (by decide)) dX7_isFall_9 ⟨rfl, Or.inr ⟨by omega, rfl⟩⟩
set_option maxHeartbeats 1000000 in
set_option maxRecDepth 100000 in
theorem c_X7_isSetting (l : Launch) (E : wEnv) (σ : Mem) (a : Int) (ha : I32 a) : MetC l E yX7_isSetting cX7_isSetting 1 (some .boolean) 0 0 [iv (a)] σ (fun v σ' => σ = σ' ∧ ((0 ≤ a ∧ a < 6) ∧ v = some (iv 1) ∨ ¬ (0 ≤ a ∧ a < 6) ∧ v = some (iv 0))) := by
  refine MetC.of (own := RX7) (by decide) rfl (by simp [Value.category]) (Nat.le_of_ble_eq_true rfl) [some (iv (a))] rfl (by simp) (fun K X R => ?_)
  refine g_iload_n X dX7_isSetting_0 rfl ?_
  refine g_if_lt X (tgt := 16) dX7_isSetting_1 (by decide) ⟨by omega, by omega⟩ (fun c1 => ?_) (fun c1 => ?_)
  · skip
    refine g_iconst X dX7_isSetting_16 ?_
    exact R _ _ _ _ (Or.inl (by decide)) dX7_isSetting_17 ⟨rfl, Or.inr ⟨by omega, rfl⟩⟩
  · skip
    refine g_iload_n X dX7_isSetting_4 rfl ?_
    refine g_gets2 X wL_X7_279 dX7_isSetting_5 ?_
    refine g_tlen2 X dX7_isSetting_8 ?_
    refine g_icmp_ge X (tgt := 16) dX7_isSetting_9 (by decide) ⟨by omega, by omega⟩ ⟨by decide, by decide⟩ (fun c2 => ?_) (fun c2 => ?_)
    · skip
      refine g_iconst X dX7_isSetting_16 ?_
      exact R _ _ _ _ (Or.inl (by decide)) dX7_isSetting_17 ⟨rfl, Or.inr ⟨by omega, rfl⟩⟩
    · skip
      refine g_iconst X dX7_isSetting_12 ?_
      refine g_goto X (tgt := 17) dX7_isSetting_13 (by decide) ?_
      exact R _ _ _ _ (Or.inr (by decide)) dX7_isSetting_17 ⟨rfl, Or.inl ⟨by omega, rfl⟩⟩
set_option maxHeartbeats 1000000 in
set_option maxRecDepth 100000 in
theorem c_X7_liftOf (l : Launch) (E : wEnv) (σ : Mem) (a b c : Int) (ha : I32 a) (hb : I32 b) (hc : I32 c) : MetC l E yX7_liftOf cX7_liftOf 3 (some .int) 1 21 [iv (a), iv (b), iv (c)] σ (fun v σ' => v = some (iv (if 0 < a ∧ a < b then min a c else 0)) ∧ σ = σ') := by
  refine MetC.of (own := RX7) (by decide) rfl (by simp [Value.category]) (Nat.le_of_ble_eq_true rfl) [some (iv (a)), some (iv (b)), some (iv (c))] rfl (by simp) (fun K X R => ?_)
  refine g_iload_n X dX7_liftOf_0 rfl ?_
  refine g_if_le X (tgt := 17) dX7_liftOf_1 (by decide) ⟨by omega, by omega⟩ (fun c1 => ?_) (fun c1 => ?_)
  · skip
    refine g_iconst X dX7_liftOf_17 ?_
    exact R _ _ _ _ dX7_liftOf_18 ⟨congrArg (fun z => some (iv z)) (by rw [if_neg (by omega)]), rfl⟩
  · skip
    refine g_iload_n X dX7_liftOf_4 rfl ?_
    refine g_iload_n X dX7_liftOf_5 rfl ?_
    refine g_icmp_ge X (tgt := 17) dX7_liftOf_6 (by decide) ⟨by omega, by omega⟩ ⟨by omega, by omega⟩ (fun c2 => ?_) (fun c2 => ?_)
    · skip
      refine g_iconst X dX7_liftOf_17 ?_
      exact R _ _ _ _ dX7_liftOf_18 ⟨congrArg (fun z => some (iv z)) (by rw [if_neg (by omega)]), rfl⟩
    · skip
      refine g_iload_n X dX7_liftOf_9 rfl ?_
      refine g_iload_n X dX7_liftOf_10 rfl ?_
      refine g_min X wL_X7_282 ⟨by omega, by omega⟩ ⟨by omega, by omega⟩ (Nat.le_of_ble_eq_true rfl) (Nat.le_of_ble_eq_true rfl) dX7_liftOf_11 ?_
      refine g_goto X (tgt := 18) dX7_liftOf_14 (by decide) ?_
      exact R _ _ _ _ dX7_liftOf_18 ⟨congrArg (fun z => some (iv z)) (by rw [if_pos (by omega)]), rfl⟩
set_option maxHeartbeats 1000000 in
set_option maxRecDepth 100000 in
theorem c_X1_layerAt (l : Launch) (E : wEnv) (σ : Mem) (c : Nat) (d : Int) (hK : isK 9 c) (hG : GInv σ c) (hd : I32 d) : MetC l E yX1_layerAt cX1_layerAt 4 (some .int) 0 0 [rv E (c), iv (d)] σ (fun v σ' => v = some (iv (lay (σ (c + 1)) d (σ c 2).toNat 0 0 : Nat)) ∧ σ = σ') := by
  refine MetC.of (own := RX1) (by decide) rfl (by simp [Value.category]) (Nat.le_of_ble_eq_true rfl) [some (rv E (c)), some (iv (d)), none, none] rfl (by simp) (fun K X R => ?_)
  have hg1 := hG.1
  have hg2 := hG.2.1
  refine g_iconst X dX1_layerAt_0 ?_
  refine g_istore_n X (lw := [some (rv E (c)), some (iv (d)), some (iv (0)), none]) dX1_layerAt_1 (by decide) rfl rfl ?_
  refine g_iconst X dX1_layerAt_2 ?_
  refine g_istore_n X (lw := [some (rv E (c)), some (iv (d)), some (iv (0)), some (iv (0))]) dX1_layerAt_3 (by decide) rfl rfl ?_
  have L1 : ∀ (fu : Nat) (b i : Int), (0 ≤ i) → (i ≤ σ c 2) → (0 ≤ b ∧ b ≤ 20000 * i) → (lay (σ (c + 1)) d (σ c 2 - i).toNat i.toNat b = lay (σ (c + 1)) d (σ c 2).toNat 0 0) → σ c 2 - i < (fu : Int) → K σ 4 [some (rv E (c)), some (iv (d)), some (iv (b)), some (iv (i))] [] := by
    intro fu
    induction fu with
    | zero =>
      intro b i j1 j2 j3 j4 hm
      exact absurd hm (by omega)
    | succ fu ih1 =>
      intro b i j1 j2 j3 j4 hm
      have hth := hG.2.2 i.toNat
      have hg1 := hG.1
      have hg2 := hG.2.1
      refine g_iload_n X dX1_layerAt_4 rfl ?_
      refine g_aload_n X dX1_layerAt_5 rfl ?_
      refine gf_X1_22 X hK rfl dX1_layerAt_6 ?_
      refine g_icmp_ge X (tgt := 43) dX1_layerAt_9 (by decide) ⟨by omega, by omega⟩ ⟨by omega, by omega⟩ (fun c2 => ?_) (fun c2 => ?_)
      · skip
        refine g_aload_n X dX1_layerAt_43 rfl ?_
        refine gf_X1_22 X hK rfl dX1_layerAt_44 ?_
        exact R _ _ _ _ dX1_layerAt_47 ⟨congrArg (fun z => some (iv z)) (by rw [← j4, show (σ c 2 - i).toNat = 0 by omega, lay]; omega), rfl⟩
      · skip
        refine g_iload_n X dX1_layerAt_12 rfl ?_
        refine g_aload_n X dX1_layerAt_13 rfl ?_
        refine gf_X1_9 X hK dX1_layerAt_14 ?_
        refine g_alen13 X (gr1 hK) (gr1l hK) dX1_layerAt_17 ?_
        refine g_icmp_ge X (tgt := 43) dX1_layerAt_18 (by decide) ⟨by omega, by omega⟩ ⟨by decide, by decide⟩ (fun c3 => ?_) (fun c3 => ?_)
        · skip
          refine g_aload_n X dX1_layerAt_43 rfl ?_
          refine gf_X1_22 X hK rfl dX1_layerAt_44 ?_
          exact R _ _ _ _ dX1_layerAt_47 ⟨congrArg (fun z => some (iv z)) (by rw [← j4, show (σ c 2 - i).toNat = 0 by omega, lay]; omega), rfl⟩
        · skip
          refine g_iload_n X dX1_layerAt_21 rfl ?_
          refine g_aload_n X dX1_layerAt_22 rfl ?_
          refine gf_X1_9 X hK dX1_layerAt_23 ?_
          refine g_iload_n X dX1_layerAt_26 rfl ?_
          refine g_iald X (gr1 hK) (gr1l hK) (by omega) (by omega) (by decide) rfl dX1_layerAt_27 ?_
          refine g_iadd X dX1_layerAt_28 ?_
          refine g_istore_n X (lw := [some (rv E (c)), some (iv (d)), some (iv (b + (σ ((c + 1)) ((i).toNat)))), some (iv (i))]) dX1_layerAt_29 (by decide) rfl rfl ?_
          refine g_iload_n X dX1_layerAt_30 rfl ?_
          refine g_iload_n X dX1_layerAt_31 rfl ?_
          refine g_icmp_ge X (tgt := 37) dX1_layerAt_32 (by decide) ⟨by omega, by omega⟩ ⟨by omega, by omega⟩ (fun c4 => ?_) (fun c4 => ?_)
          · skip
            refine g_iinc X (lw := [some (rv E (c)), some (iv (d)), some (iv (b + (σ ((c + 1)) ((i).toNat)))), some (iv (i + 1))]) dX1_layerAt_37 rfl (by decide) rfl rfl ?_
            refine g_goto X (tgt := 4) dX1_layerAt_40 (by decide) ?_
            exact ih1  (b + (σ ((c + 1)) ((i).toNat))) (i + 1) (by omega) (by omega) (by omega) (by rw [← j4, show (σ c 2 - i).toNat = (σ c 2 - (i + 1)).toNat + 1 by omega, lay, if_neg (by omega), show (i + 1).toNat = i.toNat + 1 by omega]) (by omega)
          · skip
            refine g_iload_n X dX1_layerAt_35 rfl ?_
            exact R _ _ _ _ dX1_layerAt_36 ⟨congrArg (fun z => some (iv z)) (by rw [← j4, show (σ c 2 - i).toNat = (σ c 2 - i - 1).toNat + 1 by omega, lay, if_pos (by omega)]; omega), rfl⟩
  exact L1 _  0 0 (by omega) (by omega) (by omega) (by simp) (by exact Int.lt_toNat_succ _)
set_option maxHeartbeats 1000000 in
set_option maxRecDepth 100000 in
theorem c_X1_resistanceOf (l : Launch) (E : wEnv) (σ : Mem) (c : Nat) (k : Int) (hK : isK 9 c) (hG : GInv σ c) (hk : I32 k) : MetC l E yX1_resistanceOf cX1_resistanceOf 2 (some .int) 0 0 [rv E (c), iv (k)] σ (fun v σ' => v = some (iv (if 0 ≤ k ∧ k < σ c 2 then σ (c + 2) k.toNat else 2000)) ∧ σ = σ') := by
  refine MetC.of (own := RX1) (by decide) rfl (by simp [Value.category]) (Nat.le_of_ble_eq_true rfl) [some (rv E (c)), some (iv (k))] rfl (by simp) (fun K X R => ?_)
  have hg1 := hG.1
  have hg2 := hG.2.1
  refine g_iload_n X dX1_resistanceOf_0 rfl ?_
  refine g_if_lt X (tgt := 30) dX1_resistanceOf_1 (by decide) ⟨by omega, by omega⟩ (fun c1 => ?_) (fun c1 => ?_)
  · skip
    refine g_sipush X dX1_resistanceOf_30 (by decide) ?_
    exact R _ _ _ _ dX1_resistanceOf_33 ⟨congrArg (fun z => some (iv z)) (by rw [if_neg (by omega)]), rfl⟩
  · skip
    refine g_iload_n X dX1_resistanceOf_4 rfl ?_
    refine g_aload_n X dX1_resistanceOf_5 rfl ?_
    refine gf_X1_22 X hK rfl dX1_resistanceOf_6 ?_
    refine g_icmp_ge X (tgt := 30) dX1_resistanceOf_9 (by decide) ⟨by omega, by omega⟩ ⟨by omega, by omega⟩ (fun c2 => ?_) (fun c2 => ?_)
    · skip
      refine g_sipush X dX1_resistanceOf_30 (by decide) ?_
      exact R _ _ _ _ dX1_resistanceOf_33 ⟨congrArg (fun z => some (iv z)) (by rw [if_neg (by omega)]), rfl⟩
    · skip
      refine g_iload_n X dX1_resistanceOf_12 rfl ?_
      refine g_aload_n X dX1_resistanceOf_13 rfl ?_
      refine gf_X1_15 X hK dX1_resistanceOf_14 ?_
      refine g_alen13 X (gr2 hK) (gr2l hK) dX1_resistanceOf_17 ?_
      refine g_icmp_ge X (tgt := 30) dX1_resistanceOf_18 (by decide) ⟨by omega, by omega⟩ ⟨by decide, by decide⟩ (fun c3 => ?_) (fun c3 => ?_)
      · skip
        refine g_sipush X dX1_resistanceOf_30 (by decide) ?_
        exact R _ _ _ _ dX1_resistanceOf_33 ⟨congrArg (fun z => some (iv z)) (by rw [if_neg (by omega)]), rfl⟩
      · skip
        refine g_aload_n X dX1_resistanceOf_21 rfl ?_
        refine gf_X1_15 X hK dX1_resistanceOf_22 ?_
        refine g_iload_n X dX1_resistanceOf_25 rfl ?_
        refine g_iald X (gr2 hK) (gr2l hK) (by omega) (by omega) (by decide) rfl dX1_resistanceOf_26 ?_
        refine g_goto X (tgt := 33) dX1_resistanceOf_27 (by decide) ?_
        exact R _ _ _ _ dX1_resistanceOf_33 ⟨congrArg (fun z => some (iv z)) (by rw [if_pos (by omega)]), rfl⟩
set_option maxHeartbeats 1000000 in
set_option maxRecDepth 100000 in
theorem c_X1_thicknessOf (l : Launch) (E : wEnv) (σ : Mem) (c : Nat) (k : Int) (hK : isK 9 c) (hk : I32 k) : MetC l E yX1_thicknessOf cX1_thicknessOf 2 (some .int) 0 0 [rv E (c), iv (k)] σ (fun v σ' => v = some (iv (if 0 ≤ k ∧ k < 6 then σ (c + 1) k.toNat else 0)) ∧ σ = σ') := by
  refine MetC.of (own := RX1) (by decide) rfl (by simp [Value.category]) (Nat.le_of_ble_eq_true rfl) [some (rv E (c)), some (iv (k))] rfl (by simp) (fun K X R => ?_)
  refine g_iload_n X dX1_thicknessOf_0 rfl ?_
  refine g_if_lt X (tgt := 22) dX1_thicknessOf_1 (by decide) ⟨by omega, by omega⟩ (fun c1 => ?_) (fun c1 => ?_)
  · skip
    refine g_iconst X dX1_thicknessOf_22 ?_
    exact R _ _ _ _ dX1_thicknessOf_23 ⟨congrArg (fun z => some (iv z)) (by rw [if_neg (by omega)]), rfl⟩
  · skip
    refine g_iload_n X dX1_thicknessOf_4 rfl ?_
    refine g_aload_n X dX1_thicknessOf_5 rfl ?_
    refine gf_X1_9 X hK dX1_thicknessOf_6 ?_
    refine g_alen13 X (gr1 hK) (gr1l hK) dX1_thicknessOf_9 ?_
    refine g_icmp_ge X (tgt := 22) dX1_thicknessOf_10 (by decide) ⟨by omega, by omega⟩ ⟨by decide, by decide⟩ (fun c2 => ?_) (fun c2 => ?_)
    · skip
      refine g_iconst X dX1_thicknessOf_22 ?_
      exact R _ _ _ _ dX1_thicknessOf_23 ⟨congrArg (fun z => some (iv z)) (by rw [if_neg (by omega)]), rfl⟩
    · skip
      refine g_aload_n X dX1_thicknessOf_13 rfl ?_
      refine gf_X1_9 X hK dX1_thicknessOf_14 ?_
      refine g_iload_n X dX1_thicknessOf_17 rfl ?_
      refine g_iald X (gr1 hK) (gr1l hK) (by omega) (by omega) (by decide) rfl dX1_thicknessOf_18 ?_
      refine g_goto X (tgt := 23) dX1_thicknessOf_19 (by decide) ?_
      exact R _ _ _ _ dX1_thicknessOf_23 ⟨congrArg (fun z => some (iv z)) (by rw [if_pos (by omega)]), rfl⟩
set_option maxHeartbeats 1000000 in
set_option maxRecDepth 100000 in
theorem c_X1_topOf (l : Launch) (E : wEnv) (σ : Mem) (c : Nat) (k : Int) (hK : isK 9 c) (hk0 : 0 ≤ k) (hk : k ≤ 6) : MetC l E yX1_topOf cX1_topOf 4 (some .int) 0 0 [rv E (c), iv (k)] σ (fun v σ' => v = some (iv (sumT (σ (c + 1)) k.toNat)) ∧ σ = σ') := by
  refine MetC.of (own := RX1) (by decide) rfl (by simp [Value.category]) (Nat.le_of_ble_eq_true rfl) [some (rv E (c)), some (iv (k)), none, none] rfl (by simp) (fun K X R => ?_)
  refine g_iconst X dX1_topOf_0 ?_
  refine g_istore_n X (lw := [some (rv E (c)), some (iv (k)), some (iv (0)), none]) dX1_topOf_1 (by decide) rfl rfl ?_
  refine g_iconst X dX1_topOf_2 ?_
  refine g_istore_n X (lw := [some (rv E (c)), some (iv (k)), some (iv (0)), some (iv (0))]) dX1_topOf_3 (by decide) rfl rfl ?_
  have L1 : ∀ (fu : Nat) (b i : Int), (0 ≤ i) → (i ≤ k) → (b = sumT (σ (c + 1)) i.toNat) → k - i < (fu : Int) → K σ 4 [some (rv E (c)), some (iv (k)), some (iv (b)), some (iv (i))] [] := by
    intro fu
    induction fu with
    | zero =>
      intro b i j1 j2 j3 hm
      exact absurd hm (by omega)
    | succ fu ih1 =>
      intro b i j1 j2 j3 hm
      refine g_iload_n X dX1_topOf_4 rfl ?_
      refine g_iload_n X dX1_topOf_5 rfl ?_
      refine g_icmp_ge X (tgt := 33) dX1_topOf_6 (by decide) ⟨by omega, by omega⟩ ⟨by omega, by omega⟩ (fun c2 => ?_) (fun c2 => ?_)
      · skip
        refine g_iload_n X dX1_topOf_33 rfl ?_
        exact R _ _ _ _ dX1_topOf_34 ⟨congrArg (fun z => some (iv z)) (by rw [j3, show k.toNat = i.toNat by omega]), rfl⟩
      · skip
        refine g_iload_n X dX1_topOf_9 rfl ?_
        refine g_aload_n X dX1_topOf_10 rfl ?_
        refine gf_X1_9 X hK dX1_topOf_11 ?_
        refine g_alen13 X (gr1 hK) (gr1l hK) dX1_topOf_14 ?_
        refine g_icmp_ge X (tgt := 33) dX1_topOf_15 (by decide) ⟨by omega, by omega⟩ ⟨by decide, by decide⟩ (fun c3 => ?_) (fun c3 => ?_)
        · skip
          refine g_iload_n X dX1_topOf_33 rfl ?_
          exact R _ _ _ _ dX1_topOf_34 ⟨congrArg (fun z => some (iv z)) (by rw [j3, show k.toNat = i.toNat by omega]), rfl⟩
        · skip
          refine g_iload_n X dX1_topOf_18 rfl ?_
          refine g_aload_n X dX1_topOf_19 rfl ?_
          refine gf_X1_9 X hK dX1_topOf_20 ?_
          refine g_iload_n X dX1_topOf_23 rfl ?_
          refine g_iald X (gr1 hK) (gr1l hK) (by omega) (by omega) (by decide) rfl dX1_topOf_24 ?_
          refine g_iadd X dX1_topOf_25 ?_
          refine g_istore_n X (lw := [some (rv E (c)), some (iv (k)), some (iv (b + (σ ((c + 1)) ((i).toNat)))), some (iv (i))]) dX1_topOf_26 (by decide) rfl rfl ?_
          refine g_iinc X (lw := [some (rv E (c)), some (iv (k)), some (iv (b + (σ ((c + 1)) ((i).toNat)))), some (iv (i + 1))]) dX1_topOf_27 rfl (by decide) rfl rfl ?_
          refine g_goto X (tgt := 4) dX1_topOf_30 (by decide) ?_
          exact ih1  (b + (σ ((c + 1)) ((i).toNat))) (i + 1) (by omega) (by omega) (by rw [show (i + 1).toNat = i.toNat + 1 by omega, sumT, ← j3]) (by omega)
  exact L1 _  0 0 (by omega) (by omega) (by rfl) (by exact Int.lt_toNat_succ _)
set_option maxHeartbeats 1000000 in
set_option maxRecDepth 100000 in
theorem c_X1_resistanceAt (l : Launch) (E : wEnv) (σ : Mem) (c : Nat) (d : Int) (hK : isK 9 c) (hG : GInv σ c) (hd : I32 d) : MetC l E yX1_resistanceAt cX1_resistanceAt 2 (some .int) 1 23 [rv E (c), iv (d)] σ (fun v σ' => v = some (iv (if 0 ≤ ((lay (σ (c + 1)) d (σ c 2).toNat 0 0 : Nat) : Int) ∧ ((lay (σ (c + 1)) d (σ c 2).toNat 0 0 : Nat) : Int) < σ c 2 then σ (c + 2) ((lay (σ (c + 1)) d (σ c 2).toNat 0 0 : Nat) : Int).toNat else 2000)) ∧ σ = σ') := by
  refine MetC.of (own := RX1) (by decide) rfl (by simp [Value.category]) (Nat.le_of_ble_eq_true rfl) [some (rv E (c)), some (iv (d))] rfl (by simp) (fun K X R => ?_)
  have hg1 := hG.1
  have hg2 := hG.2.1
  refine g_aload_n X dX1_resistanceAt_0 rfl ?_
  refine g_aload_n X dX1_resistanceAt_1 rfl ?_
  refine g_iload_n X dX1_resistanceAt_2 rfl ?_
  refine cl_X1_32 X (c_X1_layerAt l E σ c d hK hG ⟨by omega, by omega⟩) hK ⟨Nat.le_of_ble_eq_true rfl, Nat.le_of_ble_eq_true rfl⟩ rfl (Nat.le_of_ble_eq_true rfl) dX1_resistanceAt_3 rfl (fun v1 τ2 p3 => ?_)
  obtain ⟨rfl, rfl⟩ := p3
  have hly3 := lay_le (σ (c + 1)) d (σ c 2).toNat 0 0
  refine cl_X1_36 X (c_X1_resistanceOf l E σ c ((lay (σ (c + 1)) d (σ c 2).toNat 0 0 : Nat)) hK hG ⟨by omega, by omega⟩) hK ⟨Nat.le_of_ble_eq_true rfl, Nat.le_of_ble_eq_true rfl⟩ rfl (Nat.le_of_ble_eq_true rfl) dX1_resistanceAt_6 rfl (fun v4 τ5 p6 => ?_)
  obtain ⟨rfl, rfl⟩ := p6
  exact R _ _ _ _ dX1_resistanceAt_9 ⟨congrArg (fun z => some (iv z)) (by rfl), rfl⟩
