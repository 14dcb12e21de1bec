/-! ===== contracts: the pile ===== -/
def mLift (σ : Mem) (c : Nat) (z : Int) : Mem := if 1 ≤ z then up (up (up σ c 6 (σ c 6 - z)) c 11 (σ c 11 + z)) c 9 1 else σ
def mPress (σ : Mem) (c : Nat) (z : Int) : Mem := up (up (up σ c 6 (σ c 6 + z)) c 12 (σ c 12 + z)) c 9 0
def mKeep (σ : Mem) (c : Nat) (s l : Int) : Mem := if 40 ≤ σ c 2 then up (up (up (up (cpy (cpy σ (c + 1) 1 (c + 1) 0 39) (c + 2) 1 (c + 2) 0 39) c 2 39) (c + 1) 39 s) (c + 2) 39 l) c 2 (39 + 1) else up (up (up σ (c + 1) (σ c 2).toNat s) (c + 2) (σ c 2).toNat l) c 2 (σ c 2 + 1)
def mBlow0 (σ : Mem) (c : Nat) (s l : Int) : Mem := up (up (up (up (up σ c 6 (σ c 6 + s)) c 10 (σ c 10 + s)) c 7 (σ c 7 + 1)) c 8 l) c 9 0
def mBlow (σ : Mem) (c : Nat) (s l : Int) : Mem := mKeep (mBlow0 σ c s l) c s l
def mStart (σ : Mem) (c : Nat) (x y n : Int) : Mem := up (up (up (up (up (up (up (up (up (up (up σ c 3 x) c 4 y) c 5 n) c 2 0) c 6 0) c 7 0) c 8 0) c 9 0) c 10 0) c 11 0) c 12 0
def mCopyP (σ : Mem) (c d : Nat) : Mem := fun x j => if x = c ∧ 2 ≤ j ∧ j ≤ 12 then σ d j else if x = c + 1 ∧ j < 40 then σ (d + 1) j else if x = c + 2 ∧ j < 40 then σ (d + 2) j else σ x j
set_option maxHeartbeats 1000000 in
set_option maxRecDepth 100000 in
theorem c_X4_left (l : Launch) (E : wEnv) (σ : Mem) (c : Nat) (hK : isK 11 c) : MetC l E yX4_left cX4_left 1 (some .int) 0 0 [rv E (c)] σ (fun v σ' => v = some (iv (σ c 5 - σ c 6)) ∧ σ = σ') := by
  refine MetC.of (own := RX4) (by decide) rfl (by simp [Value.category]) (Nat.le_of_ble_eq_true rfl) [some (rv E (c))] rfl (by simp) (fun K X R => ?_)
  refine g_aload_n X dX4_left_0 rfl ?_
  refine gf_X4_25 X hK rfl dX4_left_1 ?_
  refine g_aload_n X dX4_left_4 rfl ?_
  refine gf_X4_31 X hK rfl dX4_left_5 ?_
  refine g_isub X dX4_left_8 ?_
  exact R _ _ _ _ dX4_left_9 ⟨congrArg (fun z => some (iv z)) (by rfl), rfl⟩
set_option maxHeartbeats 1000000 in
set_option maxRecDepth 100000 in
theorem c_X4_keptSet (l : Launch) (E : wEnv) (σ : Mem) (c : Nat) (k : Int) (hK : isK 11 c) (hk : I32 k) : MetC l E yX4_keptSet cX4_keptSet 2 (some .int) 0 0 [rv E (c), iv (k)] σ (fun v σ' => v = some (iv (if 0 ≤ k ∧ k < 40 then σ (c + 1) k.toNat else 0)) ∧ σ = σ') := by
  refine MetC.of (own := RX4) (by decide) rfl (by simp [Value.category]) (Nat.le_of_ble_eq_true rfl) [some (rv E (c)), some (iv (k))] rfl (by simp) (fun K X R => ?_)
  refine g_iload_n X dX4_keptSet_0 rfl ?_
  refine g_if_lt X (tgt := 22) dX4_keptSet_1 (by decide) ⟨by omega, by omega⟩ (fun c1 => ?_) (fun c1 => ?_)
  · skip
    refine g_iconst X dX4_keptSet_22 ?_
    exact R _ _ _ _ dX4_keptSet_23 ⟨congrArg (fun z => some (iv z)) (by rw [if_neg (by omega)]), rfl⟩
  · skip
    refine g_iload_n X dX4_keptSet_4 rfl ?_
    refine g_aload_n X dX4_keptSet_5 rfl ?_
    refine gf_X4_9 X hK dX4_keptSet_6 ?_
    refine g_alen13 X (pl1 hK) (pl1l hK) dX4_keptSet_9 ?_
    refine g_icmp_ge X (tgt := 22) dX4_keptSet_10 (by decide) ⟨by omega, by omega⟩ ⟨by decide, by decide⟩ (fun c2 => ?_) (fun c2 => ?_)
    · skip
      refine g_iconst X dX4_keptSet_22 ?_
      exact R _ _ _ _ dX4_keptSet_23 ⟨congrArg (fun z => some (iv z)) (by rw [if_neg (by omega)]), rfl⟩
    · skip
      refine g_aload_n X dX4_keptSet_13 rfl ?_
      refine gf_X4_9 X hK dX4_keptSet_14 ?_
      refine g_iload_n X dX4_keptSet_17 rfl ?_
      refine g_iald X (pl1 hK) (pl1l hK) (by omega) (by omega) (by decide) rfl dX4_keptSet_18 ?_
      refine g_goto X (tgt := 23) dX4_keptSet_19 (by decide) ?_
      exact R _ _ _ _ dX4_keptSet_23 ⟨congrArg (fun z => some (iv z)) (by rw [if_pos (by omega)]), rfl⟩
set_option maxHeartbeats 1000000 in
set_option maxRecDepth 100000 in
theorem c_X4_keptLoad (l : Launch) (E : wEnv) (σ : Mem) (c : Nat) (k : Int) (hK : isK 11 c) (hk : I32 k) : MetC l E yX4_keptLoad cX4_keptLoad 2 (some .int) 0 0 [rv E (c), iv (k)] σ (fun v σ' => v = some (iv (if 0 ≤ k ∧ k < 40 then σ (c + 2) k.toNat else 0)) ∧ σ = σ') := by
  refine MetC.of (own := RX4) (by decide) rfl (by simp [Value.category]) (Nat.le_of_ble_eq_true rfl) [some (rv E (c)), some (iv (k))] rfl (by simp) (fun K X R => ?_)
  refine g_iload_n X dX4_keptLoad_0 rfl ?_
  refine g_if_lt X (tgt := 22) dX4_keptLoad_1 (by decide) ⟨by omega, by omega⟩ (fun c1 => ?_) (fun c1 => ?_)
  · skip
    refine g_iconst X dX4_keptLoad_22 ?_
    exact R _ _ _ _ dX4_keptLoad_23 ⟨congrArg (fun z => some (iv z)) (by rw [if_neg (by omega)]), rfl⟩
  · skip
    refine g_iload_n X dX4_keptLoad_4 rfl ?_
    refine g_aload_n X dX4_keptLoad_5 rfl ?_
    refine gf_X4_15 X hK dX4_keptLoad_6 ?_
    refine g_alen13 X (pl2 hK) (pl2l hK) dX4_keptLoad_9 ?_
    refine g_icmp_ge X (tgt := 22) dX4_keptLoad_10 (by decide) ⟨by omega, by omega⟩ ⟨by decide, by decide⟩ (fun c2 => ?_) (fun c2 => ?_)
    · skip
      refine g_iconst X dX4_keptLoad_22 ?_
      exact R _ _ _ _ dX4_keptLoad_23 ⟨congrArg (fun z => some (iv z)) (by rw [if_neg (by omega)]), rfl⟩
    · skip
      refine g_aload_n X dX4_keptLoad_13 rfl ?_
      refine gf_X4_15 X hK dX4_keptLoad_14 ?_
      refine g_iload_n X dX4_keptLoad_17 rfl ?_
      refine g_iald X (pl2 hK) (pl2l hK) (by omega) (by omega) (by decide) rfl dX4_keptLoad_18 ?_
      refine g_goto X (tgt := 23) dX4_keptLoad_19 (by decide) ?_
      exact R _ _ _ _ dX4_keptLoad_23 ⟨congrArg (fun z => some (iv z)) (by rw [if_pos (by omega)]), rfl⟩
set_option maxHeartbeats 1000000 in
set_option maxRecDepth 100000 in
theorem c_X4_takeLift (l : Launch) (E : wEnv) (σ : Mem) (c : Nat) (z : Int) (hK : isK 11 c) (hz : I32 z) : MetC l E yX4_takeLift cX4_takeLift 2 none 0 0 [rv E (c), iv (z)] σ (fun v σ' => v = none ∧ mLift σ c z = σ') := by
  refine MetC.of (own := RX4) (by decide) rfl (by simp [Value.category]) (Nat.le_of_ble_eq_true rfl) [some (rv E (c)), some (iv (z))] rfl (by simp) (fun K X R => ?_)
  refine g_iload_n X dX4_takeLift_0 rfl ?_
  refine g_iconst X dX4_takeLift_1 ?_
  refine g_icmp_lt X (tgt := 30) dX4_takeLift_2 (by decide) ⟨by omega, by omega⟩ ⟨by decide, by decide⟩ (fun c1 => ?_) (fun c1 => ?_)
  · skip
    exact R _ _ _ dX4_takeLift_30 ⟨rfl, by unfold mLift; rw [if_neg (by omega)]⟩
  · skip
    refine g_aload_n X dX4_takeLift_5 rfl ?_
    refine g_dup X dX4_takeLift_6 rfl ?_
    refine gf_X4_31 X hK rfl dX4_takeLift_7 ?_
    refine g_iload_n X dX4_takeLift_10 rfl ?_
    refine g_isub X dX4_takeLift_11 ?_
    refine pf_X4_31 X hK dX4_takeLift_12 ?_
    refine g_aload_n X dX4_takeLift_15 rfl ?_
    refine g_dup X dX4_takeLift_16 rfl ?_
    refine gf_X4_47 X hK (up_ne2 (by decide) rfl) dX4_takeLift_17 ?_
    refine g_iload_n X dX4_takeLift_20 rfl ?_
    refine g_iadd X dX4_takeLift_21 ?_
    refine pf_X4_47 X hK dX4_takeLift_22 ?_
    refine g_aload_n X dX4_takeLift_25 rfl ?_
    refine g_iconst X dX4_takeLift_26 ?_
    refine pf_X4_40 X hK (Or.inr rfl) dX4_takeLift_27 ?_
    exact R _ _ _ dX4_takeLift_30 ⟨rfl, by unfold mLift; rw [if_pos (by omega)]⟩
set_option maxHeartbeats 1000000 in
set_option maxRecDepth 100000 in
theorem c_X4_takePress (l : Launch) (E : wEnv) (σ : Mem) (c : Nat) (z : Int) (hK : isK 11 c) : MetC l E yX4_takePress cX4_takePress 2 none 0 0 [rv E (c), iv (z)] σ (fun v σ' => v = none ∧ mPress σ c z = σ') := by
  refine MetC.of (own := RX4) (by decide) rfl (by simp [Value.category]) (Nat.le_of_ble_eq_true rfl) [some (rv E (c)), some (iv (z))] rfl (by simp) (fun K X R => ?_)
  refine g_aload_n X dX4_takePress_0 rfl ?_
  refine g_dup X dX4_takePress_1 rfl ?_
  refine gf_X4_31 X hK rfl dX4_takePress_2 ?_
  refine g_iload_n X dX4_takePress_5 rfl ?_
  refine g_iadd X dX4_takePress_6 ?_
  refine pf_X4_31 X hK dX4_takePress_7 ?_
  refine g_aload_n X dX4_takePress_10 rfl ?_
  refine g_dup X dX4_takePress_11 rfl ?_
  refine gf_X4_50 X hK (up_ne2 (by decide) rfl) dX4_takePress_12 ?_
  refine g_iload_n X dX4_takePress_15 rfl ?_
  refine g_iadd X dX4_takePress_16 ?_
  refine pf_X4_50 X hK dX4_takePress_17 ?_
  refine g_aload_n X dX4_takePress_20 rfl ?_
  refine g_iconst X dX4_takePress_21 ?_
  refine pf_X4_40 X hK (Or.inl rfl) dX4_takePress_22 ?_
  exact R _ _ _ dX4_takePress_25 ⟨rfl, rfl⟩
set_option maxHeartbeats 1000000 in
set_option maxRecDepth 100000 in
theorem c_X4_keep (l : Launch) (E : wEnv) (σ : Mem) (c : Nat) (a b : Int) (hK : isK 11 c) (hk0 : 0 ≤ σ c 2) (hk1 : σ c 2 ≤ 40) : MetC l E yX4_keep cX4_keep 3 none 1 60 [rv E (c), iv (a), iv (b)] σ (fun v σ' => v = none ∧ mKeep σ c a b = σ') := by
  refine MetC.of (own := RX4) (by decide) rfl (by simp [Value.category]) (Nat.le_of_ble_eq_true rfl) [some (rv E (c)), some (iv (a)), some (iv (b))] rfl (by simp) (fun K X R => ?_)
  refine g_aload_n X dX4_keep_0 rfl ?_
  refine gf_X4_28 X hK rfl dX4_keep_1 ?_
  refine g_bipush X dX4_keep_4 (by decide) ?_
  refine g_icmp_lt X (tgt := 45) dX4_keep_6 (by decide) ⟨by omega, by omega⟩ ⟨by decide, by decide⟩ (fun c1 => ?_) (fun c1 => ?_)
  · skip
    refine g_aload_n X dX4_keep_45 rfl ?_
    refine gf_X4_28 X hK rfl dX4_keep_46 ?_
    refine g_if_lt X (tgt := 106) dX4_keep_49 (by decide) ⟨by omega, by omega⟩ (fun c2 => ?_) (fun c2 => ?_)
    · skip
      exact R _ _ _ dX4_keep_106 ⟨rfl, by first | (exfalso; omega) | (unfold mKeep; exact if_neg (by omega))⟩
    · skip
      refine g_aload_n X dX4_keep_52 rfl ?_
      refine gf_X4_28 X hK rfl dX4_keep_53 ?_
      refine g_aload_n X dX4_keep_56 rfl ?_
      refine gf_X4_9 X hK dX4_keep_57 ?_
      refine g_alen13 X (pl1 hK) (pl1l hK) dX4_keep_60 ?_
      refine g_icmp_ge X (tgt := 106) dX4_keep_61 (by decide) ⟨by omega, by omega⟩ ⟨by decide, by decide⟩ (fun c3 => ?_) (fun c3 => ?_)
      · skip
        exact R _ _ _ dX4_keep_106 ⟨rfl, by first | (exfalso; omega) | (unfold mKeep; exact if_neg (by omega))⟩
      · skip
        refine g_aload_n X dX4_keep_64 rfl ?_
        refine gf_X4_28 X hK rfl dX4_keep_65 ?_
        refine g_aload_n X dX4_keep_68 rfl ?_
        refine gf_X4_15 X hK dX4_keep_69 ?_
        refine g_alen13 X (pl2 hK) (pl2l hK) dX4_keep_72 ?_
        refine g_icmp_ge X (tgt := 106) dX4_keep_73 (by decide) ⟨by omega, by omega⟩ ⟨by decide, by decide⟩ (fun c4 => ?_) (fun c4 => ?_)
        · skip
          exact R _ _ _ dX4_keep_106 ⟨rfl, by first | (exfalso; omega) | (unfold mKeep; exact if_neg (by omega))⟩
        · skip
          refine g_aload_n X dX4_keep_76 rfl ?_
          refine gf_X4_9 X hK dX4_keep_77 ?_
          refine g_aload_n X dX4_keep_80 rfl ?_
          refine gf_X4_28 X hK rfl dX4_keep_81 ?_
          refine g_iload_n X dX4_keep_84 rfl ?_
          refine g_iast X (pl1 hK) (pl1l hK) (by omega) (by omega) (by decide) dX4_keep_85 ?_
          refine g_aload_n X dX4_keep_86 rfl ?_
          refine gf_X4_15 X hK dX4_keep_87 ?_
          refine g_aload_n X dX4_keep_90 rfl ?_
          refine gf_X4_28 X hK (up_ne1 (by omega) rfl) dX4_keep_91 ?_
          refine g_iload_n X dX4_keep_94 rfl ?_
          refine g_iast X (pl2 hK) (pl2l hK) (by omega) (by omega) (by decide) dX4_keep_95 ?_
          refine g_aload_n X dX4_keep_96 rfl ?_
          refine g_dup X dX4_keep_97 rfl ?_
          refine gf_X4_28 X hK (up_ne1 (by omega) (up_ne1 (by omega) rfl)) dX4_keep_98 ?_
          refine g_iconst X dX4_keep_101 ?_
          refine g_iadd X dX4_keep_102 ?_
          refine pf_X4_28 X hK dX4_keep_103 ?_
          exact R _ _ _ dX4_keep_106 ⟨rfl, by first | (exfalso; omega) | (unfold mKeep; exact if_neg (by omega))⟩
  · skip
    refine g_aload_n X dX4_keep_9 rfl ?_
    refine gf_X4_9 X hK dX4_keep_10 ?_
    refine g_iconst X dX4_keep_13 ?_
    refine g_aload_n X dX4_keep_14 rfl ?_
    refine gf_X4_9 X hK dX4_keep_15 ?_
    refine g_iconst X dX4_keep_18 ?_
    refine g_bipush X dX4_keep_19 (by decide) ?_
    refine g_copy X wL_X4_57 (pl1 hK) (pl1 hK) (pl1l hK) (pl1l hK) (by omega) (by omega) (by omega) (by omega) (by omega) (by decide) (by decide) (Nat.le_of_ble_eq_true rfl) (by decide +kernel) dX4_keep_21 ?_
    refine g_aload_n X dX4_keep_24 rfl ?_
    refine gf_X4_15 X hK dX4_keep_25 ?_
    refine g_iconst X dX4_keep_28 ?_
    refine g_aload_n X dX4_keep_29 rfl ?_
    refine gf_X4_15 X hK dX4_keep_30 ?_
    refine g_iconst X dX4_keep_33 ?_
    refine g_bipush X dX4_keep_34 (by decide) ?_
    refine g_copy X wL_X4_57 (pl2 hK) (pl2 hK) (pl2l hK) (pl2l hK) (by omega) (by omega) (by omega) (by omega) (by omega) (by decide) (by decide) (Nat.le_of_ble_eq_true rfl) (by decide +kernel) dX4_keep_36 ?_
    refine g_aload_n X dX4_keep_39 rfl ?_
    refine g_bipush X dX4_keep_40 (by decide) ?_
    refine pf_X4_28 X hK dX4_keep_42 ?_
    refine g_aload_n X dX4_keep_45 rfl ?_
    refine gf_X4_28 X hK (up_same _ _ _ _) dX4_keep_46 ?_
    refine g_if_lt X (tgt := 106) dX4_keep_49 (by decide) ⟨by decide, by decide⟩ (fun q => absurd q (by decide)) (fun _ => ?_)
    refine g_aload_n X dX4_keep_52 rfl ?_
    refine gf_X4_28 X hK (up_same _ _ _ _) dX4_keep_53 ?_
    refine g_aload_n X dX4_keep_56 rfl ?_
    refine gf_X4_9 X hK dX4_keep_57 ?_
    refine g_alen13 X (pl1 hK) (pl1l hK) dX4_keep_60 ?_
    refine g_icmp_ge X (tgt := 106) dX4_keep_61 (by decide) ⟨by decide, by decide⟩ ⟨by decide, by decide⟩ (fun q => absurd q (by decide)) (fun _ => ?_)
    refine g_aload_n X dX4_keep_64 rfl ?_
    refine gf_X4_28 X hK (up_same _ _ _ _) dX4_keep_65 ?_
    refine g_aload_n X dX4_keep_68 rfl ?_
    refine gf_X4_15 X hK dX4_keep_69 ?_
    refine g_alen13 X (pl2 hK) (pl2l hK) dX4_keep_72 ?_
    refine g_icmp_ge X (tgt := 106) dX4_keep_73 (by decide) ⟨by decide, by decide⟩ ⟨by decide, by decide⟩ (fun q => absurd q (by decide)) (fun _ => ?_)
    refine g_aload_n X dX4_keep_76 rfl ?_
    refine gf_X4_9 X hK dX4_keep_77 ?_
    refine g_aload_n X dX4_keep_80 rfl ?_
    refine gf_X4_28 X hK (up_same _ _ _ _) dX4_keep_81 ?_
    refine g_iload_n X dX4_keep_84 rfl ?_
    refine g_iast X (pl1 hK) (pl1l hK) (by omega) (by omega) (by decide) dX4_keep_85 ?_
    refine g_aload_n X dX4_keep_86 rfl ?_
    refine gf_X4_15 X hK dX4_keep_87 ?_
    refine g_aload_n X dX4_keep_90 rfl ?_
    refine gf_X4_28 X hK (up_ne1 (by omega) (up_same _ _ _ _)) dX4_keep_91 ?_
    refine g_iload_n X dX4_keep_94 rfl ?_
    refine g_iast X (pl2 hK) (pl2l hK) (by omega) (by omega) (by decide) dX4_keep_95 ?_
    refine g_aload_n X dX4_keep_96 rfl ?_
    refine g_dup X dX4_keep_97 rfl ?_
    refine gf_X4_28 X hK (up_ne1 (by omega) (up_ne1 (by omega) (up_same _ _ _ _))) dX4_keep_98 ?_
    refine g_iconst X dX4_keep_101 ?_
    refine g_iadd X dX4_keep_102 ?_
    refine pf_X4_28 X hK dX4_keep_103 ?_
    exact R _ _ _ dX4_keep_106 ⟨rfl, by first | (exfalso; omega) | (unfold mKeep; exact if_pos (by omega))⟩
set_option maxHeartbeats 1000000 in
set_option maxRecDepth 100000 in
theorem c_X4_takeBlow (l : Launch) (E : wEnv) (σ : Mem) (c : Nat) (a b : Int) (hK : isK 11 c) (hk0 : 0 ≤ σ c 2) (hk1 : σ c 2 ≤ 40) : MetC l E yX4_takeBlow cX4_takeBlow 3 none 2 82 [rv E (c), iv (a), iv (b)] σ (fun v σ' => v = none ∧ mBlow σ c a b = σ') := by
  refine MetC.of (own := RX4) (by decide) rfl (by simp [Value.category]) (Nat.le_of_ble_eq_true rfl) [some (rv E (c)), some (iv (a)), some (iv (b))] rfl (by simp) (fun K X R => ?_)
  refine g_aload_n X dX4_takeBlow_0 rfl ?_
  refine g_dup X dX4_takeBlow_1 rfl ?_
  refine gf_X4_31 X hK rfl dX4_takeBlow_2 ?_
  refine g_iload_n X dX4_takeBlow_5 rfl ?_
  refine g_iadd X dX4_takeBlow_6 ?_
  refine pf_X4_31 X hK dX4_takeBlow_7 ?_
  refine g_aload_n X dX4_takeBlow_10 rfl ?_
  refine g_dup X dX4_takeBlow_11 rfl ?_
  refine gf_X4_44 X hK (up_ne2 (by decide) rfl) dX4_takeBlow_12 ?_
  refine g_iload_n X dX4_takeBlow_15 rfl ?_
  refine g_iadd X dX4_takeBlow_16 ?_
  refine pf_X4_44 X hK dX4_takeBlow_17 ?_
  refine g_aload_n X dX4_takeBlow_20 rfl ?_
  refine g_dup X dX4_takeBlow_21 rfl ?_
  refine gf_X4_34 X hK (up_ne2 (by decide) (up_ne2 (by decide) rfl)) dX4_takeBlow_22 ?_
  refine g_iconst X dX4_takeBlow_25 ?_
  refine g_iadd X dX4_takeBlow_26 ?_
  refine pf_X4_34 X hK dX4_takeBlow_27 ?_
  refine g_aload_n X dX4_takeBlow_30 rfl ?_
  refine g_iload_n X dX4_takeBlow_31 rfl ?_
  refine pf_X4_37 X hK dX4_takeBlow_32 ?_
  refine g_aload_n X dX4_takeBlow_35 rfl ?_
  refine g_iconst X dX4_takeBlow_36 ?_
  refine pf_X4_40 X hK (Or.inl rfl) dX4_takeBlow_37 ?_
  refine g_aload_n X dX4_takeBlow_40 rfl ?_
  refine g_iload_n X dX4_takeBlow_41 rfl ?_
  refine g_iload_n X dX4_takeBlow_42 rfl ?_
  refine cl_X4_53 X (c_X4_keep l E (up (up (up (up (up σ c 6 (σ c 6 + a)) c 10 (σ c 10 + a)) c 7 (σ c 7 + 1)) c 8 (b)) c 9 (0)) c a b hK (by simpa [up] using hk0) (by simpa [up] using hk1)) hK ⟨Nat.le_of_ble_eq_true rfl, Nat.le_of_ble_eq_true rfl⟩ rfl (Nat.le_of_ble_eq_true rfl) dX4_takeBlow_43 rfl (fun v1 τ2 p3 => ?_)
  obtain ⟨rfl, rfl⟩ := p3
  exact R _ _ _ dX4_takeBlow_46 ⟨rfl, rfl⟩
set_option maxHeartbeats 1000000 in
set_option maxRecDepth 100000 in
theorem c_X4_startAt (l : Launch) (E : wEnv) (σ : Mem) (c : Nat) (x y z : Int) (hK : isK 11 c) : MetC l E yX4_startAt cX4_startAt 4 none 0 0 [rv E (c), iv (x), iv (y), iv (z)] σ (fun v σ' => v = none ∧ mStart σ c x y z = σ') := by
  refine MetC.of (own := RX4) (by decide) rfl (by simp [Value.category]) (Nat.le_of_ble_eq_true rfl) [some (rv E (c)), some (iv (x)), some (iv (y)), some (iv (z))] rfl (by simp) (fun K X R => ?_)
  refine g_aload_n X dX4_startAt_0 rfl ?_
  refine g_iload_n X dX4_startAt_1 rfl ?_
  refine pf_X4_18 X hK dX4_startAt_2 ?_
  refine g_aload_n X dX4_startAt_5 rfl ?_
  refine g_iload_n X dX4_startAt_6 rfl ?_
  refine pf_X4_22 X hK dX4_startAt_7 ?_
  refine g_aload_n X dX4_startAt_10 rfl ?_
  refine g_iload_n X dX4_startAt_11 rfl ?_
  refine pf_X4_25 X hK dX4_startAt_12 ?_
  refine g_aload_n X dX4_startAt_15 rfl ?_
  refine g_iconst X dX4_startAt_16 ?_
  refine pf_X4_28 X hK dX4_startAt_17 ?_
  refine g_aload_n X dX4_startAt_20 rfl ?_
  refine g_iconst X dX4_startAt_21 ?_
  refine pf_X4_31 X hK dX4_startAt_22 ?_
  refine g_aload_n X dX4_startAt_25 rfl ?_
  refine g_iconst X dX4_startAt_26 ?_
  refine pf_X4_34 X hK dX4_startAt_27 ?_
  refine g_aload_n X dX4_startAt_30 rfl ?_
  refine g_iconst X dX4_startAt_31 ?_
  refine pf_X4_37 X hK dX4_startAt_32 ?_
  refine g_aload_n X dX4_startAt_35 rfl ?_
  refine g_iconst X dX4_startAt_36 ?_
  refine pf_X4_40 X hK (Or.inl rfl) dX4_startAt_37 ?_
  refine g_aload_n X dX4_startAt_40 rfl ?_
  refine g_iconst X dX4_startAt_41 ?_
  refine pf_X4_44 X hK dX4_startAt_42 ?_
  refine g_aload_n X dX4_startAt_45 rfl ?_
  refine g_iconst X dX4_startAt_46 ?_
  refine pf_X4_47 X hK dX4_startAt_47 ?_
  refine g_aload_n X dX4_startAt_50 rfl ?_
  refine g_iconst X dX4_startAt_51 ?_
  refine pf_X4_50 X hK dX4_startAt_52 ?_
  exact R _ _ _ dX4_startAt_55 ⟨rfl, rfl⟩
theorem copyP_eq {σ : Mem} {c d : Nat} (hsep : c + 2 < d ∨ d + 2 < c) : mCopyP σ c d = (up (up (up (up (up (up (up (up (up (up (up (cpy (cpy σ ((d + 1)) 0 ((c + 1)) 0 40) ((d + 2)) 0 ((c + 2)) 0 40) c 2 (σ d 2)) c 3 (σ d 3)) c 4 (σ d 4)) c 5 (σ d 5)) c 6 (σ d 6)) c 7 (σ d 7)) c 8 (σ d 8)) c 9 (σ d 9)) c 10 (σ d 10)) c 11 (σ d 11)) c 12 (σ d 12)) := by
  funext x j
  have n1 : d + 2 ≠ c + 1 := by omega
  have n2 : d + 1 ≠ c + 2 := by omega
  by_cases hx : x = c
  · subst hx
    by_cases hj : 2 ≤ j ∧ j ≤ 12
    · unfold mCopyP
      rw [if_pos ⟨rfl, hj⟩]
      rcases (show j = 2 ∨ j = 3 ∨ j = 4 ∨ j = 5 ∨ j = 6 ∨ j = 7 ∨ j = 8 ∨ j = 9 ∨ j = 10 ∨ j = 11 ∨ j = 12 by omega) with rfl | rfl | rfl | rfl | rfl | rfl | rfl | rfl | rfl | rfl | rfl <;> simp [up]
    · unfold mCopyP
      rw [if_neg (fun q => hj q.2), if_neg (by omega), if_neg (by omega)]
      have a2 : j ≠ 2 := by omega
      have a3 : j ≠ 3 := by omega
      have a4 : j ≠ 4 := by omega
      have a5 : j ≠ 5 := by omega
      have a6 : j ≠ 6 := by omega
      have a7 : j ≠ 7 := by omega
      have a8 : j ≠ 8 := by omega
      have a9 : j ≠ 9 := by omega
      have a10 : j ≠ 10 := by omega
      have a11 : j ≠ 11 := by omega
      have a12 : j ≠ 12 := by omega
      simp [up, cpy, a2, a3, a4, a5, a6, a7, a8, a9, a10, a11, a12]
  · unfold mCopyP
    rw [if_neg (fun q => hx q.1)]
    by_cases h1 : x = c + 1
    · subst h1
      simp [up, cpy]
    · by_cases h2 : x = c + 2
      · subst h2
        simp [up, cpy, n1, n2]
      · simp [up, cpy, hx, h1, h2]
set_option maxHeartbeats 1000000 in
set_option maxRecDepth 100000 in
theorem c_X4_copyFrom (l : Launch) (E : wEnv) (σ : Mem) (c d : Nat) (hK : isK 11 c) (hK2 : isK 11 d) (hsep : c + 2 < d ∨ d + 2 < c) (hb : σ d 9 = 0 ∨ σ d 9 = 1) : MetC l E yX4_copyFrom cX4_copyFrom 2 none 1 60 [rv E (c), rv E (d)] σ (fun v σ' => v = none ∧ mCopyP σ c d = σ') := by
  refine MetC.of (own := RX4) (by decide) rfl (by simp [Value.category]) (Nat.le_of_ble_eq_true rfl) [some (rv E (c)), some (rv E (d))] rfl (by simp) (fun K X R => ?_)
  refine g_aload_n X dX4_copyFrom_0 rfl ?_
  refine gf_X4_9 X hK2 dX4_copyFrom_1 ?_
  refine g_iconst X dX4_copyFrom_4 ?_
  refine g_aload_n X dX4_copyFrom_5 rfl ?_
  refine gf_X4_9 X hK dX4_copyFrom_6 ?_
  refine g_iconst X dX4_copyFrom_9 ?_
  refine g_bipush X dX4_copyFrom_10 (by decide) ?_
  refine g_copy X wL_X4_57 (pl1 hK2) (pl1 hK) (pl1l hK2) (pl1l hK) (by omega) (by omega) (by omega) (by omega) (by omega) (by decide) (by decide) (Nat.le_of_ble_eq_true rfl) (by decide +kernel) dX4_copyFrom_12 ?_
  refine g_aload_n X dX4_copyFrom_15 rfl ?_
  refine gf_X4_15 X hK2 dX4_copyFrom_16 ?_
  refine g_iconst X dX4_copyFrom_19 ?_
  refine g_aload_n X dX4_copyFrom_20 rfl ?_
  refine gf_X4_15 X hK dX4_copyFrom_21 ?_
  refine g_iconst X dX4_copyFrom_24 ?_
  refine g_bipush X dX4_copyFrom_25 (by decide) ?_
  refine g_copy X wL_X4_57 (pl2 hK2) (pl2 hK) (pl2l hK2) (pl2l hK) (by omega) (by omega) (by omega) (by omega) (by omega) (by decide) (by decide) (Nat.le_of_ble_eq_true rfl) (by decide +kernel) dX4_copyFrom_27 ?_
  refine g_aload_n X dX4_copyFrom_30 rfl ?_
  refine g_aload_n X dX4_copyFrom_31 rfl ?_
  refine gf_X4_28 X hK2 (cpy_ne (by omega) (cpy_ne (by omega) rfl)) dX4_copyFrom_32 ?_
  refine pf_X4_28 X hK dX4_copyFrom_35 ?_
  refine g_aload_n X dX4_copyFrom_38 rfl ?_
  refine g_aload_n X dX4_copyFrom_39 rfl ?_
  refine gf_X4_18 X hK2 (up_ne1 (by omega) (cpy_ne (by omega) (cpy_ne (by omega) rfl))) dX4_copyFrom_40 ?_
  refine pf_X4_18 X hK dX4_copyFrom_43 ?_
  refine g_aload_n X dX4_copyFrom_46 rfl ?_
  refine g_aload_n X dX4_copyFrom_47 rfl ?_
  refine gf_X4_22 X hK2 (up_ne1 (by omega) (up_ne1 (by omega) (cpy_ne (by omega) (cpy_ne (by omega) rfl)))) dX4_copyFrom_48 ?_
  refine pf_X4_22 X hK dX4_copyFrom_51 ?_
  refine g_aload_n X dX4_copyFrom_54 rfl ?_
  refine g_aload_n X dX4_copyFrom_55 rfl ?_
  refine gf_X4_25 X hK2 (up_ne1 (by omega) (up_ne1 (by omega) (up_ne1 (by omega) (cpy_ne (by omega) (cpy_ne (by omega) rfl))))) dX4_copyFrom_56 ?_
  refine pf_X4_25 X hK dX4_copyFrom_59 ?_
  refine g_aload_n X dX4_copyFrom_62 rfl ?_
  refine g_aload_n X dX4_copyFrom_63 rfl ?_
  refine gf_X4_31 X hK2 (up_ne1 (by omega) (up_ne1 (by omega) (up_ne1 (by omega) (up_ne1 (by omega) (cpy_ne (by omega) (cpy_ne (by omega) rfl)))))) dX4_copyFrom_64 ?_
  refine pf_X4_31 X hK dX4_copyFrom_67 ?_
  refine g_aload_n X dX4_copyFrom_70 rfl ?_
  refine g_aload_n X dX4_copyFrom_71 rfl ?_
  refine gf_X4_34 X hK2 (up_ne1 (by omega) (up_ne1 (by omega) (up_ne1 (by omega) (up_ne1 (by omega) (up_ne1 (by omega) (cpy_ne (by omega) (cpy_ne (by omega) rfl))))))) dX4_copyFrom_72 ?_
  refine pf_X4_34 X hK dX4_copyFrom_75 ?_
  refine g_aload_n X dX4_copyFrom_78 rfl ?_
  refine g_aload_n X dX4_copyFrom_79 rfl ?_
  refine gf_X4_37 X hK2 (up_ne1 (by omega) (up_ne1 (by omega) (up_ne1 (by omega) (up_ne1 (by omega) (up_ne1 (by omega) (up_ne1 (by omega) (cpy_ne (by omega) (cpy_ne (by omega) rfl)))))))) dX4_copyFrom_80 ?_
  refine pf_X4_37 X hK dX4_copyFrom_83 ?_
  refine g_aload_n X dX4_copyFrom_86 rfl ?_
  refine g_aload_n X dX4_copyFrom_87 rfl ?_
  refine gf_X4_40 X hK2 (up_ne1 (by omega) (up_ne1 (by omega) (up_ne1 (by omega) (up_ne1 (by omega) (up_ne1 (by omega) (up_ne1 (by omega) (up_ne1 (by omega) (cpy_ne (by omega) (cpy_ne (by omega) rfl))))))))) dX4_copyFrom_88 ?_
  refine pf_X4_40 X hK (by omega) dX4_copyFrom_91 ?_
  refine g_aload_n X dX4_copyFrom_94 rfl ?_
  refine g_aload_n X dX4_copyFrom_95 rfl ?_
  refine gf_X4_44 X hK2 (up_ne1 (by omega) (up_ne1 (by omega) (up_ne1 (by omega) (up_ne1 (by omega) (up_ne1 (by omega) (up_ne1 (by omega) (up_ne1 (by omega) (up_ne1 (by omega) (cpy_ne (by omega) (cpy_ne (by omega) rfl)))))))))) dX4_copyFrom_96 ?_
  refine pf_X4_44 X hK dX4_copyFrom_99 ?_
  refine g_aload_n X dX4_copyFrom_102 rfl ?_
  refine g_aload_n X dX4_copyFrom_103 rfl ?_
  refine gf_X4_47 X hK2 (up_ne1 (by omega) (up_ne1 (by omega) (up_ne1 (by omega) (up_ne1 (by omega) (up_ne1 (by omega) (up_ne1 (by omega) (up_ne1 (by omega) (up_ne1 (by omega) (up_ne1 (by omega) (cpy_ne (by omega) (cpy_ne (by omega) rfl))))))))))) dX4_copyFrom_104 ?_
  refine pf_X4_47 X hK dX4_copyFrom_107 ?_
  refine g_aload_n X dX4_copyFrom_110 rfl ?_
  refine g_aload_n X dX4_copyFrom_111 rfl ?_
  refine gf_X4_50 X hK2 (up_ne1 (by omega) (up_ne1 (by omega) (up_ne1 (by omega) (up_ne1 (by omega) (up_ne1 (by omega) (up_ne1 (by omega) (up_ne1 (by omega) (up_ne1 (by omega) (up_ne1 (by omega) (up_ne1 (by omega) (cpy_ne (by omega) (cpy_ne (by omega) rfl)))))))))))) dX4_copyFrom_112 ?_
  refine pf_X4_50 X hK dX4_copyFrom_115 ?_
  exact R _ _ _ dX4_copyFrom_118 ⟨rfl, copyP_eq hsep⟩
