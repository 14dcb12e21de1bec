/-! ===== contracts: the reference, what it reads ===== -/
set_option maxHeartbeats 1000000 in
set_option maxRecDepth 100000 in
theorem c_X8_in (l : Launch) (E : wEnv) (σ : Mem) (a b c : Int) (ha : I32 a) (hb : I32 b) (hc : I32 c) : MetC l E yX8_in cX8_in 3 (some .boolean) 0 0 [iv (a), iv (b), iv (c)] σ (fun v σ' => σ = σ' ∧ ((b ≤ a ∧ a ≤ c) ∧ v = some (iv 1) ∨ ¬ (b ≤ a ∧ a ≤ c) ∧ v = some (iv 0))) := by
  refine MetC.of (own := RX8) (by decide) rfl (by simp [Value.category]) (Nat.le_of_ble_eq_true rfl) [some (iv (a)), some (iv (b)), some (iv (c))] rfl (by simp) (fun K X R => ?_)
  refine g_iload_n X dX8_in_0 rfl ?_
  refine g_iload_n X dX8_in_1 rfl ?_
  refine g_icmp_lt X (tgt := 14) dX8_in_2 (by decide) ⟨by omega, by omega⟩ ⟨by omega, by omega⟩ (fun c1 => ?_) (fun c1 => ?_)
  · skip
    refine g_iconst X dX8_in_14 ?_
    exact R _ _ _ _ (Or.inl (by decide)) dX8_in_15 ⟨rfl, Or.inr ⟨by omega, rfl⟩⟩
  · skip
    refine g_iload_n X dX8_in_5 rfl ?_
    refine g_iload_n X dX8_in_6 rfl ?_
    refine g_icmp_gt X (tgt := 14) dX8_in_7 (by decide) ⟨by omega, by omega⟩ ⟨by omega, by omega⟩ (fun c2 => ?_) (fun c2 => ?_)
    · skip
      refine g_iconst X dX8_in_14 ?_
      exact R _ _ _ _ (Or.inl (by decide)) dX8_in_15 ⟨rfl, Or.inr ⟨by omega, rfl⟩⟩
    · skip
      refine g_iconst X dX8_in_10 ?_
      refine g_goto X (tgt := 15) dX8_in_11 (by decide) ?_
      exact R _ _ _ _ (Or.inr (by decide)) dX8_in_15 ⟨rfl, Or.inl ⟨by omega, rfl⟩⟩
set_option maxHeartbeats 1000000 in
set_option maxRecDepth 100000 in
theorem c_X8_isFall (l : Launch) (E : wEnv) (σ : Mem) (a : Int) (ha : I32 a) : MetC l E yX8_isFall cX8_isFall 1 (some .boolean) 1 22 [iv (a)] σ (fun v σ' => σ = σ' ∧ ((100 ≤ a ∧ a ≤ 3000) ∧ v = some (iv 1) ∨ ¬ (100 ≤ a ∧ a ≤ 3000) ∧ v = some (iv 0))) := by
  refine MetC.of (own := RX8) (by decide) rfl (by simp [Value.category]) (Nat.le_of_ble_eq_true rfl) [some (iv (a))] rfl (by simp) (fun K X R => ?_)
  refine g_iload_n X dX8_isFall_0 rfl ?_
  refine g_bipush X dX8_isFall_1 (by decide) ?_
  refine g_sipush X dX8_isFall_3 (by decide) ?_
  refine cl_X8_51 X (c_X8_in l E σ a 100 3000 ⟨by omega, by omega⟩ ⟨by decide, by decide⟩ ⟨by decide, by decide⟩) ⟨Nat.le_of_ble_eq_true rfl, Nat.le_of_ble_eq_true rfl⟩ rfl (Nat.le_of_ble_eq_true rfl) dX8_isFall_6 rfl (fun v1 τ2 p3 => ?_)
  obtain ⟨rfl, ⟨b4, rfl⟩ | ⟨b4, rfl⟩⟩ := p3
  · skip
    skip
    exact R _ _ _ _ (Or.inr (by decide)) dX8_isFall_9 ⟨rfl, Or.inl ⟨by omega, rfl⟩⟩
  · skip
    skip
    exact R _ _ _ _ (Or.inl (by decide)) dX8_isFall_9 ⟨rfl, Or.inr ⟨by omega, rfl⟩⟩
set_option maxHeartbeats 1000000 in
set_option maxRecDepth 100000 in
theorem c_X8_lesser (l : Launch) (E : wEnv) (σ : Mem) (a b : Int) (ha : I32 a) (hb : I32 b) : MetC l E yX8_lesser cX8_lesser 2 (some .int) 0 0 [iv (a), iv (b)] σ (fun v σ' => v = some (iv (min a b)) ∧ σ = σ') := by
  refine MetC.of (own := RX8) (by decide) rfl (by simp [Value.category]) (Nat.le_of_ble_eq_true rfl) [some (iv (a)), some (iv (b))] rfl (by simp) (fun K X R => ?_)
  refine g_iload_n X dX8_lesser_0 rfl ?_
  refine g_iload_n X dX8_lesser_1 rfl ?_
  refine g_icmp_ge X (tgt := 9) dX8_lesser_2 (by decide) ⟨by omega, by omega⟩ ⟨by omega, by omega⟩ (fun c1 => ?_) (fun c1 => ?_)
  · skip
    refine g_iload_n X dX8_lesser_9 rfl ?_
    exact R _ _ _ _ dX8_lesser_10 ⟨congrArg (fun z => some (iv z)) (by omega), rfl⟩
  · skip
    refine g_iload_n X dX8_lesser_5 rfl ?_
    refine g_goto X (tgt := 10) dX8_lesser_6 (by decide) ?_
    exact R _ _ _ _ dX8_lesser_10 ⟨congrArg (fun z => some (iv z)) (by omega), rfl⟩
set_option maxHeartbeats 1000000 in
set_option maxRecDepth 100000 in
theorem c_X8_apart (l : Launch) (E : wEnv) (σ : Mem) (a b : Int) (ha : I32 a) (hb : I32 b) : MetC l E yX8_apart cX8_apart 2 (some .int) 0 0 [iv (a), iv (b)] σ (fun v σ' => v = some (iv (adist a b)) ∧ σ = σ') := by
  refine MetC.of (own := RX8) (by decide) rfl (by simp [Value.category]) (Nat.le_of_ble_eq_true rfl) [some (iv (a)), some (iv (b))] rfl (by simp) (fun K X R => ?_)
  refine g_iload_n X dX8_apart_0 rfl ?_
  refine g_iload_n X dX8_apart_1 rfl ?_
  refine g_icmp_ge X (tgt := 11) dX8_apart_2 (by decide) ⟨by omega, by omega⟩ ⟨by omega, by omega⟩ (fun c1 => ?_) (fun c1 => ?_)
  · skip
    refine g_iload_n X dX8_apart_11 rfl ?_
    refine g_iload_n X dX8_apart_12 rfl ?_
    refine g_isub X dX8_apart_13 ?_
    exact R _ _ _ _ dX8_apart_14 ⟨congrArg (fun z => some (iv z)) (by unfold adist; first | (rw [if_pos (by omega)]; done) | (rw [if_neg (by omega)]; omega) | (rw [if_pos (by omega)]; omega)), rfl⟩
  · skip
    refine g_iload_n X dX8_apart_5 rfl ?_
    refine g_iload_n X dX8_apart_6 rfl ?_
    refine g_isub X dX8_apart_7 ?_
    refine g_goto X (tgt := 14) dX8_apart_8 (by decide) ?_
    exact R _ _ _ _ dX8_apart_14 ⟨congrArg (fun z => some (iv z)) (by unfold adist; first | (rw [if_pos (by omega)]; done) | (rw [if_neg (by omega)]; omega) | (rw [if_pos (by omega)]; omega)), rfl⟩
set_option maxHeartbeats 1000000 in
set_option maxRecDepth 100000 in
theorem c_X8_of (l : Launch) (E : wEnv) (σ : Mem) (r : Row) (N : Int) (hM : RR σ r) (hR : RInv r N) (p k : Int) (n : Nat) (hp : 0 ≤ p ∧ p < 10) (hk : 0 ≤ k ∧ k < 91) (hn : (n : Int) = 24 + 91 * p + k) : MetC l E yX8_of cX8_of 3 (some .int) 0 0 [rv E (12), iv (p), iv (k)] σ (fun v σ' => v = some (iv (r n)) ∧ σ = σ') := by
  refine MetC.of (own := RX8) (by decide) rfl (by simp [Value.category]) (Nat.le_of_ble_eq_true rfl) [some (rv E (12)), some (iv (p)), some (iv (k))] rfl (by simp) (fun K X R => ?_)
  refine g_aload_n X dX8_of_0 rfl ?_
  refine gf_X8_7 X fk12 dX8_of_1 ?_
  refine g_bipush X dX8_of_4 (by decide) ?_
  refine g_bipush X dX8_of_6 (by decide) ?_
  refine g_iload_n X dX8_of_8 rfl ?_
  refine g_imul X dX8_of_9 ?_
  refine g_iadd X dX8_of_10 ?_
  refine g_iload_n X dX8_of_11 rfl ?_
  refine g_iadd X dX8_of_12 ?_
  refine g_iald X fk13 fl13 (by omega) (by omega) (by decide) (hM.at (n := (24 + 91 * p + k).toNat) (by omega) (by omega)) dX8_of_13 ?_
  exact R _ _ _ _ dX8_of_14 ⟨congrArg (fun z => some (iv z)) (by exact congrArg r (by omega)), rfl⟩
set_option maxHeartbeats 1000000 in
set_option maxRecDepth 100000 in
theorem c_X8_isPile (l : Launch) (E : wEnv) (σ : Mem) (r : Row) (N : Int) (hM : RR σ r) (hR : RInv r N) (p : Int) (hp : I32 p) : MetC l E yX8_isPile cX8_isPile 2 (some .boolean) 1 22 [rv E (12), iv (p)] σ (fun v σ' => σ = σ' ∧ ((0 ≤ p ∧ p < r 19) ∧ v = some (iv 1) ∨ ¬ (0 ≤ p ∧ p < r 19) ∧ v = some (iv 0))) := by
  refine MetC.of (own := RX8) (by decide) rfl (by simp [Value.category]) (Nat.le_of_ble_eq_true rfl) [some (rv E (12)), some (iv (p))] rfl (by simp) (fun K X R => ?_)
  have r19 := hR.2.2.2.2.1
  have r0 := hR.1
  have rN := hR.2.2.2.2.2.1
  refine g_iload_n X dX8_isPile_0 rfl ?_
  refine g_iconst X dX8_isPile_1 ?_
  refine g_aload_n X dX8_isPile_2 rfl ?_
  refine gf_X8_7 X fk12 dX8_isPile_3 ?_
  refine g_bipush X dX8_isPile_6 (by decide) ?_
  refine g_iald X fk13 fl13 (by omega) (by omega) (by decide) (hM.at (n := 19) (by omega) (by omega)) dX8_isPile_8 ?_
  refine g_iconst X dX8_isPile_9 ?_
  refine g_isub X dX8_isPile_10 ?_
  refine cl_X8_51 X (c_X8_in l E σ p 0 (r 19 - 1) ⟨by omega, by omega⟩ ⟨by decide, by decide⟩ ⟨by omega, by omega⟩) ⟨Nat.le_of_ble_eq_true rfl, Nat.le_of_ble_eq_true rfl⟩ rfl (Nat.le_of_ble_eq_true rfl) dX8_isPile_11 rfl (fun v1 τ2 p3 => ?_)
  obtain ⟨rfl, ⟨b4, rfl⟩ | ⟨b4, rfl⟩⟩ := p3
  · skip
    skip
    exact R _ _ _ _ (Or.inr (by decide)) dX8_isPile_14 ⟨rfl, Or.inl ⟨by omega, rfl⟩⟩
  · skip
    skip
    exact R _ _ _ _ (Or.inl (by decide)) dX8_isPile_14 ⟨rfl, Or.inr ⟨by omega, rfl⟩⟩
set_option maxHeartbeats 1000000 in
set_option maxRecDepth 100000 in
theorem c_X8_stratumAt (l : Launch) (E : wEnv) (σ : Mem) (r : Row) (N : Int) (hM : RR σ r) (hR : RInv r N) (d : Int) (hd : I32 d) : MetC l E yX8_stratumAt cX8_stratumAt 4 (some .int) 0 0 [rv E (12), iv (d)] σ (fun v σ' => v = some (iv (if (layR r d : Int) < r 0 then layR r d else -4)) ∧ σ = σ') := by
  refine MetC.of (own := RX8) (by decide) rfl (by simp [Value.category]) (Nat.le_of_ble_eq_true rfl) [some (rv E (12)), some (iv (d)), none, none] rfl (by simp) (fun K X R => ?_)
  have r19 := hR.2.2.2.2.1
  have r0 := hR.1
  have rN := hR.2.2.2.2.2.1
  refine g_iconst X dX8_stratumAt_0 ?_
  refine g_istore_n X (lw := [some (rv E (12)), some (iv (d)), some (iv (0)), none]) dX8_stratumAt_1 (by decide) rfl rfl ?_
  refine g_iconst X dX8_stratumAt_2 ?_
  refine g_istore_n X (lw := [some (rv E (12)), some (iv (d)), some (iv (0)), some (iv (0))]) dX8_stratumAt_3 (by decide) rfl rfl ?_
  have L1 : ∀ (fu : Nat) (b k : Int), (0 ≤ k) → (k ≤ r 0) → (0 ≤ b ∧ b ≤ 20000 * k) → (lay (fun j => r (1 + j)) d (r 0 - k).toNat k.toNat b = layR r d) → r 0 - k < (fu : Int) → K σ 4 [some (rv E (12)), some (iv (d)), some (iv (b)), some (iv (k))] [] := by
    intro fu
    induction fu with
    | zero =>
      intro b k j1 j2 j3 j4 hm
      exact absurd hm (by omega)
    | succ fu ih1 =>
      intro b k j1 j2 j3 j4 hm
      have r1 := hR.2.1 k.toNat
      refine g_iload_n X dX8_stratumAt_4 rfl ?_
      refine g_aload_n X dX8_stratumAt_5 rfl ?_
      refine gf_X8_7 X fk12 dX8_stratumAt_6 ?_
      refine g_iconst X dX8_stratumAt_9 ?_
      refine g_iald X fk13 fl13 (by omega) (by omega) (by decide) (hM.at (n := 0) (by omega) (by omega)) dX8_stratumAt_10 ?_
      refine g_icmp_ge X (tgt := 38) dX8_stratumAt_11 (by decide) ⟨by omega, by omega⟩ ⟨by omega, by omega⟩ (fun c2 => ?_) (fun c2 => ?_)
      · skip
        refine g_bipush X dX8_stratumAt_38 (by decide) ?_
        exact R _ _ _ _ dX8_stratumAt_40 ⟨congrArg (fun z => some (iv z)) (by rw [← j4, show (r 0 - k).toNat = 0 by omega, lay, if_neg (by omega)]), rfl⟩
      · skip
        refine g_iload_n X dX8_stratumAt_14 rfl ?_
        refine g_aload_n X dX8_stratumAt_15 rfl ?_
        refine gf_X8_7 X fk12 dX8_stratumAt_16 ?_
        refine g_iconst X dX8_stratumAt_19 ?_
        refine g_iload_n X dX8_stratumAt_20 rfl ?_
        refine g_iadd X dX8_stratumAt_21 ?_
        refine g_iald X fk13 fl13 (by omega) (by omega) (by decide) (hM.at (n := (1 + k.toNat)) (by omega) (by omega)) dX8_stratumAt_22 ?_
        refine g_iadd X dX8_stratumAt_23 ?_
        refine g_istore_n X (lw := [some (rv E (12)), some (iv (d)), some (iv (b + (r (1 + k.toNat)))), some (iv (k))]) dX8_stratumAt_24 (by decide) rfl rfl ?_
        refine g_iload_n X dX8_stratumAt_25 rfl ?_
        refine g_iload_n X dX8_stratumAt_26 rfl ?_
        refine g_icmp_ge X (tgt := 32) dX8_stratumAt_27 (by decide) ⟨by omega, by omega⟩ ⟨by omega, by omega⟩ (fun c3 => ?_) (fun c3 => ?_)
        · skip
          refine g_iinc X (lw := [some (rv E (12)), some (iv (d)), some (iv (b + (r (1 + k.toNat)))), some (iv (k + 1))]) dX8_stratumAt_32 rfl (by decide) rfl rfl ?_
          refine g_goto X (tgt := 4) dX8_stratumAt_35 (by decide) ?_
          exact ih1  (b + (r (1 + k.toNat))) (k + 1) (by omega) (by omega) (by omega) (by rw [← j4, show (r 0 - k).toNat = (r 0 - (k + 1)).toNat + 1 by omega, lay, if_neg (by omega), show (k + 1).toNat = k.toNat + 1 by omega]) (by omega)
        · skip
          refine g_iload_n X dX8_stratumAt_30 rfl ?_
          exact R _ _ _ _ dX8_stratumAt_31 ⟨congrArg (fun z => some (iv z)) (by have e : layR r d = k.toNat := by { rw [← j4, show (r 0 - k).toNat = (r 0 - k - 1).toNat + 1 by omega, lay, if_pos (by omega)] }; rw [e, if_pos (by omega)]; omega), rfl⟩
  exact L1 _  0 0 (by omega) (by omega) (by omega) (by unfold layR; simp) (by exact Int.lt_toNat_succ _)
set_option maxHeartbeats 1000000 in
set_option maxRecDepth 100000 in
theorem c_X8_hardness (l : Launch) (E : wEnv) (σ : Mem) (r : Row) (N : Int) (hM : RR σ r) (hR : RInv r N) (d : Int) (hd : I32 d) : MetC l E yX8_hardness cX8_hardness 3 (some .int) 1 23 [rv E (12), iv (d)] σ (fun v σ' => v = some (iv (hardR r d)) ∧ σ = σ') := by
  refine MetC.of (own := RX8) (by decide) rfl (by simp [Value.category]) (Nat.le_of_ble_eq_true rfl) [some (rv E (12)), some (iv (d)), none] rfl (by simp) (fun K X R => ?_)
  have r19 := hR.2.2.2.2.1
  have r0 := hR.1
  have rN := hR.2.2.2.2.2.1
  refine g_aload_n X dX8_hardness_0 rfl ?_
  refine g_iload_n X dX8_hardness_1 rfl ?_
  refine cl_X8_58 X (c_X8_stratumAt l E σ r N hM hR d ⟨by omega, by omega⟩) fk12 ⟨Nat.le_of_ble_eq_true rfl, Nat.le_of_ble_eq_true rfl⟩ rfl (Nat.le_of_ble_eq_true rfl) dX8_hardness_2 rfl (fun v1 τ2 p3 => ?_)
  obtain ⟨rfl, rfl⟩ := p3
  have ly2 := layR_le r d
  refine g_istore_n X (lw := [some (rv E (12)), some (iv (d)), some (iv (if ((layR r d : Nat) : Int) < r 0 then ((layR r d : Nat) : Int) else -4))]) dX8_hardness_5 (by decide) rfl rfl ?_
  refine g_iload_n X dX8_hardness_6 rfl ?_
  refine g_if_ge X (tgt := 16) dX8_hardness_7 (by decide) ⟨by omega, by omega⟩ (fun c4 => ?_) (fun c4 => ?_)
  · skip
    refine g_aload_n X dX8_hardness_16 rfl ?_
    refine gf_X8_7 X fk12 dX8_hardness_17 ?_
    refine g_bipush X dX8_hardness_20 (by decide) ?_
    refine g_iload_n X dX8_hardness_22 rfl ?_
    refine g_iadd X dX8_hardness_23 ?_
    refine g_iald X fk13 fl13 (by omega) (by omega) (by decide) (hM.at (n := (7 + (if ((layR r d : Nat) : Int) < r 0 then ((layR r d : Nat) : Int) else -4)).toNat) (by omega) (by omega)) dX8_hardness_24 ?_
    exact R _ _ _ _ dX8_hardness_25 ⟨congrArg (fun z => some (iv z)) (by unfold hardR; first | (exfalso; omega) | (have e : (layR r d : Int) < r 0 := (by omega); simp only [if_pos e]; exact congrArg r (by omega))), rfl⟩
  · skip
    refine g_sipush X dX8_hardness_10 (by decide) ?_
    refine g_goto X (tgt := 25) dX8_hardness_13 (by decide) ?_
    exact R _ _ _ _ dX8_hardness_25 ⟨congrArg (fun z => some (iv z)) (by unfold hardR; first | (exfalso; omega) | (rw [if_neg (by omega)])), rfl⟩
set_option maxHeartbeats 1000000 in
set_option maxRecDepth 100000 in
theorem c_X8_begins (l : Launch) (E : wEnv) (σ : Mem) (r : Row) (N : Int) (hM : RR σ r) (hR : RInv r N) (k : Int) (hk0 : 0 ≤ k) (hk : k ≤ 6) : MetC l E yX8_begins cX8_begins 4 (some .int) 0 0 [rv E (12), iv (k)] σ (fun v σ' => v = some (iv (sumT (fun j => r (1 + j)) k.toNat)) ∧ σ = σ') := by
  refine MetC.of (own := RX8) (by decide) rfl (by simp [Value.category]) (Nat.le_of_ble_eq_true rfl) [some (rv E (12)), some (iv (k)), none, none] rfl (by simp) (fun K X R => ?_)
  have r19 := hR.2.2.2.2.1
  have r0 := hR.1
  have rN := hR.2.2.2.2.2.1
  refine g_iconst X dX8_begins_0 ?_
  refine g_istore_n X (lw := [some (rv E (12)), some (iv (k)), some (iv (0)), none]) dX8_begins_1 (by decide) rfl rfl ?_
  refine g_iconst X dX8_begins_2 ?_
  refine g_istore_n X (lw := [some (rv E (12)), some (iv (k)), some (iv (0)), some (iv (0))]) dX8_begins_3 (by decide) rfl rfl ?_
  have L1 : ∀ (fu : Nat) (b i : Int), (0 ≤ i) → (i ≤ k) → (b = sumT (fun j => r (1 + j)) i.toNat) → k - i < (fu : Int) → K σ 4 [some (rv E (12)), some (iv (k)), some (iv (b)), some (iv (i))] [] := by
    intro fu
    induction fu with
    | zero =>
      intro b i j1 j2 j3 hm
      exact absurd hm (by omega)
    | succ fu ih1 =>
      intro b i j1 j2 j3 hm
      refine g_iload_n X dX8_begins_4 rfl ?_
      refine g_iload_n X dX8_begins_5 rfl ?_
      refine g_icmp_ge X (tgt := 26) dX8_begins_6 (by decide) ⟨by omega, by omega⟩ ⟨by omega, by omega⟩ (fun c2 => ?_) (fun c2 => ?_)
      · skip
        refine g_iload_n X dX8_begins_26 rfl ?_
        exact R _ _ _ _ dX8_begins_27 ⟨congrArg (fun z => some (iv z)) (by rw [j3, show k.toNat = i.toNat by omega]), rfl⟩
      · skip
        refine g_iload_n X dX8_begins_9 rfl ?_
        refine g_aload_n X dX8_begins_10 rfl ?_
        refine gf_X8_7 X fk12 dX8_begins_11 ?_
        refine g_iconst X dX8_begins_14 ?_
        refine g_iload_n X dX8_begins_15 rfl ?_
        refine g_iadd X dX8_begins_16 ?_
        refine g_iald X fk13 fl13 (by omega) (by omega) (by decide) (hM.at (n := (1 + i.toNat)) (by omega) (by omega)) dX8_begins_17 ?_
        refine g_iadd X dX8_begins_18 ?_
        refine g_istore_n X (lw := [some (rv E (12)), some (iv (k)), some (iv (b + (r (1 + i.toNat)))), some (iv (i))]) dX8_begins_19 (by decide) rfl rfl ?_
        refine g_iinc X (lw := [some (rv E (12)), some (iv (k)), some (iv (b + (r (1 + i.toNat)))), some (iv (i + 1))]) dX8_begins_20 rfl (by decide) rfl rfl ?_
        refine g_goto X (tgt := 4) dX8_begins_23 (by decide) ?_
        exact ih1  (b + (r (1 + i.toNat))) (i + 1) (by omega) (by omega) (by rw [show (i + 1).toNat = i.toNat + 1 by omega, sumT, ← j3]) (by omega)
  exact L1 _  0 0 (by omega) (by omega) (by rfl) (by exact Int.lt_toNat_succ _)
set_option maxHeartbeats 1000000 in
set_option maxRecDepth 100000 in
theorem c_X8_feetIn (l : Launch) (E : wEnv) (σ : Mem) (r : Row) (N : Int) (hM : RR σ r) (hR : RInv r N) (k : Int) (hk : 0 ≤ k ∧ k < r 0) : MetC l E yX8_feetIn cX8_feetIn 4 (some .int) 1 23 [rv E (12), iv (k)] σ (fun v σ' => v = some (iv (cnt (feetP r k) (r 19).toNat)) ∧ σ = σ') := by
  refine MetC.of (own := RX8) (by decide) rfl (by simp [Value.category]) (Nat.le_of_ble_eq_true rfl) [some (rv E (12)), some (iv (k)), none, none] rfl (by simp) (fun K X R => ?_)
  have r19 := hR.2.2.2.2.1
  have r0 := hR.1
  have rN := hR.2.2.2.2.2.1
  refine g_iconst X dX8_feetIn_0 ?_
  refine g_istore_n X (lw := [some (rv E (12)), some (iv (k)), some (iv (0)), none]) dX8_feetIn_1 (by decide) rfl rfl ?_
  refine g_iconst X dX8_feetIn_2 ?_
  refine g_istore_n X (lw := [some (rv E (12)), some (iv (k)), some (iv (0)), some (iv (0))]) dX8_feetIn_3 (by decide) rfl rfl ?_
  have L1 : ∀ (fu : Nat) (n i : Int), (0 ≤ i) → (i ≤ r 19) → (n = cnt (feetP r k) i.toNat) → r 19 - i < (fu : Int) → K σ 4 [some (rv E (12)), some (iv (k)), some (iv (n)), some (iv (i))] [] := by
    intro fu
    induction fu with
    | zero =>
      intro n i j1 j2 j3 hm
      exact absurd hm (by omega)
    | succ fu ih1 =>
      intro n i j1 j2 j3 hm
      have cb := cnt_bd (feetP r k) i.toNat
      have pi : i < r 19 → _ := fun q => (hR.2.2.2.2.2.2 i.toNat (by omega)).f
      have ly := layR_le r (r (24 + 91 * i.toNat + 3))
      refine g_iload_n X dX8_feetIn_4 rfl ?_
      refine g_aload_n X dX8_feetIn_5 rfl ?_
      refine gf_X8_7 X fk12 dX8_feetIn_6 ?_
      refine g_bipush X dX8_feetIn_9 (by decide) ?_
      refine g_iald X fk13 fl13 (by omega) (by omega) (by decide) (hM.at (n := 19) (by omega) (by omega)) dX8_feetIn_11 ?_
      refine g_icmp_ge X (tgt := 43) dX8_feetIn_12 (by decide) ⟨by omega, by omega⟩ ⟨by omega, by omega⟩ (fun c2 => ?_) (fun c2 => ?_)
      · skip
        refine g_iload_n X dX8_feetIn_43 rfl ?_
        exact R _ _ _ _ dX8_feetIn_44 ⟨congrArg (fun z => some (iv z)) (by rw [j3, show i.toNat = (r 19).toNat by omega]), rfl⟩
      · skip
        refine g_iload_n X dX8_feetIn_15 rfl ?_
        refine g_aload_n X dX8_feetIn_16 rfl ?_
        refine g_aload_n X dX8_feetIn_17 rfl ?_
        refine g_iload_n X dX8_feetIn_18 rfl ?_
        refine g_iconst X dX8_feetIn_19 ?_
        refine cl_X8_62 X (c_X8_of l E σ r N hM hR i 3 (24 + 91 * i.toNat + 3) (by omega) (by omega) (by omega)) fk12 ⟨Nat.le_of_ble_eq_true rfl, Nat.le_of_ble_eq_true rfl⟩ rfl (Nat.le_of_ble_eq_true rfl) dX8_feetIn_20 rfl (fun v3 τ4 p5 => ?_)
        obtain ⟨rfl, rfl⟩ := p5
        refine cl_X8_58 X (c_X8_stratumAt l E σ r N hM hR (r (24 + 91 * i.toNat + 3)) ⟨by omega, by omega⟩) fk12 ⟨Nat.le_of_ble_eq_true rfl, Nat.le_of_ble_eq_true rfl⟩ rfl (Nat.le_of_ble_eq_true rfl) dX8_feetIn_23 rfl (fun v6 τ7 p8 => ?_)
        obtain ⟨rfl, rfl⟩ := p8
        have ly23 := layR_le r (r (24 + 91 * i.toNat + 3))
        refine g_iload_n X dX8_feetIn_26 rfl ?_
        refine g_icmp_ne X (tgt := 34) dX8_feetIn_27 (by decide) ⟨by omega, by omega⟩ ⟨by omega, by omega⟩ (fun c9 => ?_) (fun c9 => ?_)
        · skip
          refine g_iconst X dX8_feetIn_34 ?_
          refine g_iadd X dX8_feetIn_35 ?_
          refine g_istore_n X (lw := [some (rv E (12)), some (iv (k)), some (iv (n + 0)), some (iv (i))]) dX8_feetIn_36 (by decide) rfl rfl ?_
          refine g_iinc X (lw := [some (rv E (12)), some (iv (k)), some (iv (n + 0)), some (iv (i + 1))]) dX8_feetIn_37 rfl (by decide) rfl rfl ?_
          refine g_goto X (tgt := 4) dX8_feetIn_40 (by decide) ?_
          exact ih1  (n + 0) (i + 1) (by omega) (by omega) (by rw [show (i + 1).toNat = i.toNat + 1 by omega, cnt, ← j3]; first | (rw [if_pos (show _ = true from by unfold feetP; exact decide_eq_true (by omega))]; try omega) | (rw [if_neg (show ¬ _ = true from fun q => absurd (of_decide_eq_true (by unfold feetP at q; exact q)) (by omega))]; try omega)) (by omega)
        · skip
          refine g_iconst X dX8_feetIn_30 ?_
          refine g_goto X (tgt := 35) dX8_feetIn_31 (by decide) ?_
          refine g_iadd X dX8_feetIn_35 ?_
          refine g_istore_n X (lw := [some (rv E (12)), some (iv (k)), some (iv (n + 1)), some (iv (i))]) dX8_feetIn_36 (by decide) rfl rfl ?_
          refine g_iinc X (lw := [some (rv E (12)), some (iv (k)), some (iv (n + 1)), some (iv (i + 1))]) dX8_feetIn_37 rfl (by decide) rfl rfl ?_
          refine g_goto X (tgt := 4) dX8_feetIn_40 (by decide) ?_
          exact ih1  (n + 1) (i + 1) (by omega) (by omega) (by rw [show (i + 1).toNat = i.toNat + 1 by omega, cnt, ← j3]; first | (rw [if_pos (show _ = true from by unfold feetP; exact decide_eq_true (by omega))]; try omega) | (rw [if_neg (show ¬ _ = true from fun q => absurd (of_decide_eq_true (by unfold feetP at q; exact q)) (by omega))]; try omega)) (by omega)
  exact L1 _  0 0 (by omega) (by omega) (by rfl) (by exact Int.lt_toNat_succ _)
set_option maxHeartbeats 1000000 in
set_option maxRecDepth 100000 in
theorem c_X8_loosePiles (l : Launch) (E : wEnv) (σ : Mem) (r : Row) (N : Int) (hM : RR σ r) (hR : RInv r N) : MetC l E yX8_loosePiles cX8_loosePiles 3 (some .int) 1 22 [rv E (12)] σ (fun v σ' => v = some (iv (cnt (looseP r) (r 19).toNat)) ∧ σ = σ') := by
  refine MetC.of (own := RX8) (by decide) rfl (by simp [Value.category]) (Nat.le_of_ble_eq_true rfl) [some (rv E (12)), none, none] rfl (by simp) (fun K X R => ?_)
  have r19 := hR.2.2.2.2.1
  have r0 := hR.1
  have rN := hR.2.2.2.2.2.1
  refine g_iconst X dX8_loosePiles_0 ?_
  refine g_istore_n X (lw := [some (rv E (12)), some (iv (0)), none]) dX8_loosePiles_1 (by decide) rfl rfl ?_
  refine g_iconst X dX8_loosePiles_2 ?_
  refine g_istore_n X (lw := [some (rv E (12)), some (iv (0)), some (iv (0))]) dX8_loosePiles_3 (by decide) rfl rfl ?_
  have L1 : ∀ (fu : Nat) (n i : Int), (0 ≤ i) → (i ≤ r 19) → (n = cnt (looseP r) i.toNat) → r 19 - i < (fu : Int) → K σ 4 [some (rv E (12)), some (iv (n)), some (iv (i))] [] := by
    intro fu
    induction fu with
    | zero =>
      intro n i j1 j2 j3 hm
      exact absurd hm (by omega)
    | succ fu ih1 =>
      intro n i j1 j2 j3 hm
      refine g_iload_n X dX8_loosePiles_4 rfl ?_
      refine g_aload_n X dX8_loosePiles_5 rfl ?_
      refine gf_X8_7 X fk12 dX8_loosePiles_6 ?_
      refine g_bipush X dX8_loosePiles_9 (by decide) ?_
      refine g_iald X fk13 fl13 (by omega) (by omega) (by decide) (hM.at (n := 19) (by omega) (by omega)) dX8_loosePiles_11 ?_
      refine g_icmp_ge X (tgt := 31) dX8_loosePiles_12 (by decide) ⟨by omega, by omega⟩ ⟨by omega, by omega⟩ (fun c2 => ?_) (fun c2 => ?_)
      · skip
        refine g_iload_n X dX8_loosePiles_31 rfl ?_
        exact R _ _ _ _ dX8_loosePiles_32 ⟨congrArg (fun z => some (iv z)) (by rw [j3, show i.toNat = (r 19).toNat by omega]), rfl⟩
      · skip
        refine g_iload_n X dX8_loosePiles_15 rfl ?_
        refine g_aload_n X dX8_loosePiles_16 rfl ?_
        refine g_iload_n X dX8_loosePiles_17 rfl ?_
        refine g_bipush X dX8_loosePiles_18 (by decide) ?_
        refine cl_X8_62 X (c_X8_of l E σ r N hM hR i 6 (24 + 91 * i.toNat + 6) (by omega) (by omega) (by omega)) fk12 ⟨Nat.le_of_ble_eq_true rfl, Nat.le_of_ble_eq_true rfl⟩ rfl (Nat.le_of_ble_eq_true rfl) dX8_loosePiles_20 rfl (fun v3 τ4 p5 => ?_)
        obtain ⟨rfl, rfl⟩ := p5
        refine g_iadd X dX8_loosePiles_23 ?_
        refine g_istore_n X (lw := [some (rv E (12)), some (iv (n + (r (24 + 91 * i.toNat + 6)))), some (iv (i))]) dX8_loosePiles_24 (by decide) rfl rfl ?_
        refine g_iinc X (lw := [some (rv E (12)), some (iv (n + (r (24 + 91 * i.toNat + 6)))), some (iv (i + 1))]) dX8_loosePiles_25 rfl (by decide) rfl rfl ?_
        refine g_goto X (tgt := 4) dX8_loosePiles_28 (by decide) ?_
        exact ih1  (n + (r (24 + 91 * i.toNat + 6))) (i + 1) (by omega) (by omega) (by rw [show (i + 1).toNat = i.toNat + 1 by omega, cnt, ← j3]; unfold looseP; have q := (hR.2.2.2.2.2.2 i.toNat (by omega)).f; by_cases h : r (24 + 91 * i.toNat + 6) = 1; (rw [if_pos (decide_eq_true h)]; omega); (rw [if_neg (fun z => h (of_decide_eq_true z))]; omega)) (by omega)
  exact L1 _  0 0 (by omega) (by omega) (by rfl) (by exact Int.lt_toNat_succ _)
set_option maxHeartbeats 1000000 in
set_option maxRecDepth 100000 in
theorem c_X8_feet (l : Launch) (E : wEnv) (σ : Mem) (r : Row) (N : Int) (hM : RR σ r) (hR : RInv r N) : MetC l E yX8_feet cX8_feet 3 (some .int) 1 22 [rv E (12)] σ (fun v σ' => v = some (iv (sumT (fun j => r (24 + 91 * j + 3)) (r 19).toNat)) ∧ σ = σ') := by
  refine MetC.of (own := RX8) (by decide) rfl (by simp [Value.category]) (Nat.le_of_ble_eq_true rfl) [some (rv E (12)), none, none] rfl (by simp) (fun K X R => ?_)
  have r19 := hR.2.2.2.2.1
  have r0 := hR.1
  have rN := hR.2.2.2.2.2.1
  refine g_iconst X dX8_feet_0 ?_
  refine g_istore_n X (lw := [some (rv E (12)), some (iv (0)), none]) dX8_feet_1 (by decide) rfl rfl ?_
  refine g_iconst X dX8_feet_2 ?_
  refine g_istore_n X (lw := [some (rv E (12)), some (iv (0)), some (iv (0))]) dX8_feet_3 (by decide) rfl rfl ?_
  have L1 : ∀ (fu : Nat) (n i : Int), (0 ≤ i) → (i ≤ r 19) → (n = sumT (fun j => r (24 + 91 * j + 3)) i.toNat) → r 19 - i < (fu : Int) → K σ 4 [some (rv E (12)), some (iv (n)), some (iv (i))] [] := by
    intro fu
    induction fu with
    | zero =>
      intro n i j1 j2 j3 hm
      exact absurd hm (by omega)
    | succ fu ih1 =>
      intro n i j1 j2 j3 hm
      refine g_iload_n X dX8_feet_4 rfl ?_
      refine g_aload_n X dX8_feet_5 rfl ?_
      refine gf_X8_7 X fk12 dX8_feet_6 ?_
      refine g_bipush X dX8_feet_9 (by decide) ?_
      refine g_iald X fk13 fl13 (by omega) (by omega) (by decide) (hM.at (n := 19) (by omega) (by omega)) dX8_feet_11 ?_
      refine g_icmp_ge X (tgt := 30) dX8_feet_12 (by decide) ⟨by omega, by omega⟩ ⟨by omega, by omega⟩ (fun c2 => ?_) (fun c2 => ?_)
      · skip
        refine g_iload_n X dX8_feet_30 rfl ?_
        exact R _ _ _ _ dX8_feet_31 ⟨congrArg (fun z => some (iv z)) (by rw [j3, show i.toNat = (r 19).toNat by omega]), rfl⟩
      · skip
        refine g_iload_n X dX8_feet_15 rfl ?_
        refine g_aload_n X dX8_feet_16 rfl ?_
        refine g_iload_n X dX8_feet_17 rfl ?_
        refine g_iconst X dX8_feet_18 ?_
        refine cl_X8_62 X (c_X8_of l E σ r N hM hR i 3 (24 + 91 * i.toNat + 3) (by omega) (by omega) (by omega)) fk12 ⟨Nat.le_of_ble_eq_true rfl, Nat.le_of_ble_eq_true rfl⟩ rfl (Nat.le_of_ble_eq_true rfl) dX8_feet_19 rfl (fun v3 τ4 p5 => ?_)
        obtain ⟨rfl, rfl⟩ := p5
        refine g_iadd X dX8_feet_22 ?_
        refine g_istore_n X (lw := [some (rv E (12)), some (iv (n + (r (24 + 91 * i.toNat + 3)))), some (iv (i))]) dX8_feet_23 (by decide) rfl rfl ?_
        refine g_iinc X (lw := [some (rv E (12)), some (iv (n + (r (24 + 91 * i.toNat + 3)))), some (iv (i + 1))]) dX8_feet_24 rfl (by decide) rfl rfl ?_
        refine g_goto X (tgt := 4) dX8_feet_27 (by decide) ?_
        exact ih1  (n + (r (24 + 91 * i.toNat + 3))) (i + 1) (by omega) (by omega) (by rw [show (i + 1).toNat = i.toNat + 1 by omega, sumT, ← j3]) (by omega)
  exact L1 _  0 0 (by omega) (by omega) (by rfl) (by exact Int.lt_toNat_succ _)
set_option maxHeartbeats 1000000 in
set_option maxRecDepth 100000 in
theorem c_X8_areNear (l : Launch) (E : wEnv) (σ : Mem) (r : Row) (N : Int) (hM : RR σ r) (hR : RInv r N) (p q : Int) (hp : 0 ≤ p ∧ p < r 19) (hq : 0 ≤ q ∧ q < r 19) : MetC l E yX8_areNear cX8_areNear 4 (some .boolean) 1 22 [rv E (12), iv (p), iv (q)] σ (fun v σ' => σ = σ' ∧ (nearB r p.toNat q.toNat = true ∧ v = some (iv 1) ∨ ¬ nearB r p.toNat q.toNat = true ∧ v = some (iv 0))) := by
  refine MetC.of (own := RX8) (by decide) rfl (by simp [Value.category]) (Nat.le_of_ble_eq_true rfl) [some (rv E (12)), some (iv (p)), some (iv (q)), none] rfl (by simp) (fun K X R => ?_)
  have r19 := hR.2.2.2.2.1
  have r0 := hR.1
  have rN := hR.2.2.2.2.2.1
  have ⟨⟨q13, q13b⟩, ⟨q14, q14b⟩, ⟨q15, q15b⟩, ⟨q16, q16b⟩, ⟨q17, q17b⟩, ⟨q18, q18b⟩⟩ := hR.2.2.2.1
  have hip := (hR.2.2.2.2.2.2 p.toNat (by omega)).f
  have hiq := (hR.2.2.2.2.2.2 q.toNat (by omega)).f
  refine g_aload_n X dX8_areNear_0 rfl ?_
  refine gf_X8_7 X fk12 dX8_areNear_1 ?_
  refine g_bipush X dX8_areNear_4 (by decide) ?_
  refine g_iald X fk13 fl13 (by omega) (by omega) (by decide) (hM.at (n := 17) (by omega) (by omega)) dX8_areNear_6 ?_
  refine g_istore_n X (lw := [some (rv E (12)), some (iv (p)), some (iv (q)), some (iv (r 17))]) dX8_areNear_7 (by decide) rfl rfl ?_
  refine g_iload_n X dX8_areNear_8 rfl ?_
  refine g_iload_n X dX8_areNear_9 rfl ?_
  refine g_icmp_eq X (tgt := 55) dX8_areNear_10 (by decide) ⟨by omega, by omega⟩ ⟨by omega, by omega⟩ (fun c1 => ?_) (fun c1 => ?_)
  · skip
    refine g_iconst X dX8_areNear_55 ?_
    exact R _ _ _ _ (Or.inl (by decide)) dX8_areNear_56 ⟨rfl, Or.inr ⟨fun q => by have q2 := nearB_iff.mp q; omega, rfl⟩⟩
  · skip
    refine g_aload_n X dX8_areNear_13 rfl ?_
    refine g_iload_n X dX8_areNear_14 rfl ?_
    refine g_iconst X dX8_areNear_15 ?_
    refine cl_X8_62 X (c_X8_of l E σ r N hM hR p 0 (24 + 91 * p.toNat + 0) (by omega) (by omega) (by omega)) fk12 ⟨Nat.le_of_ble_eq_true rfl, Nat.le_of_ble_eq_true rfl⟩ rfl (Nat.le_of_ble_eq_true rfl) dX8_areNear_16 rfl (fun v2 τ3 p4 => ?_)
    obtain ⟨rfl, rfl⟩ := p4
    refine g_aload_n X dX8_areNear_19 rfl ?_
    refine g_iload_n X dX8_areNear_20 rfl ?_
    refine g_iconst X dX8_areNear_21 ?_
    refine cl_X8_62 X (c_X8_of l E σ r N hM hR q 0 (24 + 91 * q.toNat + 0) (by omega) (by omega) (by omega)) fk12 ⟨Nat.le_of_ble_eq_true rfl, Nat.le_of_ble_eq_true rfl⟩ rfl (Nat.le_of_ble_eq_true rfl) dX8_areNear_22 rfl (fun v5 τ6 p7 => ?_)
    obtain ⟨rfl, rfl⟩ := p7
    refine cl_X8_97 X (c_X8_apart l E σ (r (24 + 91 * p.toNat + 0)) (r (24 + 91 * q.toNat + 0)) ⟨by omega, by omega⟩ ⟨by omega, by omega⟩) ⟨Nat.le_of_ble_eq_true rfl, Nat.le_of_ble_eq_true rfl⟩ rfl (Nat.le_of_ble_eq_true rfl) dX8_areNear_25 rfl (fun v8 τ9 p10 => ?_)
    obtain ⟨rfl, rfl⟩ := p10
    have ad25 : 0 ≤ adist (r (24 + 91 * p.toNat + 0)) (r (24 + 91 * q.toNat + 0)) ∧ (adist (r (24 + 91 * p.toNat + 0)) (r (24 + 91 * q.toNat + 0)) = r (24 + 91 * p.toNat + 0) - (r (24 + 91 * q.toNat + 0)) ∨ adist (r (24 + 91 * p.toNat + 0)) (r (24 + 91 * q.toNat + 0)) = r (24 + 91 * q.toNat + 0) - (r (24 + 91 * p.toNat + 0))) := by unfold adist; split <;> omega
    refine g_iload_n X dX8_areNear_28 rfl ?_
    refine g_icmp_gt X (tgt := 55) dX8_areNear_29 (by decide) ⟨by omega, by omega⟩ ⟨by omega, by omega⟩ (fun c11 => ?_) (fun c11 => ?_)
    · skip
      refine g_iconst X dX8_areNear_55 ?_
      exact R _ _ _ _ (Or.inl (by decide)) dX8_areNear_56 ⟨rfl, Or.inr ⟨fun q => by have q2 := nearB_iff.mp q; omega, rfl⟩⟩
    · skip
      refine g_aload_n X dX8_areNear_32 rfl ?_
      refine g_iload_n X dX8_areNear_33 rfl ?_
      refine g_iconst X dX8_areNear_34 ?_
      refine cl_X8_62 X (c_X8_of l E σ r N hM hR p 1 (24 + 91 * p.toNat + 1) (by omega) (by omega) (by omega)) fk12 ⟨Nat.le_of_ble_eq_true rfl, Nat.le_of_ble_eq_true rfl⟩ rfl (Nat.le_of_ble_eq_true rfl) dX8_areNear_35 rfl (fun v12 τ13 p14 => ?_)
      obtain ⟨rfl, rfl⟩ := p14
      refine g_aload_n X dX8_areNear_38 rfl ?_
      refine g_iload_n X dX8_areNear_39 rfl ?_
      refine g_iconst X dX8_areNear_40 ?_
      refine cl_X8_62 X (c_X8_of l E σ r N hM hR q 1 (24 + 91 * q.toNat + 1) (by omega) (by omega) (by omega)) fk12 ⟨Nat.le_of_ble_eq_true rfl, Nat.le_of_ble_eq_true rfl⟩ rfl (Nat.le_of_ble_eq_true rfl) dX8_areNear_41 rfl (fun v15 τ16 p17 => ?_)
      obtain ⟨rfl, rfl⟩ := p17
      refine cl_X8_97 X (c_X8_apart l E σ (r (24 + 91 * p.toNat + 1)) (r (24 + 91 * q.toNat + 1)) ⟨by omega, by omega⟩ ⟨by omega, by omega⟩) ⟨Nat.le_of_ble_eq_true rfl, Nat.le_of_ble_eq_true rfl⟩ rfl (Nat.le_of_ble_eq_true rfl) dX8_areNear_44 rfl (fun v18 τ19 p20 => ?_)
      obtain ⟨rfl, rfl⟩ := p20
      have ad44 : 0 ≤ adist (r (24 + 91 * p.toNat + 1)) (r (24 + 91 * q.toNat + 1)) ∧ (adist (r (24 + 91 * p.toNat + 1)) (r (24 + 91 * q.toNat + 1)) = r (24 + 91 * p.toNat + 1) - (r (24 + 91 * q.toNat + 1)) ∨ adist (r (24 + 91 * p.toNat + 1)) (r (24 + 91 * q.toNat + 1)) = r (24 + 91 * q.toNat + 1) - (r (24 + 91 * p.toNat + 1))) := by unfold adist; split <;> omega
      refine g_iload_n X dX8_areNear_47 rfl ?_
      refine g_icmp_gt X (tgt := 55) dX8_areNear_48 (by decide) ⟨by omega, by omega⟩ ⟨by omega, by omega⟩ (fun c21 => ?_) (fun c21 => ?_)
      · skip
        refine g_iconst X dX8_areNear_55 ?_
        exact R _ _ _ _ (Or.inl (by decide)) dX8_areNear_56 ⟨rfl, Or.inr ⟨fun q => by have q2 := nearB_iff.mp q; omega, rfl⟩⟩
      · skip
        refine g_iconst X dX8_areNear_51 ?_
        refine g_goto X (tgt := 56) dX8_areNear_52 (by decide) ?_
        exact R _ _ _ _ (Or.inr (by decide)) dX8_areNear_56 ⟨rfl, Or.inl ⟨nearB_iff.mpr ⟨by omega, by omega, by omega⟩, rfl⟩⟩
set_option maxHeartbeats 1000000 in
set_option maxRecDepth 100000 in
theorem c_X8_near (l : Launch) (E : wEnv) (σ : Mem) (r : Row) (N : Int) (hM : RR σ r) (hR : RInv r N) (p : Int) (hp : 0 ≤ p ∧ p < r 19) : MetC l E yX8_near cX8_near 4 (some .int) 2 45 [rv E (12), iv (p)] σ (fun v σ' => v = some (iv (cnt (fun j => nearB r p.toNat j) (r 19).toNat)) ∧ σ = σ') := by
  refine MetC.of (own := RX8) (by decide) rfl (by simp [Value.category]) (Nat.le_of_ble_eq_true rfl) [some (rv E (12)), some (iv (p)), none, none] rfl (by simp) (fun K X R => ?_)
  have r19 := hR.2.2.2.2.1
  have r0 := hR.1
  have rN := hR.2.2.2.2.2.1
  refine g_iconst X dX8_near_0 ?_
  refine g_istore_n X (lw := [some (rv E (12)), some (iv (p)), some (iv (0)), none]) dX8_near_1 (by decide) rfl rfl ?_
  refine g_iconst X dX8_near_2 ?_
  refine g_istore_n X (lw := [some (rv E (12)), some (iv (p)), some (iv (0)), some (iv (0))]) dX8_near_3 (by decide) rfl rfl ?_
  have L1 : ∀ (fu : Nat) (n i : Int), (0 ≤ i) → (i ≤ r 19) → (n = cnt (fun j => nearB r p.toNat j) i.toNat) → r 19 - i < (fu : Int) → K σ 4 [some (rv E (12)), some (iv (p)), some (iv (n)), some (iv (i))] [] := by
    intro fu
    induction fu with
    | zero =>
      intro n i j1 j2 j3 hm
      exact absurd hm (by omega)
    | succ fu ih1 =>
      intro n i j1 j2 j3 hm
      refine g_iload_n X dX8_near_4 rfl ?_
      refine g_aload_n X dX8_near_5 rfl ?_
      refine gf_X8_7 X fk12 dX8_near_6 ?_
      refine g_bipush X dX8_near_9 (by decide) ?_
      refine g_iald X fk13 fl13 (by omega) (by omega) (by decide) (hM.at (n := 19) (by omega) (by omega)) dX8_near_11 ?_
      refine g_icmp_ge X (tgt := 38) dX8_near_12 (by decide) ⟨by omega, by omega⟩ ⟨by omega, by omega⟩ (fun c2 => ?_) (fun c2 => ?_)
      · skip
        refine g_iload_n X dX8_near_38 rfl ?_
        exact R _ _ _ _ dX8_near_39 ⟨congrArg (fun z => some (iv z)) (by rw [j3, show i.toNat = (r 19).toNat by omega]), rfl⟩
      · skip
        refine g_iload_n X dX8_near_15 rfl ?_
        refine g_aload_n X dX8_near_16 rfl ?_
        refine g_iload_n X dX8_near_17 rfl ?_
        refine g_iload_n X dX8_near_18 rfl ?_
        refine cl_X8_100 X (c_X8_areNear l E σ r N hM hR p i (by omega) (by omega)) fk12 ⟨Nat.le_of_ble_eq_true rfl, Nat.le_of_ble_eq_true rfl⟩ rfl (Nat.le_of_ble_eq_true rfl) dX8_near_19 rfl (fun v3 τ4 p5 => ?_)
        obtain ⟨rfl, ⟨b6, rfl⟩ | ⟨b6, rfl⟩⟩ := p5
        · skip
          skip
          refine g_if_eq X (tgt := 29) dX8_near_22 (by decide) ⟨by decide, by decide⟩ (fun q => absurd q (by decide)) (fun _ => ?_)
          refine g_iconst X dX8_near_25 ?_
          refine g_goto X (tgt := 30) dX8_near_26 (by decide) ?_
          refine g_iadd X dX8_near_30 ?_
          refine g_istore_n X (lw := [some (rv E (12)), some (iv (p)), some (iv (n + 1)), some (iv (i))]) dX8_near_31 (by decide) rfl rfl ?_
          refine g_iinc X (lw := [some (rv E (12)), some (iv (p)), some (iv (n + 1)), some (iv (i + 1))]) dX8_near_32 rfl (by decide) rfl rfl ?_
          refine g_goto X (tgt := 4) dX8_near_35 (by decide) ?_
          exact ih1  (n + 1) (i + 1) (by omega) (by omega) (by rw [show (i + 1).toNat = i.toNat + 1 by omega, cnt, ← j3]; first | (rw [if_pos (by assumption)]; done) | (rw [if_neg (by assumption)]; done)) (by omega)
        · skip
          skip
          refine g_if_eq X (tgt := 29) dX8_near_22 (by decide) ⟨by decide, by decide⟩ (fun _ => ?_) (fun q => absurd q (by decide))
          refine g_iconst X dX8_near_29 ?_
          refine g_iadd X dX8_near_30 ?_
          refine g_istore_n X (lw := [some (rv E (12)), some (iv (p)), some (iv (n + 0)), some (iv (i))]) dX8_near_31 (by decide) rfl rfl ?_
          refine g_iinc X (lw := [some (rv E (12)), some (iv (p)), some (iv (n + 0)), some (iv (i + 1))]) dX8_near_32 rfl (by decide) rfl rfl ?_
          refine g_goto X (tgt := 4) dX8_near_35 (by decide) ?_
          exact ih1  (n + 0) (i + 1) (by omega) (by omega) (by rw [show (i + 1).toNat = i.toNat + 1 by omega, cnt, ← j3]; first | (rw [if_pos (by assumption)]; done) | (rw [if_neg (by assumption)]; done)) (by omega)
  exact L1 _  0 0 (by omega) (by omega) (by rfl) (by exact Int.lt_toNat_succ _)
set_option maxHeartbeats 1000000 in
set_option maxRecDepth 100000 in
theorem c_X8_allowed (l : Launch) (E : wEnv) (σ : Mem) (r : Row) (N : Int) (hM : RR σ r) (hR : RInv r N) (p : Int) (hp : 0 ≤ p ∧ p < r 19) : MetC l E yX8_allowed cX8_allowed 3 (some .int) 1 22 [rv E (12), iv (p)] σ (fun v σ' => v = some (iv (allowR r p.toNat)) ∧ σ = σ') := by
  refine MetC.of (own := RX8) (by decide) rfl (by simp [Value.category]) (Nat.le_of_ble_eq_true rfl) [some (rv E (12)), some (iv (p)), none] rfl (by simp) (fun K X R => ?_)
  have r19 := hR.2.2.2.2.1
  have r0 := hR.1
  have rN := hR.2.2.2.2.2.1
  have ⟨⟨q13, q13b⟩, ⟨q14, q14b⟩, ⟨q15, q15b⟩, ⟨q16, q16b⟩, ⟨q17, q17b⟩, ⟨q18, q18b⟩⟩ := hR.2.2.2.1
  have hip := (hR.2.2.2.2.2.2 p.toNat (by omega)).f
  have db := div_bd (a := r (24 + 91 * p.toNat + 5) * 100) (M := 10000000) (by omega) (by omega) (show 1 ≤ r 16 by omega)
  refine g_aload_n X dX8_allowed_0 rfl ?_
  refine g_iload_n X dX8_allowed_1 rfl ?_
  refine g_iconst X dX8_allowed_2 ?_
  refine cl_X8_62 X (c_X8_of l E σ r N hM hR p 5 (24 + 91 * p.toNat + 5) (by omega) (by omega) (by omega)) fk12 ⟨Nat.le_of_ble_eq_true rfl, Nat.le_of_ble_eq_true rfl⟩ rfl (Nat.le_of_ble_eq_true rfl) dX8_allowed_3 rfl (fun v1 τ2 p3 => ?_)
  obtain ⟨rfl, rfl⟩ := p3
  refine g_bipush X dX8_allowed_6 (by decide) ?_
  refine g_imul X dX8_allowed_8 ?_
  refine g_aload_n X dX8_allowed_9 rfl ?_
  refine gf_X8_7 X fk12 dX8_allowed_10 ?_
  refine g_bipush X dX8_allowed_13 (by decide) ?_
  refine g_iald X fk13 fl13 (by omega) (by omega) (by decide) (hM.at (n := 16) (by omega) (by omega)) dX8_allowed_15 ?_
  refine g_idiv X dX8_allowed_16 (by omega) (by omega) (by omega) (by omega) ?_
  refine g_istore_n X (lw := [some (rv E (12)), some (iv (p)), some (iv (((r (24 + 91 * p.toNat + 5)) * 100) / (r 16)))]) dX8_allowed_17 (by decide) rfl rfl ?_
  refine g_aload_n X dX8_allowed_18 rfl ?_
  refine g_iload_n X dX8_allowed_19 rfl ?_
  refine g_bipush X dX8_allowed_20 (by decide) ?_
  refine cl_X8_62 X (c_X8_of l E σ r N hM hR p 6 (24 + 91 * p.toNat + 6) (by omega) (by omega) (by omega)) fk12 ⟨Nat.le_of_ble_eq_true rfl, Nat.le_of_ble_eq_true rfl⟩ rfl (Nat.le_of_ble_eq_true rfl) dX8_allowed_22 rfl (fun v4 τ5 p6 => ?_)
  obtain ⟨rfl, rfl⟩ := p6
  refine g_iconst X dX8_allowed_25 ?_
  refine g_icmp_ne X (tgt := 35) dX8_allowed_26 (by decide) ⟨by omega, by omega⟩ ⟨by decide, by decide⟩ (fun c7 => ?_) (fun c7 => ?_)
  · skip
    refine g_iload_n X dX8_allowed_35 rfl ?_
    exact R _ _ _ _ dX8_allowed_36 ⟨congrArg (fun z => some (iv z)) (by unfold allowR; first | (rw [if_pos (by omega)]; done) | (rw [if_neg (by omega)]; done)), rfl⟩
  · skip
    refine g_iload_n X dX8_allowed_29 rfl ?_
    refine g_iconst X dX8_allowed_30 ?_
    refine g_idiv X dX8_allowed_31 (by omega) (by omega) (by decide) (by decide) ?_
    refine g_goto X (tgt := 36) dX8_allowed_32 (by decide) ?_
    exact R _ _ _ _ dX8_allowed_36 ⟨congrArg (fun z => some (iv z)) (by unfold allowR; first | (rw [if_pos (by omega)]; done) | (rw [if_neg (by omega)]; done)), rfl⟩
set_option maxHeartbeats 1000000 in
set_option maxRecDepth 100000 in
theorem c_X8_stands (l : Launch) (E : wEnv) (σ : Mem) (r : Row) (N : Int) (hM : RR σ r) (hR : RInv r N) (x y : Int) (hx : I32 x) (hy : I32 y) : MetC l E yX8_stands cX8_stands 5 (some .boolean) 1 22 [rv E (12), iv (x), iv (y)] σ (fun v σ' => σ = σ' ∧ ((∃ j : Nat, (j : Int) < r 19 ∧ r (24 + 91 * j + 0) = x ∧ r (24 + 91 * j + 1) = y) ∧ v = some (iv 1) ∨ ¬ (∃ j : Nat, (j : Int) < r 19 ∧ r (24 + 91 * j + 0) = x ∧ r (24 + 91 * j + 1) = y) ∧ v = some (iv 0))) := by
  refine MetC.of (own := RX8) (by decide) rfl (by simp [Value.category]) (Nat.le_of_ble_eq_true rfl) [some (rv E (12)), some (iv (x)), some (iv (y)), none, none] rfl (by simp) (fun K X R => ?_)
  have r19 := hR.2.2.2.2.1
  have r0 := hR.1
  have rN := hR.2.2.2.2.2.1
  refine g_iconst X dX8_stands_0 ?_
  refine g_istore_n X (lw := [some (rv E (12)), some (iv (x)), some (iv (y)), some (iv (0)), none]) dX8_stands_1 (by decide) rfl rfl ?_
  refine g_iconst X dX8_stands_2 ?_
  refine g_istore X (lw := [some (rv E (12)), some (iv (x)), some (iv (y)), some (iv (0)), some (iv (0))]) dX8_stands_3 (by decide) rfl rfl ?_
  have L1 : ∀ (fu : Nat) (z i : Int), (0 ≤ i) → (i ≤ r 19) → ((z = 1 ∧ ∃ j : Nat, (j : Int) < i ∧ r (24 + 91 * j + 0) = x ∧ r (24 + 91 * j + 1) = y) ∨ (z = 0 ∧ ∀ j : Nat, (j : Int) < i → ¬ (r (24 + 91 * j + 0) = x ∧ r (24 + 91 * j + 1) = y))) → r 19 - i < (fu : Int) → K σ 5 [some (rv E (12)), some (iv (x)), some (iv (y)), some (iv (z)), some (iv (i))] [] := by
    intro fu
    induction fu with
    | zero =>
      intro z i j1 j2 j3 hm
      exact absurd hm (by omega)
    | succ fu ih1 =>
      intro z i j1 j2 j3 hm
      have jz : z = 0 ∨ z = 1 := by rcases j3 with ⟨q, -⟩ | ⟨q, -⟩ <;> omega
      have pi : i < r 19 → _ := fun q => (hR.2.2.2.2.2.2 i.toNat (by omega)).f
      refine g_iload X dX8_stands_5 rfl ?_
      refine g_aload_n X dX8_stands_7 rfl ?_
      refine gf_X8_7 X fk12 dX8_stands_8 ?_
      refine g_bipush X dX8_stands_11 (by decide) ?_
      refine g_iald X fk13 fl13 (by omega) (by omega) (by decide) (hM.at (n := 19) (by omega) (by omega)) dX8_stands_13 ?_
      refine g_icmp_ge X (tgt := 55) dX8_stands_14 (by decide) ⟨by omega, by omega⟩ ⟨by omega, by omega⟩ (fun c2 => ?_) (fun c2 => ?_)
      · skip
        refine g_iload_n X dX8_stands_55 rfl ?_
        exact R _ _ _ _ (by rcases j3 with ⟨rfl, -⟩ | ⟨rfl, -⟩; exact Or.inr (by decide); exact Or.inl (by decide)) dX8_stands_56 ⟨rfl, by rcases j3 with ⟨rfl, q⟩ | ⟨rfl, q⟩; (exact Or.inl ⟨by (obtain ⟨j, a1, a2⟩ := q; exact ⟨j, by omega, a2⟩), rfl⟩); (exact Or.inr ⟨fun ⟨j, a1, a2, a3⟩ => q j (by omega) ⟨a2, a3⟩, rfl⟩)⟩
      · skip
        refine g_iload_n X dX8_stands_17 rfl ?_
        refine g_if_ne X (tgt := 43) dX8_stands_18 (by decide) ⟨by omega, by omega⟩ (fun c3 => ?_) (fun c3 => ?_)
        · skip
          refine g_iconst X dX8_stands_43 ?_
          refine g_goto X (tgt := 48) dX8_stands_44 (by decide) ?_
          refine g_istore_n X (lw := [some (rv E (12)), some (iv (x)), some (iv (y)), some (iv (1)), some (iv (i))]) dX8_stands_48 (by decide) rfl rfl ?_
          refine g_iinc X (lw := [some (rv E (12)), some (iv (x)), some (iv (y)), some (iv (1)), some (iv (i + 1))]) dX8_stands_49 rfl (by decide) rfl rfl ?_
          refine g_goto X (tgt := 5) dX8_stands_52 (by decide) ?_
          exact ih1  1 (i + 1) (by omega) (by omega) (by rcases j3 with ⟨jz, j, a1, a2⟩ | ⟨jz, q⟩; (first | (exact Or.inl ⟨rfl, j, by omega, a2⟩) | (exfalso; omega)); (first | (exfalso; omega) | (exact Or.inl ⟨rfl, i.toNat, by omega, by omega, by omega⟩) | (exact Or.inr ⟨rfl, fun j hj => by by_cases e : (j : Int) < i; exact q j e; (have e2 : j = i.toNat := by omega); subst e2; omega⟩))) (by omega)
        · skip
          refine g_aload_n X dX8_stands_21 rfl ?_
          refine g_iload X dX8_stands_22 rfl ?_
          refine g_iconst X dX8_stands_24 ?_
          refine cl_X8_62 X (c_X8_of l E σ r N hM hR i 0 (24 + 91 * i.toNat + 0) (by omega) (by omega) (by omega)) fk12 ⟨Nat.le_of_ble_eq_true rfl, Nat.le_of_ble_eq_true rfl⟩ rfl (Nat.le_of_ble_eq_true rfl) dX8_stands_25 rfl (fun v4 τ5 p6 => ?_)
          obtain ⟨rfl, rfl⟩ := p6
          refine g_iload_n X dX8_stands_28 rfl ?_
          refine g_icmp_ne X (tgt := 47) dX8_stands_29 (by decide) ⟨by omega, by omega⟩ ⟨by omega, by omega⟩ (fun c7 => ?_) (fun c7 => ?_)
          · skip
            refine g_iconst X dX8_stands_47 ?_
            refine g_istore_n X (lw := [some (rv E (12)), some (iv (x)), some (iv (y)), some (iv (0)), some (iv (i))]) dX8_stands_48 (by decide) rfl rfl ?_
            refine g_iinc X (lw := [some (rv E (12)), some (iv (x)), some (iv (y)), some (iv (0)), some (iv (i + 1))]) dX8_stands_49 rfl (by decide) rfl rfl ?_
            refine g_goto X (tgt := 5) dX8_stands_52 (by decide) ?_
            exact ih1  0 (i + 1) (by omega) (by omega) (by rcases j3 with ⟨jz, j, a1, a2⟩ | ⟨jz, q⟩; (first | (exact Or.inl ⟨rfl, j, by omega, a2⟩) | (exfalso; omega)); (first | (exfalso; omega) | (exact Or.inl ⟨rfl, i.toNat, by omega, by omega, by omega⟩) | (exact Or.inr ⟨rfl, fun j hj => by by_cases e : (j : Int) < i; exact q j e; (have e2 : j = i.toNat := by omega); subst e2; omega⟩))) (by omega)
          · skip
            refine g_aload_n X dX8_stands_32 rfl ?_
            refine g_iload X dX8_stands_33 rfl ?_
            refine g_iconst X dX8_stands_35 ?_
            refine cl_X8_62 X (c_X8_of l E σ r N hM hR i 1 (24 + 91 * i.toNat + 1) (by omega) (by omega) (by omega)) fk12 ⟨Nat.le_of_ble_eq_true rfl, Nat.le_of_ble_eq_true rfl⟩ rfl (Nat.le_of_ble_eq_true rfl) dX8_stands_36 rfl (fun v8 τ9 p10 => ?_)
            obtain ⟨rfl, rfl⟩ := p10
            refine g_iload_n X dX8_stands_39 rfl ?_
            refine g_icmp_ne X (tgt := 47) dX8_stands_40 (by decide) ⟨by omega, by omega⟩ ⟨by omega, by omega⟩ (fun c11 => ?_) (fun c11 => ?_)
            · skip
              refine g_iconst X dX8_stands_47 ?_
              refine g_istore_n X (lw := [some (rv E (12)), some (iv (x)), some (iv (y)), some (iv (0)), some (iv (i))]) dX8_stands_48 (by decide) rfl rfl ?_
              refine g_iinc X (lw := [some (rv E (12)), some (iv (x)), some (iv (y)), some (iv (0)), some (iv (i + 1))]) dX8_stands_49 rfl (by decide) rfl rfl ?_
              refine g_goto X (tgt := 5) dX8_stands_52 (by decide) ?_
              exact ih1  0 (i + 1) (by omega) (by omega) (by rcases j3 with ⟨jz, j, a1, a2⟩ | ⟨jz, q⟩; (first | (exact Or.inl ⟨rfl, j, by omega, a2⟩) | (exfalso; omega)); (first | (exfalso; omega) | (exact Or.inl ⟨rfl, i.toNat, by omega, by omega, by omega⟩) | (exact Or.inr ⟨rfl, fun j hj => by by_cases e : (j : Int) < i; exact q j e; (have e2 : j = i.toNat := by omega); subst e2; omega⟩))) (by omega)
            · skip
              refine g_iconst X dX8_stands_43 ?_
              refine g_goto X (tgt := 48) dX8_stands_44 (by decide) ?_
              refine g_istore_n X (lw := [some (rv E (12)), some (iv (x)), some (iv (y)), some (iv (1)), some (iv (i))]) dX8_stands_48 (by decide) rfl rfl ?_
              refine g_iinc X (lw := [some (rv E (12)), some (iv (x)), some (iv (y)), some (iv (1)), some (iv (i + 1))]) dX8_stands_49 rfl (by decide) rfl rfl ?_
              refine g_goto X (tgt := 5) dX8_stands_52 (by decide) ?_
              exact ih1  1 (i + 1) (by omega) (by omega) (by rcases j3 with ⟨jz, j, a1, a2⟩ | ⟨jz, q⟩; (first | (exact Or.inl ⟨rfl, j, by omega, a2⟩) | (exfalso; omega)); (first | (exfalso; omega) | (exact Or.inl ⟨rfl, i.toNat, by omega, by omega, by omega⟩) | (exact Or.inr ⟨rfl, fun j hj => by by_cases e : (j : Int) < i; exact q j e; (have e2 : j = i.toNat := by omega); subst e2; omega⟩))) (by omega)
  exact L1 _  0 0 (by omega) (by omega) (by exact Or.inr ⟨rfl, fun j hj => by omega⟩) (by exact Int.lt_toNat_succ _)
set_option maxHeartbeats 1000000 in
set_option maxRecDepth 100000 in
theorem c_X8_energy (l : Launch) (E : wEnv) (σ : Mem) (r : Row) (N : Int) (hM : RR σ r) (hR : RInv r N) (h : Int) (h0 : 0 ≤ h) (h1 : h ≤ 3000) : MetC l E yX8_energy cX8_energy 2 (some .int) 0 0 [rv E (12), iv (h)] σ (fun v σ' => v = some (iv (energyR r h)) ∧ σ = σ') := by
  refine MetC.of (own := RX8) (by decide) rfl (by simp [Value.category]) (Nat.le_of_ble_eq_true rfl) [some (rv E (12)), some (iv (h))] rfl (by simp) (fun K X R => ?_)
  have r19 := hR.2.2.2.2.1
  have r0 := hR.1
  have rN := hR.2.2.2.2.2.1
  have ⟨⟨q13, q13b⟩, ⟨q14, q14b⟩, ⟨q15, q15b⟩, ⟨q16, q16b⟩, ⟨q17, q17b⟩, ⟨q18, q18b⟩⟩ := hR.2.2.2.1
  have eb := energyR_bd hR h0 h1
  refine g_aload_n X dX8_energy_0 rfl ?_
  refine gf_X8_7 X fk12 dX8_energy_1 ?_
  refine g_bipush X dX8_energy_4 (by decide) ?_
  refine g_iald X fk13 fl13 (by omega) (by omega) (by decide) (hM.at (n := 13) (by omega) (by omega)) dX8_energy_6 ?_
  refine g_i2l X dX8_energy_7 ⟨by omega, by omega⟩ ?_
  refine g_iload_n X dX8_energy_8 rfl ?_
  refine g_i2l X dX8_energy_9 ⟨by omega, by omega⟩ ?_
  refine g_lmul X dX8_energy_10 ?_
  refine g_aload_n X dX8_energy_11 rfl ?_
  refine gf_X8_7 X fk12 dX8_energy_12 ?_
  refine g_bipush X dX8_energy_15 (by decide) ?_
  refine g_iald X fk13 fl13 (by omega) (by omega) (by decide) (hM.at (n := 14) (by omega) (by omega)) dX8_energy_17 ?_
  refine g_i2l X dX8_energy_18 ⟨by omega, by omega⟩ ?_
  refine g_lmul X dX8_energy_19 ?_
  refine g_ldc2 X (n := 10000) dX8_energy_20 wK_X8_113 (by decide) ?_
  refine g_ldiv X dX8_energy_23 (by omega) (by omega) (by decide) (by decide) ?_
  refine g_l2i X dX8_energy_24 ?_
  exact R _ _ _ _ dX8_energy_25 ⟨congrArg (fun z => some (iv z)) (by rfl), rfl⟩
set_option maxHeartbeats 1000000 in
set_option maxRecDepth 100000 in
theorem c_X8_setAt (l : Launch) (E : wEnv) (σ : Mem) (r : Row) (N : Int) (hM : RR σ r) (hR : RInv r N) (p a h : Int) (hp : 0 ≤ p ∧ p < r 19) (ha : 0 ≤ a) (hab : a ≤ r (24 + 91 * p.toNat + 2)) (h0 : 0 ≤ h) (h1 : h ≤ 3000) : MetC l E yX8_setAt cX8_setAt 5 (some .int) 2 45 [rv E (12), iv (p), iv (a), iv (h)] σ (fun v σ' => v = some (iv (setR r (energyR r h) a (r (24 + 91 * p.toNat + 2)))) ∧ σ = σ') := by
  refine MetC.of (own := RX8) (by decide) rfl (by simp [Value.category]) (Nat.le_of_ble_eq_true rfl) [some (rv E (12)), some (iv (p)), some (iv (a)), some (iv (h)), none] rfl (by simp) (fun K X R => ?_)
  have r19 := hR.2.2.2.2.1
  have r0 := hR.1
  have rN := hR.2.2.2.2.2.1
  have ⟨⟨q13, q13b⟩, ⟨q14, q14b⟩, ⟨q15, q15b⟩, ⟨q16, q16b⟩, ⟨q17, q17b⟩, ⟨q18, q18b⟩⟩ := hR.2.2.2.1
  have hip := (hR.2.2.2.2.2.2 p.toNat (by omega)).f
  have eb := (energyR_bd hR h0 h1).2.2
  have hb := hardR_bd hR a
  have db := div_bd eb.1 eb.2 hb.1
  refine g_aload_n X dX8_setAt_0 rfl ?_
  refine g_iload_n X dX8_setAt_1 rfl ?_
  refine cl_X8_115 X (c_X8_energy l E σ r N hM hR h (by omega) (by omega)) fk12 ⟨Nat.le_of_ble_eq_true rfl, Nat.le_of_ble_eq_true rfl⟩ rfl (Nat.le_of_ble_eq_true rfl) dX8_setAt_2 rfl (fun v1 τ2 p3 => ?_)
  obtain ⟨rfl, rfl⟩ := p3
  have eb2 := (energyR_bd hR (h := h) (by omega) (by omega)).2.2
  refine g_aload_n X dX8_setAt_5 rfl ?_
  refine g_iload_n X dX8_setAt_6 rfl ?_
  refine cl_X8_118 X (c_X8_hardness l E σ r N hM hR a ⟨by omega, by omega⟩) fk12 ⟨Nat.le_of_ble_eq_true rfl, Nat.le_of_ble_eq_true rfl⟩ rfl (Nat.le_of_ble_eq_true rfl) dX8_setAt_7 rfl (fun v4 τ5 p6 => ?_)
  obtain ⟨rfl, rfl⟩ := p6
  have hb7 := hardR_bd hR a
  refine g_idiv X dX8_setAt_10 (by omega) (by omega) (by omega) (by omega) ?_
  refine g_aload_n X dX8_setAt_11 rfl ?_
  refine gf_X8_7 X fk12 dX8_setAt_12 ?_
  refine g_bipush X dX8_setAt_15 (by decide) ?_
  refine g_iald X fk13 fl13 (by omega) (by omega) (by decide) (hM.at (n := 15) (by omega) (by omega)) dX8_setAt_17 ?_
  refine g_isub X dX8_setAt_18 ?_
  refine g_istore X (lw := [some (rv E (12)), some (iv (p)), some (iv (a)), some (iv (h)), some (iv ((energyR r h) / (hardR r a) - (r 15)))]) dX8_setAt_19 (by decide) rfl rfl ?_
  refine g_iload X dX8_setAt_21 rfl ?_
  refine g_if_ge X (tgt := 30) dX8_setAt_23 (by decide) ⟨by omega, by omega⟩ (fun c7 => ?_) (fun c7 => ?_)
  · skip
    refine g_iload X dX8_setAt_30 rfl ?_
    refine g_sipush X dX8_setAt_32 (by decide) ?_
    refine cl_X8_121 X (c_X8_lesser l E σ ((energyR r h) / (hardR r a) - (r 15)) 500 ⟨by omega, by omega⟩ ⟨by decide, by decide⟩) ⟨Nat.le_of_ble_eq_true rfl, Nat.le_of_ble_eq_true rfl⟩ rfl (Nat.le_of_ble_eq_true rfl) dX8_setAt_35 rfl (fun v8 τ9 p10 => ?_)
    obtain ⟨rfl, rfl⟩ := p10
    refine g_istore X (lw := [some (rv E (12)), some (iv (p)), some (iv (a)), some (iv (h)), some (iv (min ((energyR r h) / (hardR r a) - (r 15)) 500))]) dX8_setAt_38 (by decide) rfl rfl ?_
    refine g_iload X dX8_setAt_40 rfl ?_
    refine g_aload_n X dX8_setAt_42 rfl ?_
    refine g_iload_n X dX8_setAt_43 rfl ?_
    refine g_iconst X dX8_setAt_44 ?_
    refine cl_X8_62 X (c_X8_of l E σ r N hM hR p 2 (24 + 91 * p.toNat + 2) (by omega) (by omega) (by omega)) fk12 ⟨Nat.le_of_ble_eq_true rfl, Nat.le_of_ble_eq_true rfl⟩ rfl (Nat.le_of_ble_eq_true rfl) dX8_setAt_45 rfl (fun v11 τ12 p13 => ?_)
    obtain ⟨rfl, rfl⟩ := p13
    refine g_iload_n X dX8_setAt_48 rfl ?_
    refine g_isub X dX8_setAt_49 ?_
    refine cl_X8_121 X (c_X8_lesser l E σ (min ((energyR r h) / (hardR r a) - (r 15)) 500) (r (24 + 91 * p.toNat + 2) - a) ⟨by omega, by omega⟩ ⟨by omega, by omega⟩) ⟨Nat.le_of_ble_eq_true rfl, Nat.le_of_ble_eq_true rfl⟩ rfl (Nat.le_of_ble_eq_true rfl) dX8_setAt_50 rfl (fun v14 τ15 p16 => ?_)
    obtain ⟨rfl, rfl⟩ := p16
    exact R _ _ _ _ dX8_setAt_53 ⟨congrArg (fun z => some (iv z)) (by unfold setR freeR; first | (exfalso; omega) | omega), rfl⟩
  · skip
    refine g_iconst X dX8_setAt_26 ?_
    refine g_goto X (tgt := 38) dX8_setAt_27 (by decide) ?_
    refine g_istore X (lw := [some (rv E (12)), some (iv (p)), some (iv (a)), some (iv (h)), some (iv (0))]) dX8_setAt_38 (by decide) rfl rfl ?_
    refine g_iload X dX8_setAt_40 rfl ?_
    refine g_aload_n X dX8_setAt_42 rfl ?_
    refine g_iload_n X dX8_setAt_43 rfl ?_
    refine g_iconst X dX8_setAt_44 ?_
    refine cl_X8_62 X (c_X8_of l E σ r N hM hR p 2 (24 + 91 * p.toNat + 2) (by omega) (by omega) (by omega)) fk12 ⟨Nat.le_of_ble_eq_true rfl, Nat.le_of_ble_eq_true rfl⟩ rfl (Nat.le_of_ble_eq_true rfl) dX8_setAt_45 rfl (fun v17 τ18 p19 => ?_)
    obtain ⟨rfl, rfl⟩ := p19
    refine g_iload_n X dX8_setAt_48 rfl ?_
    refine g_isub X dX8_setAt_49 ?_
    refine cl_X8_121 X (c_X8_lesser l E σ 0 (r (24 + 91 * p.toNat + 2) - a) ⟨by decide, by decide⟩ ⟨by omega, by omega⟩) ⟨Nat.le_of_ble_eq_true rfl, Nat.le_of_ble_eq_true rfl⟩ rfl (Nat.le_of_ble_eq_true rfl) dX8_setAt_50 rfl (fun v20 τ21 p22 => ?_)
    obtain ⟨rfl, rfl⟩ := p22
    exact R _ _ _ _ dX8_setAt_53 ⟨congrArg (fun z => some (iv z)) (by unfold setR freeR; first | (exfalso; omega) | omega), rfl⟩
set_option maxHeartbeats 1000000 in
set_option maxRecDepth 100000 in
theorem c_X8_isDown (l : Launch) (E : wEnv) (σ : Mem) (r : Row) (N : Int) (hM : RR σ r) (hR : RInv r N) (p : Int) (hp : 0 ≤ p ∧ p < r 19) : MetC l E yX8_isDown cX8_isDown 2 (some .boolean) 1 22 [rv E (12), iv (p)] σ (fun v σ' => σ = σ' ∧ (r (24 + 91 * p.toNat + 2) ≤ r (24 + 91 * p.toNat + 3) ∧ v = some (iv 1) ∨ ¬ r (24 + 91 * p.toNat + 2) ≤ r (24 + 91 * p.toNat + 3) ∧ v = some (iv 0))) := by
  refine MetC.of (own := RX8) (by decide) rfl (by simp [Value.category]) (Nat.le_of_ble_eq_true rfl) [some (rv E (12)), some (iv (p))] rfl (by simp) (fun K X R => ?_)
  have r19 := hR.2.2.2.2.1
  have r0 := hR.1
  have rN := hR.2.2.2.2.2.1
  have hip := (hR.2.2.2.2.2.2 p.toNat (by omega)).f
  refine g_aload_n X dX8_isDown_0 rfl ?_
  refine g_iload_n X dX8_isDown_1 rfl ?_
  refine g_iconst X dX8_isDown_2 ?_
  refine cl_X8_62 X (c_X8_of l E σ r N hM hR p 3 (24 + 91 * p.toNat + 3) (by omega) (by omega) (by omega)) fk12 ⟨Nat.le_of_ble_eq_true rfl, Nat.le_of_ble_eq_true rfl⟩ rfl (Nat.le_of_ble_eq_true rfl) dX8_isDown_3 rfl (fun v1 τ2 p3 => ?_)
  obtain ⟨rfl, rfl⟩ := p3
  refine g_aload_n X dX8_isDown_6 rfl ?_
  refine g_iload_n X dX8_isDown_7 rfl ?_
  refine g_iconst X dX8_isDown_8 ?_
  refine cl_X8_62 X (c_X8_of l E σ r N hM hR p 2 (24 + 91 * p.toNat + 2) (by omega) (by omega) (by omega)) fk12 ⟨Nat.le_of_ble_eq_true rfl, Nat.le_of_ble_eq_true rfl⟩ rfl (Nat.le_of_ble_eq_true rfl) dX8_isDown_9 rfl (fun v4 τ5 p6 => ?_)
  obtain ⟨rfl, rfl⟩ := p6
  refine g_icmp_ne X (tgt := 19) dX8_isDown_12 (by decide) ⟨by omega, by omega⟩ ⟨by omega, by omega⟩ (fun c7 => ?_) (fun c7 => ?_)
  · skip
    refine g_iconst X dX8_isDown_19 ?_
    exact R _ _ _ _ (Or.inl (by decide)) dX8_isDown_20 ⟨rfl, Or.inr ⟨by omega, rfl⟩⟩
  · skip
    refine g_iconst X dX8_isDown_15 ?_
    refine g_goto X (tgt := 20) dX8_isDown_16 (by decide) ?_
    exact R _ _ _ _ (Or.inr (by decide)) dX8_isDown_20 ⟨rfl, Or.inl ⟨by omega, rfl⟩⟩
set_option maxHeartbeats 1000000 in
set_option maxRecDepth 100000 in
theorem c_X8_liftOf (l : Launch) (E : wEnv) (σ : Mem) (r : Row) (N : Int) (hM : RR σ r) (hR : RInv r N) (s b c : Int) (hs : 0 ≤ s ∧ s ≤ 500) (hb : I32 b) (hc : 0 ≤ c ∧ c ≤ 50000) : MetC l E yX8_liftOf cX8_liftOf 4 (some .int) 1 21 [rv E (12), iv (s), iv (b), iv (c)] σ (fun v σ' => v = some (iv (liftR c b (byR r s))) ∧ σ = σ') := by
  refine MetC.of (own := RX8) (by decide) rfl (by simp [Value.category]) (Nat.le_of_ble_eq_true rfl) [some (rv E (12)), some (iv (s)), some (iv (b)), some (iv (c))] rfl (by simp) (fun K X R => ?_)
  have r19 := hR.2.2.2.2.1
  have r0 := hR.1
  have rN := hR.2.2.2.2.2.1
  have ⟨⟨q13, q13b⟩, ⟨q14, q14b⟩, ⟨q15, q15b⟩, ⟨q16, q16b⟩, ⟨q17, q17b⟩, ⟨q18, q18b⟩⟩ := hR.2.2.2.1
  have bb := byR_bd hR hs.1 hs.2
  have bb2 := bb.2
  unfold byR at bb2
  refine g_iload_n X dX8_liftOf_0 rfl ?_
  refine g_iload_n X dX8_liftOf_1 rfl ?_
  refine g_icmp_ge X (tgt := 24) dX8_liftOf_2 (by decide) ⟨by omega, by omega⟩ ⟨by omega, by omega⟩ (fun c1 => ?_) (fun c1 => ?_)
  · skip
    refine g_iconst X dX8_liftOf_24 ?_
    exact R _ _ _ _ dX8_liftOf_25 ⟨congrArg (fun z => some (iv z)) (by unfold liftR byR; first | (exfalso; omega) | (split <;> omega)), rfl⟩
  · skip
    refine g_iload_n X dX8_liftOf_5 rfl ?_
    refine g_aload_n X dX8_liftOf_6 rfl ?_
    refine gf_X8_7 X fk12 dX8_liftOf_7 ?_
    refine g_bipush X dX8_liftOf_10 (by decide) ?_
    refine g_iald X fk13 fl13 (by omega) (by omega) (by decide) (hM.at (n := 18) (by omega) (by omega)) dX8_liftOf_12 ?_
    refine g_imul X dX8_liftOf_13 ?_
    refine g_bipush X dX8_liftOf_14 (by decide) ?_
    refine g_idiv X dX8_liftOf_16 (by omega) (by omega) (by decide) (by decide) ?_
    refine g_iload_n X dX8_liftOf_17 rfl ?_
    refine cl_X8_121 X (c_X8_lesser l E σ ((s * (r 18)) / 100) c ⟨by omega, by omega⟩ ⟨by omega, by omega⟩) ⟨Nat.le_of_ble_eq_true rfl, Nat.le_of_ble_eq_true rfl⟩ rfl (Nat.le_of_ble_eq_true rfl) dX8_liftOf_18 rfl (fun v2 τ3 p4 => ?_)
    obtain ⟨rfl, rfl⟩ := p4
    refine g_goto X (tgt := 25) dX8_liftOf_21 (by decide) ?_
    exact R _ _ _ _ dX8_liftOf_25 ⟨congrArg (fun z => some (iv z)) (by unfold liftR byR; first | (exfalso; omega) | (split <;> omega)), rfl⟩
