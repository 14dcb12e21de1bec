/-! ===== contracts: what a state answers ===== -/
theorem PInv.f {r : Row} {N : Int} {i : Nat} (h : PInv r N i) : (0 ≤ r (24 + 91 * i + 0) ∧ r (24 + 91 * i + 0) ≤ 20000) ∧ (0 ≤ r (24 + 91 * i + 1) ∧ r (24 + 91 * i + 1) ≤ 20000) ∧ (1000 ≤ r (24 + 91 * i + 2) ∧ r (24 + 91 * i + 2) ≤ 50000) ∧ (0 ≤ r (24 + 91 * i + 3) ∧ r (24 + 91 * i + 3) ≤ r (24 + 91 * i + 2)) ∧ (0 ≤ r (24 + 91 * i + 4) ∧ r (24 + 91 * i + 4) ≤ N) ∧ (0 ≤ r (24 + 91 * i + 5) ∧ r (24 + 91 * i + 5) ≤ 100000) ∧ (r (24 + 91 * i + 6) = 0 ∨ r (24 + 91 * i + 6) = 1) ∧ (0 ≤ r (24 + 91 * i + 10) ∧ r (24 + 91 * i + 10) ≤ 40) := h
theorem cs_X1_resistanceAt (l : Launch) (E : wEnv) (σ : Mem) (B : Nat) (r : Row) (N : Int) (hB : isK 8 B) (hS : SRep σ B r) (hR : RInv r N) (d : Int) (hd : I32 d) : MetC l E yX1_resistanceAt cX1_resistanceAt 2 (some .int) 1 23 [rv E (B + 1), iv d] σ (fun v σ' => v = some (iv (hardR r d)) ∧ σ = σ') := by
  have h := c_X1_resistanceAt l E σ (B + 1) d (st1 hB) (hS.g hR) hd
  rw [hard_eq hS hR] at h
  exact h
theorem cs_X1_layerAt (l : Launch) (E : wEnv) (σ : Mem) (B : Nat) (r : Row) (N : Int) (hB : isK 8 B) (hS : SRep σ B r) (hR : RInv r N) (d : Int) (hd : I32 d) : MetC l E yX1_layerAt cX1_layerAt 4 (some .int) 0 0 [rv E (B + 1), iv d] σ (fun v σ' => v = some (iv (layR r d : Nat)) ∧ σ = σ') := by
  have h := c_X1_layerAt l E σ (B + 1) d (st1 hB) (hS.g hR) hd
  rw [lay_eq hS hR] at h
  exact h
set_option maxHeartbeats 1000000 in
set_option maxRecDepth 100000 in
theorem c_X6_setting (l : Launch) (E : wEnv) (σ : Mem) (B : Nat) (r : Row) (N : Int) (hB : isK 8 B) (hS : SRep σ B r) (hR : RInv r N) (k : Int) (hk : I32 k) : MetC l E yX6_setting cX6_setting 2 (some .int) 0 0 [rv E (B), iv (k)] σ (fun v σ' => v = some (iv (if 0 ≤ k ∧ k < 6 then r (13 + k.toNat) else 0)) ∧ σ = σ') := by
  refine MetC.of (own := RX6) (by decide) rfl (by simp [Value.category]) (Nat.le_of_ble_eq_true rfl) [some (rv E (B)), some (iv (k))] rfl (by simp) (fun K X R => ?_)
  refine g_iload_n X dX6_setting_0 rfl ?_
  refine g_if_lt X (tgt := 22) dX6_setting_1 (by decide) ⟨by omega, by omega⟩ (fun c1 => ?_) (fun c1 => ?_)
  · skip
    refine g_iconst X dX6_setting_22 ?_
    exact R _ _ _ _ dX6_setting_23 ⟨congrArg (fun z => some (iv z)) (by rw [if_neg (by omega)]), rfl⟩
  · skip
    refine g_iload_n X dX6_setting_4 rfl ?_
    refine g_aload_n X dX6_setting_5 rfl ?_
    refine gf_X6_27 X hB dX6_setting_6 ?_
    refine g_alen13 X (st4 hB) (st4l hB) dX6_setting_9 ?_
    refine g_icmp_ge X (tgt := 22) dX6_setting_10 (by decide) ⟨by omega, by omega⟩ ⟨by decide, by decide⟩ (fun c2 => ?_) (fun c2 => ?_)
    · skip
      refine g_iconst X dX6_setting_22 ?_
      exact R _ _ _ _ dX6_setting_23 ⟨congrArg (fun z => some (iv z)) (by rw [if_neg (by omega)]), rfl⟩
    · skip
      refine g_aload_n X dX6_setting_13 rfl ?_
      refine gf_X6_27 X hB dX6_setting_14 ?_
      refine g_iload_n X dX6_setting_17 rfl ?_
      refine g_iald X (st4 hB) (st4l hB) (by omega) (by omega) (by decide) rfl dX6_setting_18 ?_
      refine g_goto X (tgt := 23) dX6_setting_19 (by decide) ?_
      exact R _ _ _ _ dX6_setting_23 ⟨congrArg (fun z => some (iv z)) (by rw [if_pos (by omega), hS.2.2.2.1 _ (by omega)]), rfl⟩
theorem cs_X6_setting (l : Launch) (E : wEnv) (σ : Mem) (B : Nat) (r : Row) (N : Int) (hB : isK 8 B) (hS : SRep σ B r) (hR : RInv r N) (k : Int) (n : Nat) (hk : 0 ≤ k ∧ k < 6) (hn : n = 13 + k.toNat) : MetC l E yX6_setting cX6_setting 2 (some .int) 0 0 [rv E B, iv k] σ (fun v σ' => v = some (iv (r n)) ∧ σ = σ') := by
  have h := c_X6_setting l E σ B r N hB hS hR k ⟨by omega, by omega⟩
  rw [if_pos hk, ← hn] at h
  exact h
set_option maxHeartbeats 1000000 in
set_option maxRecDepth 100000 in
theorem c_X6_pileAt (l : Launch) (E : wEnv) (σ : Mem) (B : Nat) (r : Row) (N : Int) (hB : isK 8 B) (hS : SRep σ B r) (hR : RInv r N) (n : Int) (hn : I32 n) : MetC l E yX6_pileAt cX6_pileAt 2 (some (.object "PileSets$Pile")) 0 0 [rv E (B), iv (n)] σ (fun v σ' => σ = σ' ∧ ((0 ≤ n ∧ n < r 19) ∧ v = some (rv E (B + 5 + 1 + 3 * n.toNat)) ∨ ¬ (0 ≤ n ∧ n < r 19) ∧ v = some .null)) := by
  refine MetC.of (own := RX6) (by decide) rfl (by simp [Value.category]) (Nat.le_of_ble_eq_true rfl) [some (rv E (B)), some (iv (n))] rfl (by simp) (fun K X R => ?_)
  have s3 := hS.2.2.2.2.1
  have r19 := hR.2.2.2.2.1
  have r0 := hR.1
  refine g_iload_n X dX6_pileAt_0 rfl ?_
  refine g_if_lt X (tgt := 30) dX6_pileAt_1 (by decide) ⟨by omega, by omega⟩ (fun c1 => ?_) (fun c1 => ?_)
  · skip
    refine g_aconst X dX6_pileAt_30 ?_
    exact R _ _ _ _ (Or.inl rfl) dX6_pileAt_31 ⟨rfl, Or.inr ⟨by omega, rfl⟩⟩
  · skip
    refine g_iload_n X dX6_pileAt_4 rfl ?_
    refine g_aload_n X dX6_pileAt_5 rfl ?_
    refine gf_X6_37 X hB rfl dX6_pileAt_6 ?_
    refine g_icmp_ge X (tgt := 30) dX6_pileAt_9 (by decide) ⟨by omega, by omega⟩ ⟨by omega, by omega⟩ (fun c2 => ?_) (fun c2 => ?_)
    · skip
      refine g_aconst X dX6_pileAt_30 ?_
      exact R _ _ _ _ (Or.inl rfl) dX6_pileAt_31 ⟨rfl, Or.inr ⟨by omega, rfl⟩⟩
    · skip
      refine g_iload_n X dX6_pileAt_12 rfl ?_
      refine g_aload_n X dX6_pileAt_13 rfl ?_
      refine gf_X6_32 X hB dX6_pileAt_14 ?_
      refine g_alen10 X (st5 hB) dX6_pileAt_17 ?_
      refine g_icmp_ge X (tgt := 30) dX6_pileAt_18 (by decide) ⟨by omega, by omega⟩ ⟨by decide, by decide⟩ (fun c3 => ?_) (fun c3 => ?_)
      · skip
        refine g_aconst X dX6_pileAt_30 ?_
        exact R _ _ _ _ (Or.inl rfl) dX6_pileAt_31 ⟨rfl, Or.inr ⟨by omega, rfl⟩⟩
      · skip
        refine g_aload_n X dX6_pileAt_21 rfl ?_
        refine gf_X6_32 X hB dX6_pileAt_22 ?_
        refine g_iload_n X dX6_pileAt_25 rfl ?_
        refine g_aald10 X (st5 hB) (by omega) (by omega) dX6_pileAt_26 ?_
        refine g_goto X (tgt := 31) dX6_pileAt_27 (by decide) ?_
        exact R _ _ _ _ (Or.inr ⟨_, rfl⟩) dX6_pileAt_31 ⟨rfl, Or.inl ⟨by omega, rfl⟩⟩
theorem cs_X6_pileAt (l : Launch) (E : wEnv) (σ : Mem) (B : Nat) (r : Row) (N : Int) (hB : isK 8 B) (hS : SRep σ B r) (hR : RInv r N) (n : Int) (h0 : 0 ≤ n) (h1 : n < r 19) : MetC l E yX6_pileAt cX6_pileAt 2 (some (.object "PileSets$Pile")) 0 0 [rv E B, iv n] σ (fun v σ' => v = some (rv E (B + 5 + 1 + 3 * n.toNat)) ∧ σ = σ') := by
  have r19 := hR.2.2.2.2.1
  have h := c_X6_pileAt l E σ B r N hB hS hR n ⟨by omega, by omega⟩
  have e : (fun (v : Option Value) (σ' : Mem) => σ = σ' ∧ ((0 ≤ n ∧ n < r 19) ∧ v = some (rv E (B + 5 + 1 + 3 * n.toNat)) ∨ ¬ (0 ≤ n ∧ n < r 19) ∧ v = some .null)) = (fun v σ' => v = some (rv E (B + 5 + 1 + 3 * n.toNat)) ∧ σ = σ') := by
    funext v σ'
    apply propext
    constructor
    · rintro ⟨rfl, ⟨-, q⟩ | ⟨q, -⟩⟩
      · exact ⟨q, rfl⟩
      · exact absurd ⟨h0, h1⟩ q
    · rintro ⟨q, rfl⟩
      exact ⟨rfl, Or.inl ⟨⟨h0, h1⟩, q⟩⟩
  rw [e] at h
  exact h
set_option maxHeartbeats 1000000 in
set_option maxRecDepth 100000 in
theorem c_X6_energyOf (l : Launch) (E : wEnv) (σ : Mem) (B : Nat) (r : Row) (N : Int) (hB : isK 8 B) (hS : SRep σ B r) (hR : RInv r N) (h : Int) (h0 : 0 ≤ h) (h1 : h ≤ 3000) : MetC l E yX6_energyOf cX6_energyOf 2 (some .int) 1 21 [rv E (B), iv (h)] σ (fun v σ' => v = some (iv (energyR r h)) ∧ σ = σ') := by
  refine MetC.of (own := RX6) (by decide) rfl (by simp [Value.category]) (Nat.le_of_ble_eq_true rfl) [some (rv E (B)), some (iv (h))] rfl (by simp) (fun K X R => ?_)
  have ⟨⟨q13, q13b⟩, ⟨q14, q14b⟩, ⟨q15, q15b⟩, ⟨q16, q16b⟩, ⟨q17, q17b⟩, ⟨q18, q18b⟩⟩ := hR.2.2.2.1
  have eb := energyR_bd hR h0 h1
  refine g_aload_n X dX6_energyOf_0 rfl ?_
  refine g_iconst X dX6_energyOf_1 ?_
  refine cl_X6_69 X (cs_X6_setting l E σ B r N hB hS hR 0 13 (by decide) (by decide)) hB ⟨Nat.le_of_ble_eq_true rfl, Nat.le_of_ble_eq_true rfl⟩ rfl (Nat.le_of_ble_eq_true rfl) dX6_energyOf_2 rfl (fun v1 τ2 p3 => ?_)
  obtain ⟨rfl, rfl⟩ := p3
  refine g_i2l X dX6_energyOf_5 ⟨by omega, by omega⟩ ?_
  refine g_iload_n X dX6_energyOf_6 rfl ?_
  refine g_i2l X dX6_energyOf_7 ⟨by omega, by omega⟩ ?_
  refine g_lmul X dX6_energyOf_8 ?_
  refine g_aload_n X dX6_energyOf_9 rfl ?_
  refine g_iconst X dX6_energyOf_10 ?_
  refine cl_X6_69 X (cs_X6_setting l E σ B r N hB hS hR 1 14 (by decide) (by decide)) hB ⟨Nat.le_of_ble_eq_true rfl, Nat.le_of_ble_eq_true rfl⟩ rfl (Nat.le_of_ble_eq_true rfl) dX6_energyOf_11 rfl (fun v4 τ5 p6 => ?_)
  obtain ⟨rfl, rfl⟩ := p6
  refine g_i2l X dX6_energyOf_14 ⟨by omega, by omega⟩ ?_
  refine g_lmul X dX6_energyOf_15 ?_
  refine g_ldc2 X (n := 10000) dX6_energyOf_16 wK_X6_81 (by decide) ?_
  refine g_ldiv X dX6_energyOf_19 (by omega) (by omega) (by decide) (by decide) ?_
  refine g_l2i X dX6_energyOf_20 ?_
  exact R _ _ _ _ dX6_energyOf_21 ⟨congrArg (fun z => some (iv z)) (by rfl), rfl⟩
set_option maxHeartbeats 1000000 in
set_option maxRecDepth 100000 in
theorem c_X6_freeSet (l : Launch) (E : wEnv) (σ : Mem) (B : Nat) (r : Row) (N : Int) (hB : isK 8 B) (hS : SRep σ B r) (hR : RInv r N) (e s : Int) (he : 0 ≤ e) (he2 : e ≤ 300000) (hs : 1 ≤ s) (hs2 : s ≤ 2000) : MetC l E yX6_freeSet cX6_freeSet 3 (some .int) 1 21 [rv E (B), iv (e), iv (s)] σ (fun v σ' => v = some (iv (freeR r e s)) ∧ σ = σ') := by
  refine MetC.of (own := RX6) (by decide) rfl (by simp [Value.category]) (Nat.le_of_ble_eq_true rfl) [some (rv E (B)), some (iv (e)), some (iv (s))] rfl (by simp) (fun K X R => ?_)
  have ⟨⟨q13, q13b⟩, ⟨q14, q14b⟩, ⟨q15, q15b⟩, ⟨q16, q16b⟩, ⟨q17, q17b⟩, ⟨q18, q18b⟩⟩ := hR.2.2.2.1
  have db := div_bd he he2 hs
  refine g_iload_n X dX6_freeSet_0 rfl ?_
  refine g_if_gt X (tgt := 6) dX6_freeSet_1 (by decide) ⟨by omega, by omega⟩ (fun c1 => ?_) (fun c1 => ?_)
  · skip
    refine g_sipush X dX6_freeSet_6 (by decide) ?_
    refine g_iconst X dX6_freeSet_9 ?_
    refine g_iload_n X dX6_freeSet_10 rfl ?_
    refine g_iload_n X dX6_freeSet_11 rfl ?_
    refine g_idiv X dX6_freeSet_12 (by omega) (by omega) (by omega) (by omega) ?_
    refine g_aload_n X dX6_freeSet_13 rfl ?_
    refine g_iconst X dX6_freeSet_14 ?_
    refine cl_X6_69 X (cs_X6_setting l E σ B r N hB hS hR 2 15 (by decide) (by decide)) hB ⟨Nat.le_of_ble_eq_true rfl, Nat.le_of_ble_eq_true rfl⟩ rfl (Nat.le_of_ble_eq_true rfl) dX6_freeSet_15 rfl (fun v2 τ3 p4 => ?_)
    obtain ⟨rfl, rfl⟩ := p4
    refine g_isub X dX6_freeSet_18 ?_
    refine g_max X wL_X6_83 ⟨by decide, by decide⟩ ⟨by omega, by omega⟩ (Nat.le_of_ble_eq_true rfl) (Nat.le_of_ble_eq_true rfl) dX6_freeSet_19 ?_
    refine g_min X wL_X6_87 ⟨by decide, by decide⟩ ⟨by omega, by omega⟩ (Nat.le_of_ble_eq_true rfl) (Nat.le_of_ble_eq_true rfl) dX6_freeSet_22 ?_
    exact R _ _ _ _ dX6_freeSet_25 ⟨congrArg (fun z => some (iv z)) (by first | (exfalso; omega) | rfl), rfl⟩
  · skip
    refine g_iconst X dX6_freeSet_4 ?_
    exact R _ _ _ _ dX6_freeSet_5 ⟨congrArg (fun z => some (iv z)) (by first | (exfalso; omega) | rfl), rfl⟩
set_option maxHeartbeats 1000000 in
set_option maxRecDepth 100000 in
theorem c_X6_setOf (l : Launch) (E : wEnv) (σ : Mem) (B : Nat) (r : Row) (N : Int) (hB : isK 8 B) (hS : SRep σ B r) (hR : RInv r N) (e a b : Int) (he : 0 ≤ e) (he2 : e ≤ 300000) (ha : 0 ≤ a) (hab : a ≤ b) (hb2 : b ≤ 50000) : MetC l E yX6_setOf cX6_setOf 4 (some .int) 2 44 [rv E (B), iv (e), iv (a), iv (b)] σ (fun v σ' => v = some (iv (setR r e a b)) ∧ σ = σ') := by
  refine MetC.of (own := RX6) (by decide) rfl (by simp [Value.category]) (Nat.le_of_ble_eq_true rfl) [some (rv E (B)), some (iv (e)), some (iv (a)), some (iv (b))] rfl (by simp) (fun K X R => ?_)
  refine g_iload_n X dX6_setOf_0 rfl ?_
  refine g_iload_n X dX6_setOf_1 rfl ?_
  refine g_isub X dX6_setOf_2 ?_
  refine g_aload_n X dX6_setOf_3 rfl ?_
  refine g_iload_n X dX6_setOf_4 rfl ?_
  refine g_aload_n X dX6_setOf_5 rfl ?_
  refine gf_X6_12 X hB dX6_setOf_6 ?_
  refine g_iload_n X dX6_setOf_9 rfl ?_
  refine cl_X6_90 X (cs_X1_resistanceAt l E σ B r N hB hS hR a ⟨by omega, by omega⟩) (st1 hB) ⟨Nat.le_of_ble_eq_true rfl, Nat.le_of_ble_eq_true rfl⟩ rfl (Nat.le_of_ble_eq_true rfl) dX6_setOf_10 rfl (fun v1 τ2 p3 => ?_)
  obtain ⟨rfl, rfl⟩ := p3
  have hb10 := hardR_bd hR a
  refine cl_X6_93 X (c_X6_freeSet l E σ B r N hB hS hR e (hardR r a)  (by omega) (by omega) (by omega) (by omega)) hB ⟨Nat.le_of_ble_eq_true rfl, Nat.le_of_ble_eq_true rfl⟩ rfl (Nat.le_of_ble_eq_true rfl) dX6_setOf_13 rfl (fun v4 τ5 p6 => ?_)
  obtain ⟨rfl, rfl⟩ := p6
  have fb13 := freeR_bd r e (hardR r a)
  refine g_min X wL_X6_87 ⟨by omega, by omega⟩ ⟨by omega, by omega⟩ (Nat.le_of_ble_eq_true rfl) (Nat.le_of_ble_eq_true rfl) dX6_setOf_16 ?_
  exact R _ _ _ _ dX6_setOf_19 ⟨congrArg (fun z => some (iv z)) (by rfl), rfl⟩
set_option maxHeartbeats 1000000 in
set_option maxRecDepth 100000 in
theorem c_X6_loadOf (l : Launch) (E : wEnv) (σ : Mem) (B : Nat) (r : Row) (N : Int) (hB : isK 8 B) (hS : SRep σ B r) (hR : RInv r N) (e s : Int) (he : 0 ≤ e) (he2 : e ≤ 300000) (hs : 0 ≤ s) (hs2 : s ≤ 500) : MetC l E yX6_loadOf cX6_loadOf 4 (some .int) 1 21 [rv E (B), iv (e), iv (s)] σ (fun v σ' => v = some (iv (loadR r e s)) ∧ σ = σ') := by
  refine MetC.of (own := RX6) (by decide) rfl (by simp [Value.category]) (Nat.le_of_ble_eq_true rfl) [some (rv E (B)), some (iv (e)), some (iv (s)), none] rfl (by simp) (fun K X R => ?_)
  have ⟨⟨q13, q13b⟩, ⟨q14, q14b⟩, ⟨q15, q15b⟩, ⟨q16, q16b⟩, ⟨q17, q17b⟩, ⟨q18, q18b⟩⟩ := hR.2.2.2.1
  have db : ¬ s + r 15 ≤ 0 → 0 ≤ e / (s + r 15) ∧ e / (s + r 15) ≤ 300000 := fun q => div_bd he he2 (by omega)
  refine g_iload_n X dX6_loadOf_0 rfl ?_
  refine g_aload_n X dX6_loadOf_1 rfl ?_
  refine g_iconst X dX6_loadOf_2 ?_
  refine cl_X6_69 X (cs_X6_setting l E σ B r N hB hS hR 2 15 (by decide) (by decide)) hB ⟨Nat.le_of_ble_eq_true rfl, Nat.le_of_ble_eq_true rfl⟩ rfl (Nat.le_of_ble_eq_true rfl) dX6_loadOf_3 rfl (fun v1 τ2 p3 => ?_)
  obtain ⟨rfl, rfl⟩ := p3
  refine g_iadd X dX6_loadOf_6 ?_
  refine g_istore_n X (lw := [some (rv E (B)), some (iv (e)), some (iv (s)), some (iv (s + r 15))]) dX6_loadOf_7 (by decide) rfl rfl ?_
  refine g_iload_n X dX6_loadOf_8 rfl ?_
  refine g_if_gt X (tgt := 17) dX6_loadOf_9 (by decide) ⟨by omega, by omega⟩ (fun c4 => ?_) (fun c4 => ?_)
  · skip
    refine g_ldc X (n := 100000) dX6_loadOf_17 wK_X6_96 (by decide) ?_
    refine g_iload_n X dX6_loadOf_19 rfl ?_
    refine g_iload_n X dX6_loadOf_20 rfl ?_
    refine g_idiv X dX6_loadOf_21 (by omega) (by omega) (by omega) (by omega) ?_
    refine g_min X wL_X6_87 ⟨by decide, by decide⟩ ⟨by omega, by omega⟩ (Nat.le_of_ble_eq_true rfl) (Nat.le_of_ble_eq_true rfl) dX6_loadOf_22 ?_
    exact R _ _ _ _ dX6_loadOf_25 ⟨congrArg (fun z => some (iv z)) (by unfold loadR; first | exact (if_pos (by omega)).symm | exact (if_neg (by omega)).symm), rfl⟩
  · skip
    refine g_ldc X (n := 100000) dX6_loadOf_12 wK_X6_96 (by decide) ?_
    refine g_goto X (tgt := 25) dX6_loadOf_14 (by decide) ?_
    exact R _ _ _ _ dX6_loadOf_25 ⟨congrArg (fun z => some (iv z)) (by unfold loadR; first | exact (if_pos (by omega)).symm | exact (if_neg (by omega)).symm), rfl⟩
set_option maxHeartbeats 1000000 in
set_option maxRecDepth 100000 in
theorem c_X6_liftBy (l : Launch) (E : wEnv) (σ : Mem) (B : Nat) (r : Row) (N : Int) (hB : isK 8 B) (hS : SRep σ B r) (hR : RInv r N) (s : Int) (hs : 0 ≤ s) (hs2 : s ≤ 500) : MetC l E yX6_liftBy cX6_liftBy 2 (some .int) 1 21 [rv E (B), iv (s)] σ (fun v σ' => v = some (iv (byR r s)) ∧ σ = σ') := by
  refine MetC.of (own := RX6) (by decide) rfl (by simp [Value.category]) (Nat.le_of_ble_eq_true rfl) [some (rv E (B)), some (iv (s))] rfl (by simp) (fun K X R => ?_)
  have bb := byR_bd hR hs hs2
  refine g_iload_n X dX6_liftBy_0 rfl ?_
  refine g_aload_n X dX6_liftBy_1 rfl ?_
  refine g_iconst X dX6_liftBy_2 ?_
  refine cl_X6_69 X (cs_X6_setting l E σ B r N hB hS hR 5 18 (by decide) (by decide)) hB ⟨Nat.le_of_ble_eq_true rfl, Nat.le_of_ble_eq_true rfl⟩ rfl (Nat.le_of_ble_eq_true rfl) dX6_liftBy_3 rfl (fun v1 τ2 p3 => ?_)
  obtain ⟨rfl, rfl⟩ := p3
  refine g_imul X dX6_liftBy_6 ?_
  refine g_bipush X dX6_liftBy_7 (by decide) ?_
  refine g_idiv X dX6_liftBy_9 (by omega) (by omega) (by decide) (by decide) ?_
  exact R _ _ _ _ dX6_liftBy_10 ⟨congrArg (fun z => some (iv z)) (by rfl), rfl⟩
set_option maxHeartbeats 1000000 in
set_option maxRecDepth 100000 in
theorem c_X6_allowedLoad (l : Launch) (E : wEnv) (σ : Mem) (B : Nat) (r : Row) (N : Int) (hB : isK 8 B) (hS : SRep σ B r) (hR : RInv r N) (i : Nat) (hi : (i : Int) < r 19) : MetC l E yX6_allowedLoad cX6_allowedLoad 4 (some .int) 1 21 [rv E (B), rv E ((B + 5 + 1 + 3 * i))] σ (fun v σ' => v = some (iv (if r (24 + 91 * i + 6) = 1 then r (24 + 91 * i + 5) * 100 / r 16 / 2 else r (24 + 91 * i + 5) * 100 / r 16)) ∧ σ = σ') := by
  refine MetC.of (own := RX6) (by decide) rfl (by simp [Value.category]) (Nat.le_of_ble_eq_true rfl) [some (rv E (B)), some (rv E ((B + 5 + 1 + 3 * i))), none, none] rfl (by simp) (fun K X R => ?_)
  have s3 := hS.2.2.2.2.1
  have r19 := hR.2.2.2.2.1
  have r0 := hR.1
  have ⟨⟨q13, q13b⟩, ⟨q14, q14b⟩, ⟨q15, q15b⟩, ⟨q16, q16b⟩, ⟨q17, q17b⟩, ⟨q18, q18b⟩⟩ := hR.2.2.2.1
  have hpx := hS.2.2.2.2.2.2 i hi
  have hfx := hpx.f
  have hix := hR.2.2.2.2.2.2 i hi
  have hjx := hix.f
  have db := div_bd (a := r (24 + 91 * i + 5) * 100) (M := 10000000) (by omega) (by omega) (show 1 ≤ r 16 by omega)
  have e8 := hfx.2.2.2.2.2.2.1
  rw [← e8] at db
  refine g_aload_n X dX6_allowedLoad_0 rfl ?_
  refine g_iconst X dX6_allowedLoad_1 ?_
  refine cl_X6_69 X (cs_X6_setting l E σ B r N hB hS hR 3 16 (by decide) (by decide)) hB ⟨Nat.le_of_ble_eq_true rfl, Nat.le_of_ble_eq_true rfl⟩ rfl (Nat.le_of_ble_eq_true rfl) dX6_allowedLoad_2 rfl (fun v1 τ2 p3 => ?_)
  obtain ⟨rfl, rfl⟩ := p3
  refine g_istore_n X (lw := [some (rv E (B)), some (rv E ((B + 5 + 1 + 3 * i))), some (iv (r 16)), none]) dX6_allowedLoad_5 (by decide) rfl rfl ?_
  refine g_iload_n X dX6_allowedLoad_6 rfl ?_
  refine g_if_gt X (tgt := 12) dX6_allowedLoad_7 (by decide) ⟨by omega, by omega⟩ (fun c4 => ?_) (fun c4 => ?_)
  · skip
    refine g_aload_n X dX6_allowedLoad_12 rfl ?_
    refine gf_X6_97 X (stP hB i (by omega)) rfl dX6_allowedLoad_13 ?_
    refine g_bipush X dX6_allowedLoad_16 (by decide) ?_
    refine g_imul X dX6_allowedLoad_18 ?_
    refine g_iload_n X dX6_allowedLoad_19 rfl ?_
    refine g_idiv X dX6_allowedLoad_20 (by omega) (by omega) (by omega) (by omega) ?_
    refine g_istore_n X (lw := [some (rv E (B)), some (rv E ((B + 5 + 1 + 3 * i))), some (iv (r 16)), some (iv (((σ ((B + 5 + 1 + 3 * i)) 8) * 100) / (r 16)))]) dX6_allowedLoad_21 (by decide) rfl rfl ?_
    refine g_aload_n X dX6_allowedLoad_22 rfl ?_
    refine gf_X6_62 X (stP hB i (by omega)) rfl dX6_allowedLoad_23 ?_
    refine g_if_eq X (tgt := 35) dX6_allowedLoad_26 (by decide) ⟨by omega, by omega⟩ (fun c5 => ?_) (fun c5 => ?_)
    · skip
      refine g_iload_n X dX6_allowedLoad_35 rfl ?_
      exact R _ _ _ _ dX6_allowedLoad_36 ⟨congrArg (fun z => some (iv z)) (by first | (exfalso; omega) | (rw [if_pos (by omega), hfx.2.2.2.2.2.2.1]) | (rw [if_neg (by omega), hfx.2.2.2.2.2.2.1])), rfl⟩
    · skip
      refine g_iload_n X dX6_allowedLoad_29 rfl ?_
      refine g_iconst X dX6_allowedLoad_30 ?_
      refine g_idiv X dX6_allowedLoad_31 (by omega) (by omega) (by decide) (by decide) ?_
      refine g_goto X (tgt := 36) dX6_allowedLoad_32 (by decide) ?_
      exact R _ _ _ _ dX6_allowedLoad_36 ⟨congrArg (fun z => some (iv z)) (by first | (exfalso; omega) | (rw [if_pos (by omega), hfx.2.2.2.2.2.2.1]) | (rw [if_neg (by omega), hfx.2.2.2.2.2.2.1])), rfl⟩
  · skip
    refine g_iconst X dX6_allowedLoad_10 ?_
    exact R _ _ _ _ dX6_allowedLoad_11 ⟨congrArg (fun z => some (iv z)) (by first | (exfalso; omega) | (rw [if_pos (by omega), hfx.2.2.2.2.2.2.1]) | (rw [if_neg (by omega), hfx.2.2.2.2.2.2.1])), rfl⟩
set_option maxHeartbeats 1000000 in
set_option maxRecDepth 100000 in
theorem c_X6_areNear (l : Launch) (E : wEnv) (σ : Mem) (B : Nat) (r : Row) (N : Int) (hB : isK 8 B) (hS : SRep σ B r) (hR : RInv r N) (i j : Nat) (hi : (i : Int) < r 19) (hj : (j : Int) < r 19) : MetC l E yX6_areNear cX6_areNear 4 (some .boolean) 1 21 [rv E (B), rv E ((B + 5 + 1 + 3 * i)), rv E ((B + 5 + 1 + 3 * j))] σ (fun v σ' => σ = σ' ∧ (nearB r i j = true ∧ v = some (iv 1) ∨ ¬ nearB r i j = true ∧ v = some (iv 0))) := by
  refine MetC.of (own := RX6) (by decide) rfl (by simp [Value.category]) (Nat.le_of_ble_eq_true rfl) [some (rv E (B)), some (rv E ((B + 5 + 1 + 3 * i))), some (rv E ((B + 5 + 1 + 3 * j))), none] rfl (by simp) (fun K X R => ?_)
  have s3 := hS.2.2.2.2.1
  have r19 := hR.2.2.2.2.1
  have r0 := hR.1
  have ⟨⟨q13, q13b⟩, ⟨q14, q14b⟩, ⟨q15, q15b⟩, ⟨q16, q16b⟩, ⟨q17, q17b⟩, ⟨q18, q18b⟩⟩ := hR.2.2.2.1
  have hpx := hS.2.2.2.2.2.2 i hi
  have hfx := hpx.f
  have hix := hR.2.2.2.2.2.2 i hi
  have hjx := hix.f
  have hpy := hS.2.2.2.2.2.2 j hj
  have hfy := hpy.f
  have hiy := hR.2.2.2.2.2.2 j hj
  have hjy := hiy.f
  refine g_aload_n X dX6_areNear_0 rfl ?_
  refine g_iconst X dX6_areNear_1 ?_
  refine cl_X6_69 X (cs_X6_setting l E σ B r N hB hS hR 4 17 (by decide) (by decide)) hB ⟨Nat.le_of_ble_eq_true rfl, Nat.le_of_ble_eq_true rfl⟩ rfl (Nat.le_of_ble_eq_true rfl) dX6_areNear_2 rfl (fun v1 τ2 p3 => ?_)
  obtain ⟨rfl, rfl⟩ := p3
  refine g_istore_n X (lw := [some (rv E (B)), some (rv E ((B + 5 + 1 + 3 * i))), some (rv E ((B + 5 + 1 + 3 * j))), some (iv (r 17))]) dX6_areNear_5 (by decide) rfl rfl ?_
  refine g_aload_n X dX6_areNear_6 rfl ?_
  refine g_aload_n X dX6_areNear_7 rfl ?_
  refine g_acmp_eq X (tgt := 47) dX6_areNear_8 (by decide) ((stP hB i (by omega)).ok (by decide) (by decide)) ((stP hB j (by omega)).ok (by decide) (by decide)) (fun c4 => ?_) (fun c4 => ?_)
  · skip
    refine g_iconst X dX6_areNear_47 ?_
    exact R _ _ _ _ (Or.inl (by decide)) dX6_areNear_48 ⟨rfl, Or.inr ⟨fun q => by have q2 := nearB_iff.mp q; unfold adist at q2; omega, rfl⟩⟩
  · skip
    refine g_aload_n X dX6_areNear_11 rfl ?_
    refine gf_X6_49 X (stP hB i (by omega)) rfl dX6_areNear_12 ?_
    refine g_aload_n X dX6_areNear_15 rfl ?_
    refine gf_X6_49 X (stP hB j (by omega)) rfl dX6_areNear_16 ?_
    refine g_isub X dX6_areNear_19 ?_
    refine g_abs X wL_X6_72 ⟨by omega, by omega⟩ (Nat.le_of_ble_eq_true rfl) (Nat.le_of_ble_eq_true rfl) dX6_areNear_20 ?_
    refine g_iload_n X dX6_areNear_23 rfl ?_
    refine g_icmp_gt X (tgt := 47) dX6_areNear_24 (by decide) ⟨by omega, by omega⟩ ⟨by omega, by omega⟩ (fun c5 => ?_) (fun c5 => ?_)
    · skip
      refine g_iconst X dX6_areNear_47 ?_
      exact R _ _ _ _ (Or.inl (by decide)) dX6_areNear_48 ⟨rfl, Or.inr ⟨fun q => by have q2 := nearB_iff.mp q; unfold adist at q2; omega, rfl⟩⟩
    · skip
      refine g_aload_n X dX6_areNear_27 rfl ?_
      refine gf_X6_52 X (stP hB i (by omega)) rfl dX6_areNear_28 ?_
      refine g_aload_n X dX6_areNear_31 rfl ?_
      refine gf_X6_52 X (stP hB j (by omega)) rfl dX6_areNear_32 ?_
      refine g_isub X dX6_areNear_35 ?_
      refine g_abs X wL_X6_72 ⟨by omega, by omega⟩ (Nat.le_of_ble_eq_true rfl) (Nat.le_of_ble_eq_true rfl) dX6_areNear_36 ?_
      refine g_iload_n X dX6_areNear_39 rfl ?_
      refine g_icmp_gt X (tgt := 47) dX6_areNear_40 (by decide) ⟨by omega, by omega⟩ ⟨by omega, by omega⟩ (fun c6 => ?_) (fun c6 => ?_)
      · skip
        refine g_iconst X dX6_areNear_47 ?_
        exact R _ _ _ _ (Or.inl (by decide)) dX6_areNear_48 ⟨rfl, Or.inr ⟨fun q => by have q2 := nearB_iff.mp q; unfold adist at q2; omega, rfl⟩⟩
      · skip
        refine g_iconst X dX6_areNear_43 ?_
        refine g_goto X (tgt := 48) dX6_areNear_44 (by decide) ?_
        exact R _ _ _ _ (Or.inr (by decide)) dX6_areNear_48 ⟨rfl, Or.inl ⟨nearB_iff.mpr ⟨by omega, by unfold adist; omega, by unfold adist; omega⟩, rfl⟩⟩
set_option maxHeartbeats 1000000 in
set_option maxRecDepth 100000 in
theorem c_X6_feetIn (l : Launch) (E : wEnv) (σ : Mem) (B : Nat) (r : Row) (N : Int) (hB : isK 8 B) (hS : SRep σ B r) (hR : RInv r N) (k : Int) (hk : I32 k) : MetC l E yX6_feetIn cX6_feetIn 5 (some .int) 1 23 [rv E (B), iv (k)] σ (fun v σ' => v = some (iv (cnt (fun j => decide (((layR r (r (24 + 91 * j + 3)) : Nat) : Int) = k)) (r 19).toNat)) ∧ σ = σ') := by
  refine MetC.of (own := RX6) (by decide) rfl (by simp [Value.category]) (Nat.le_of_ble_eq_true rfl) [some (rv E (B)), some (iv (k)), none, none, none] rfl (by simp) (fun K X R => ?_)
  have s3 := hS.2.2.2.2.1
  have r19 := hR.2.2.2.2.1
  have r0 := hR.1
  have rN := hR.2.2.2.2.2.1
  refine g_iconst X dX6_feetIn_0 ?_
  refine g_istore_n X (lw := [some (rv E (B)), some (iv (k)), some (iv (0)), none, none]) dX6_feetIn_1 (by decide) rfl rfl ?_
  refine g_iconst X dX6_feetIn_2 ?_
  refine g_istore_n X (lw := [some (rv E (B)), some (iv (k)), some (iv (0)), some (iv (0)), none]) dX6_feetIn_3 (by decide) rfl rfl ?_
  have L1 : ∀ (fu : Nat) (n i : Int), (0 ≤ i) → (i ≤ r 19) → (n = cnt (fun j => decide (((layR r (r (24 + 91 * j + 3)) : Nat) : Int) = k)) i.toNat) → r 19 - i < (fu : Int) → K σ 4 [some (rv E (B)), some (iv (k)), some (iv (n)), some (iv (i)), none] [] := by
    intro fu
    induction fu with
    | zero =>
      intro n i j1 j2 j3 hm
      exact absurd hm (by omega)
    | succ fu ih1 =>
      intro n i j1 j2 j3 hm
      have cb := cnt_bd (fun j => decide (((layR r (r (24 + 91 * j + 3)) : Nat) : Int) = k)) i.toNat
      refine g_iload_n X dX6_feetIn_4 rfl ?_
      refine g_aload_n X dX6_feetIn_5 rfl ?_
      refine gf_X6_37 X hB rfl dX6_feetIn_6 ?_
      refine g_icmp_ge X (tgt := 49) dX6_feetIn_9 (by decide) ⟨by omega, by omega⟩ ⟨by omega, by omega⟩ (fun c2 => ?_) (fun c2 => ?_)
      · skip
        refine g_iload_n X dX6_feetIn_49 rfl ?_
        exact R _ _ _ _ dX6_feetIn_50 ⟨congrArg (fun z => some (iv z)) (by rw [j3, show i.toNat = (r 19).toNat by omega]), rfl⟩
      · skip
        refine g_aload_n X dX6_feetIn_12 rfl ?_
        refine g_iload_n X dX6_feetIn_13 rfl ?_
        refine cl_X6_41 X (cs_X6_pileAt l E σ B r N hB hS hR i (by omega) (by omega)) hB ⟨Nat.le_of_ble_eq_true rfl, Nat.le_of_ble_eq_true rfl⟩ rfl (Nat.le_of_ble_eq_true rfl) dX6_feetIn_14 rfl (fun v3 τ4 p5 => ?_)
        obtain ⟨rfl, rfl⟩ := p5
        have hp14 := (hS.2.2.2.2.2.2 (i).toNat (by omega))
        have hf14 := hp14.f
        have hi14 := hR.2.2.2.2.2.2 (i).toNat (by omega)
        have hj14 := hi14.f
        refine g_astore X (lw := [some (rv E (B)), some (iv (k)), some (iv (n)), some (iv (i)), some (rv E ((B + 5 + 1 + 3 * (i).toNat)))]) dX6_feetIn_17 (by decide) rfl rfl ?_
        refine g_aload X dX6_feetIn_19 rfl ?_
        refine g_ifnull X dX6_feetIn_21 ?_
        refine g_aload_n X dX6_feetIn_24 rfl ?_
        refine gf_X6_12 X hB dX6_feetIn_25 ?_
        refine g_aload X dX6_feetIn_28 rfl ?_
        refine gf_X6_55 X (stP hB (i).toNat (by omega)) rfl dX6_feetIn_30 ?_
        refine cl_X6_58 X (cs_X1_layerAt l E σ B r N hB hS hR (σ ((B + 5 + 1 + 3 * (i).toNat)) 6) ⟨by omega, by omega⟩) (st1 hB) ⟨Nat.le_of_ble_eq_true rfl, Nat.le_of_ble_eq_true rfl⟩ rfl (Nat.le_of_ble_eq_true rfl) dX6_feetIn_33 rfl (fun v6 τ7 p8 => ?_)
        obtain ⟨rfl, rfl⟩ := p8
        have hb33 := layR_le r (σ ((B + 5 + 1 + 3 * (i).toNat)) 6)
        refine g_iload_n X dX6_feetIn_36 rfl ?_
        refine g_icmp_ne X (tgt := 43) dX6_feetIn_37 (by decide) ⟨by omega, by omega⟩ ⟨by omega, by omega⟩ (fun c9 => ?_) (fun c9 => ?_)
        · skip
          refine g_iinc X (lw := [some (rv E (B)), some (iv (k)), some (iv (n)), some (iv (i + 1)), some (rv E ((B + 5 + 1 + 3 * (i).toNat)))]) dX6_feetIn_43 rfl (by decide) rfl rfl ?_
          refine g_goto X (tgt := 4) dX6_feetIn_46 (by decide) ?_
          refine g_kill X 4 (lw := [some (rv E (B)), some (iv (k)), some (iv (n)), some (iv (i + 1)), none]) rfl ?_
          exact ih1  n (i + 1) (by omega) (by omega) (by rw [show (i + 1).toNat = i.toNat + 1 by omega, cnt, ← j3]; first | (rw [if_pos (show _ = true from decide_eq_true (by rw [← hf14.2.2.2.2.1]; omega))]) | (rw [if_neg (show ¬ _ = true from fun q => absurd (of_decide_eq_true q) (by rw [← hf14.2.2.2.2.1]; omega))]; omega)) (by omega)
        · skip
          refine g_iinc X (lw := [some (rv E (B)), some (iv (k)), some (iv (n + 1)), some (iv (i)), some (rv E ((B + 5 + 1 + 3 * (i).toNat)))]) dX6_feetIn_40 rfl (by decide) rfl rfl ?_
          refine g_iinc X (lw := [some (rv E (B)), some (iv (k)), some (iv (n + 1)), some (iv (i + 1)), some (rv E ((B + 5 + 1 + 3 * (i).toNat)))]) dX6_feetIn_43 rfl (by decide) rfl rfl ?_
          refine g_goto X (tgt := 4) dX6_feetIn_46 (by decide) ?_
          refine g_kill X 4 (lw := [some (rv E (B)), some (iv (k)), some (iv (n + 1)), some (iv (i + 1)), none]) rfl ?_
          exact ih1  (n + 1) (i + 1) (by omega) (by omega) (by rw [show (i + 1).toNat = i.toNat + 1 by omega, cnt, ← j3]; first | (rw [if_pos (show _ = true from decide_eq_true (by rw [← hf14.2.2.2.2.1]; omega))]) | (rw [if_neg (show ¬ _ = true from fun q => absurd (of_decide_eq_true q) (by rw [← hf14.2.2.2.2.1]; omega))]; omega)) (by omega)
  exact L1 _  0 0 (by omega) (by omega) (by rfl) (by exact Int.lt_toNat_succ _)
set_option maxHeartbeats 1000000 in
set_option maxRecDepth 100000 in
theorem c_X6_loosePiles (l : Launch) (E : wEnv) (σ : Mem) (B : Nat) (r : Row) (N : Int) (hB : isK 8 B) (hS : SRep σ B r) (hR : RInv r N) : MetC l E yX6_loosePiles cX6_loosePiles 4 (some .int) 1 21 [rv E (B)] σ (fun v σ' => v = some (iv (cnt (fun j => decide (r (24 + 91 * j + 6) = 1)) (r 19).toNat)) ∧ σ = σ') := by
  refine MetC.of (own := RX6) (by decide) rfl (by simp [Value.category]) (Nat.le_of_ble_eq_true rfl) [some (rv E (B)), none, none, none] rfl (by simp) (fun K X R => ?_)
  have s3 := hS.2.2.2.2.1
  have r19 := hR.2.2.2.2.1
  have r0 := hR.1
  have rN := hR.2.2.2.2.2.1
  refine g_iconst X dX6_loosePiles_0 ?_
  refine g_istore_n X (lw := [some (rv E (B)), some (iv (0)), none, none]) dX6_loosePiles_1 (by decide) rfl rfl ?_
  refine g_iconst X dX6_loosePiles_2 ?_
  refine g_istore_n X (lw := [some (rv E (B)), some (iv (0)), some (iv (0)), none]) dX6_loosePiles_3 (by decide) rfl rfl ?_
  have L1 : ∀ (fu : Nat) (n i : Int), (0 ≤ i) → (i ≤ r 19) → (n = cnt (fun j => decide (r (24 + 91 * j + 6) = 1)) i.toNat) → r 19 - i < (fu : Int) → K σ 4 [some (rv E (B)), some (iv (n)), some (iv (i)), none] [] := by
    intro fu
    induction fu with
    | zero =>
      intro n i j1 j2 j3 hm
      exact absurd hm (by omega)
    | succ fu ih1 =>
      intro n i j1 j2 j3 hm
      have cb := cnt_bd (fun j => decide (r (24 + 91 * j + 6) = 1)) i.toNat
      refine g_iload_n X dX6_loosePiles_4 rfl ?_
      refine g_aload_n X dX6_loosePiles_5 rfl ?_
      refine gf_X6_37 X hB rfl dX6_loosePiles_6 ?_
      refine g_icmp_ge X (tgt := 38) dX6_loosePiles_9 (by decide) ⟨by omega, by omega⟩ ⟨by omega, by omega⟩ (fun c2 => ?_) (fun c2 => ?_)
      · skip
        refine g_iload_n X dX6_loosePiles_38 rfl ?_
        exact R _ _ _ _ dX6_loosePiles_39 ⟨congrArg (fun z => some (iv z)) (by rw [j3, show i.toNat = (r 19).toNat by omega]), rfl⟩
      · skip
        refine g_aload_n X dX6_loosePiles_12 rfl ?_
        refine g_iload_n X dX6_loosePiles_13 rfl ?_
        refine cl_X6_41 X (cs_X6_pileAt l E σ B r N hB hS hR i (by omega) (by omega)) hB ⟨Nat.le_of_ble_eq_true rfl, Nat.le_of_ble_eq_true rfl⟩ rfl (Nat.le_of_ble_eq_true rfl) dX6_loosePiles_14 rfl (fun v3 τ4 p5 => ?_)
        obtain ⟨rfl, rfl⟩ := p5
        have hp14 := (hS.2.2.2.2.2.2 (i).toNat (by omega))
        have hf14 := hp14.f
        have hi14 := hR.2.2.2.2.2.2 (i).toNat (by omega)
        have hj14 := hi14.f
        refine g_astore_n X (lw := [some (rv E (B)), some (iv (n)), some (iv (i)), some (rv E ((B + 5 + 1 + 3 * (i).toNat)))]) dX6_loosePiles_17 (by decide) rfl rfl ?_
        refine g_aload_n X dX6_loosePiles_18 rfl ?_
        refine g_ifnull X dX6_loosePiles_19 ?_
        refine g_aload_n X dX6_loosePiles_22 rfl ?_
        refine gf_X6_62 X (stP hB (i).toNat (by omega)) rfl dX6_loosePiles_23 ?_
        refine g_if_eq X (tgt := 32) dX6_loosePiles_26 (by decide) ⟨by omega, by omega⟩ (fun c6 => ?_) (fun c6 => ?_)
        · skip
          refine g_iinc X (lw := [some (rv E (B)), some (iv (n)), some (iv (i + 1)), some (rv E ((B + 5 + 1 + 3 * (i).toNat)))]) dX6_loosePiles_32 rfl (by decide) rfl rfl ?_
          refine g_goto X (tgt := 4) dX6_loosePiles_35 (by decide) ?_
          refine g_kill X 3 (lw := [some (rv E (B)), some (iv (n)), some (iv (i + 1)), none]) rfl ?_
          exact ih1  n (i + 1) (by omega) (by omega) (by rw [show (i + 1).toNat = i.toNat + 1 by omega, cnt, ← j3]; first | (rw [if_pos (show _ = true from decide_eq_true (by omega))]) | (rw [if_neg (show ¬ _ = true from fun q => absurd (of_decide_eq_true q) (by omega))]; omega)) (by omega)
        · skip
          refine g_iinc X (lw := [some (rv E (B)), some (iv (n + 1)), some (iv (i)), some (rv E ((B + 5 + 1 + 3 * (i).toNat)))]) dX6_loosePiles_29 rfl (by decide) rfl rfl ?_
          refine g_iinc X (lw := [some (rv E (B)), some (iv (n + 1)), some (iv (i + 1)), some (rv E ((B + 5 + 1 + 3 * (i).toNat)))]) dX6_loosePiles_32 rfl (by decide) rfl rfl ?_
          refine g_goto X (tgt := 4) dX6_loosePiles_35 (by decide) ?_
          refine g_kill X 3 (lw := [some (rv E (B)), some (iv (n + 1)), some (iv (i + 1)), none]) rfl ?_
          exact ih1  (n + 1) (i + 1) (by omega) (by omega) (by rw [show (i + 1).toNat = i.toNat + 1 by omega, cnt, ← j3]; first | (rw [if_pos (show _ = true from decide_eq_true (by omega))]) | (rw [if_neg (show ¬ _ = true from fun q => absurd (of_decide_eq_true q) (by omega))]; omega)) (by omega)
  exact L1 _  0 0 (by omega) (by omega) (by rfl) (by exact Int.lt_toNat_succ _)
set_option maxHeartbeats 1000000 in
set_option maxRecDepth 100000 in
theorem c_X6_pilesWithoutBlows (l : Launch) (E : wEnv) (σ : Mem) (B : Nat) (r : Row) (N : Int) (hB : isK 8 B) (hS : SRep σ B r) (hR : RInv r N) : MetC l E yX6_pilesWithoutBlows cX6_pilesWithoutBlows 4 (some .int) 1 21 [rv E (B)] σ (fun v σ' => v = some (iv (cnt (fun j => decide (r (24 + 91 * j + 4) = 0)) (r 19).toNat)) ∧ σ = σ') := by
  refine MetC.of (own := RX6) (by decide) rfl (by simp [Value.category]) (Nat.le_of_ble_eq_true rfl) [some (rv E (B)), none, none, none] rfl (by simp) (fun K X R => ?_)
  have s3 := hS.2.2.2.2.1
  have r19 := hR.2.2.2.2.1
  have r0 := hR.1
  have rN := hR.2.2.2.2.2.1
  refine g_iconst X dX6_pilesWithoutBlows_0 ?_
  refine g_istore_n X (lw := [some (rv E (B)), some (iv (0)), none, none]) dX6_pilesWithoutBlows_1 (by decide) rfl rfl ?_
  refine g_iconst X dX6_pilesWithoutBlows_2 ?_
  refine g_istore_n X (lw := [some (rv E (B)), some (iv (0)), some (iv (0)), none]) dX6_pilesWithoutBlows_3 (by decide) rfl rfl ?_
  have L1 : ∀ (fu : Nat) (n i : Int), (0 ≤ i) → (i ≤ r 19) → (n = cnt (fun j => decide (r (24 + 91 * j + 4) = 0)) i.toNat) → r 19 - i < (fu : Int) → K σ 4 [some (rv E (B)), some (iv (n)), some (iv (i)), none] [] := by
    intro fu
    induction fu with
    | zero =>
      intro n i j1 j2 j3 hm
      exact absurd hm (by omega)
    | succ fu ih1 =>
      intro n i j1 j2 j3 hm
      have cb := cnt_bd (fun j => decide (r (24 + 91 * j + 4) = 0)) i.toNat
      refine g_iload_n X dX6_pilesWithoutBlows_4 rfl ?_
      refine g_aload_n X dX6_pilesWithoutBlows_5 rfl ?_
      refine gf_X6_37 X hB rfl dX6_pilesWithoutBlows_6 ?_
      refine g_icmp_ge X (tgt := 38) dX6_pilesWithoutBlows_9 (by decide) ⟨by omega, by omega⟩ ⟨by omega, by omega⟩ (fun c2 => ?_) (fun c2 => ?_)
      · skip
        refine g_iload_n X dX6_pilesWithoutBlows_38 rfl ?_
        exact R _ _ _ _ dX6_pilesWithoutBlows_39 ⟨congrArg (fun z => some (iv z)) (by rw [j3, show i.toNat = (r 19).toNat by omega]), rfl⟩
      · skip
        refine g_aload_n X dX6_pilesWithoutBlows_12 rfl ?_
        refine g_iload_n X dX6_pilesWithoutBlows_13 rfl ?_
        refine cl_X6_41 X (cs_X6_pileAt l E σ B r N hB hS hR i (by omega) (by omega)) hB ⟨Nat.le_of_ble_eq_true rfl, Nat.le_of_ble_eq_true rfl⟩ rfl (Nat.le_of_ble_eq_true rfl) dX6_pilesWithoutBlows_14 rfl (fun v3 τ4 p5 => ?_)
        obtain ⟨rfl, rfl⟩ := p5
        have hp14 := (hS.2.2.2.2.2.2 (i).toNat (by omega))
        have hf14 := hp14.f
        have hi14 := hR.2.2.2.2.2.2 (i).toNat (by omega)
        have hj14 := hi14.f
        refine g_astore_n X (lw := [some (rv E (B)), some (iv (n)), some (iv (i)), some (rv E ((B + 5 + 1 + 3 * (i).toNat)))]) dX6_pilesWithoutBlows_17 (by decide) rfl rfl ?_
        refine g_aload_n X dX6_pilesWithoutBlows_18 rfl ?_
        refine g_ifnull X dX6_pilesWithoutBlows_19 ?_
        refine g_aload_n X dX6_pilesWithoutBlows_22 rfl ?_
        refine gf_X6_66 X (stP hB (i).toNat (by omega)) rfl dX6_pilesWithoutBlows_23 ?_
        refine g_if_ne X (tgt := 32) dX6_pilesWithoutBlows_26 (by decide) ⟨by omega, by omega⟩ (fun c6 => ?_) (fun c6 => ?_)
        · skip
          refine g_iinc X (lw := [some (rv E (B)), some (iv (n)), some (iv (i + 1)), some (rv E ((B + 5 + 1 + 3 * (i).toNat)))]) dX6_pilesWithoutBlows_32 rfl (by decide) rfl rfl ?_
          refine g_goto X (tgt := 4) dX6_pilesWithoutBlows_35 (by decide) ?_
          refine g_kill X 3 (lw := [some (rv E (B)), some (iv (n)), some (iv (i + 1)), none]) rfl ?_
          exact ih1  n (i + 1) (by omega) (by omega) (by rw [show (i + 1).toNat = i.toNat + 1 by omega, cnt, ← j3]; first | (rw [if_pos (show _ = true from decide_eq_true (by omega))]) | (rw [if_neg (show ¬ _ = true from fun q => absurd (of_decide_eq_true q) (by omega))]; omega)) (by omega)
        · skip
          refine g_iinc X (lw := [some (rv E (B)), some (iv (n + 1)), some (iv (i)), some (rv E ((B + 5 + 1 + 3 * (i).toNat)))]) dX6_pilesWithoutBlows_29 rfl (by decide) rfl rfl ?_
          refine g_iinc X (lw := [some (rv E (B)), some (iv (n + 1)), some (iv (i + 1)), some (rv E ((B + 5 + 1 + 3 * (i).toNat)))]) dX6_pilesWithoutBlows_32 rfl (by decide) rfl rfl ?_
          refine g_goto X (tgt := 4) dX6_pilesWithoutBlows_35 (by decide) ?_
          refine g_kill X 3 (lw := [some (rv E (B)), some (iv (n + 1)), some (iv (i + 1)), none]) rfl ?_
          exact ih1  (n + 1) (i + 1) (by omega) (by omega) (by rw [show (i + 1).toNat = i.toNat + 1 by omega, cnt, ← j3]; first | (rw [if_pos (show _ = true from decide_eq_true (by omega))]) | (rw [if_neg (show ¬ _ = true from fun q => absurd (of_decide_eq_true q) (by omega))]; omega)) (by omega)
  exact L1 _  0 0 (by omega) (by omega) (by rfl) (by exact Int.lt_toNat_succ _)
set_option maxHeartbeats 1000000 in
set_option maxRecDepth 100000 in
theorem c_X6_pilesNear (l : Launch) (E : wEnv) (σ : Mem) (B : Nat) (r : Row) (N : Int) (hB : isK 8 B) (hS : SRep σ B r) (hR : RInv r N) (k : Nat) (hk : (k : Int) < r 19) : MetC l E yX6_pilesNear cX6_pilesNear 5 (some .int) 2 44 [rv E (B), rv E ((B + 5 + 1 + 3 * k))] σ (fun v σ' => v = some (iv (cnt (fun j => nearB r k j) (r 19).toNat)) ∧ σ = σ') := by
  refine MetC.of (own := RX6) (by decide) rfl (by simp [Value.category]) (Nat.le_of_ble_eq_true rfl) [some (rv E (B)), some (rv E ((B + 5 + 1 + 3 * k))), none, none, none] rfl (by simp) (fun K X R => ?_)
  have s3 := hS.2.2.2.2.1
  have r19 := hR.2.2.2.2.1
  have r0 := hR.1
  have rN := hR.2.2.2.2.2.1
  refine g_iconst X dX6_pilesNear_0 ?_
  refine g_istore_n X (lw := [some (rv E (B)), some (rv E ((B + 5 + 1 + 3 * k))), some (iv (0)), none, none]) dX6_pilesNear_1 (by decide) rfl rfl ?_
  refine g_iconst X dX6_pilesNear_2 ?_
  refine g_istore_n X (lw := [some (rv E (B)), some (rv E ((B + 5 + 1 + 3 * k))), some (iv (0)), some (iv (0)), none]) dX6_pilesNear_3 (by decide) rfl rfl ?_
  have L1 : ∀ (fu : Nat) (n i : Int), (0 ≤ i) → (i ≤ r 19) → (n = cnt (fun j => nearB r k j) i.toNat) → r 19 - i < (fu : Int) → K σ 4 [some (rv E (B)), some (rv E ((B + 5 + 1 + 3 * k))), some (iv (n)), some (iv (i)), none] [] := by
    intro fu
    induction fu with
    | zero =>
      intro n i j1 j2 j3 hm
      exact absurd hm (by omega)
    | succ fu ih1 =>
      intro n i j1 j2 j3 hm
      have cb := cnt_bd (fun j => nearB r k j) i.toNat
      refine g_iload_n X dX6_pilesNear_4 rfl ?_
      refine g_aload_n X dX6_pilesNear_5 rfl ?_
      refine gf_X6_37 X hB rfl dX6_pilesNear_6 ?_
      refine g_icmp_ge X (tgt := 43) dX6_pilesNear_9 (by decide) ⟨by omega, by omega⟩ ⟨by omega, by omega⟩ (fun c2 => ?_) (fun c2 => ?_)
      · skip
        refine g_iload_n X dX6_pilesNear_43 rfl ?_
        exact R _ _ _ _ dX6_pilesNear_44 ⟨congrArg (fun z => some (iv z)) (by rw [j3, show i.toNat = (r 19).toNat by omega]), rfl⟩
      · skip
        refine g_aload_n X dX6_pilesNear_12 rfl ?_
        refine g_iload_n X dX6_pilesNear_13 rfl ?_
        refine cl_X6_41 X (cs_X6_pileAt l E σ B r N hB hS hR i (by omega) (by omega)) hB ⟨Nat.le_of_ble_eq_true rfl, Nat.le_of_ble_eq_true rfl⟩ rfl (Nat.le_of_ble_eq_true rfl) dX6_pilesNear_14 rfl (fun v3 τ4 p5 => ?_)
        obtain ⟨rfl, rfl⟩ := p5
        have hp14 := (hS.2.2.2.2.2.2 (i).toNat (by omega))
        have hf14 := hp14.f
        have hi14 := hR.2.2.2.2.2.2 (i).toNat (by omega)
        have hj14 := hi14.f
        refine g_astore X (lw := [some (rv E (B)), some (rv E ((B + 5 + 1 + 3 * k))), some (iv (n)), some (iv (i)), some (rv E ((B + 5 + 1 + 3 * (i).toNat)))]) dX6_pilesNear_17 (by decide) rfl rfl ?_
        refine g_aload X dX6_pilesNear_19 rfl ?_
        refine g_ifnull X dX6_pilesNear_21 ?_
        refine g_aload_n X dX6_pilesNear_24 rfl ?_
        refine g_aload_n X dX6_pilesNear_25 rfl ?_
        refine g_aload X dX6_pilesNear_26 rfl ?_
        refine cl_X6_77 X (c_X6_areNear l E σ B r N hB hS hR k ((i).toNat) (by omega) (by omega) ) hB ⟨Nat.le_of_ble_eq_true rfl, Nat.le_of_ble_eq_true rfl⟩ rfl (Nat.le_of_ble_eq_true rfl) dX6_pilesNear_28 rfl (fun v6 τ7 p8 => ?_)
        obtain ⟨rfl, ⟨b9, rfl⟩ | ⟨b9, rfl⟩⟩ := p8
        · skip
          skip
          refine g_if_eq X (tgt := 37) dX6_pilesNear_31 (by decide) ⟨by decide, by decide⟩ (fun q => absurd q (by decide)) (fun _ => ?_)
          refine g_iinc X (lw := [some (rv E (B)), some (rv E ((B + 5 + 1 + 3 * k))), some (iv (n + 1)), some (iv (i)), some (rv E ((B + 5 + 1 + 3 * (i).toNat)))]) dX6_pilesNear_34 rfl (by decide) rfl rfl ?_
          refine g_iinc X (lw := [some (rv E (B)), some (rv E ((B + 5 + 1 + 3 * k))), some (iv (n + 1)), some (iv (i + 1)), some (rv E ((B + 5 + 1 + 3 * (i).toNat)))]) dX6_pilesNear_37 rfl (by decide) rfl rfl ?_
          refine g_goto X (tgt := 4) dX6_pilesNear_40 (by decide) ?_
          refine g_kill X 4 (lw := [some (rv E (B)), some (rv E ((B + 5 + 1 + 3 * k))), some (iv (n + 1)), some (iv (i + 1)), none]) rfl ?_
          exact ih1  (n + 1) (i + 1) (by omega) (by omega) (by rw [show (i + 1).toNat = i.toNat + 1 by omega, cnt, ← j3]; first | (rw [if_pos (by assumption)]) | (rw [if_neg (by assumption)]; omega)) (by omega)
        · skip
          skip
          refine g_if_eq X (tgt := 37) dX6_pilesNear_31 (by decide) ⟨by decide, by decide⟩ (fun _ => ?_) (fun q => absurd q (by decide))
          refine g_iinc X (lw := [some (rv E (B)), some (rv E ((B + 5 + 1 + 3 * k))), some (iv (n)), some (iv (i + 1)), some (rv E ((B + 5 + 1 + 3 * (i).toNat)))]) dX6_pilesNear_37 rfl (by decide) rfl rfl ?_
          refine g_goto X (tgt := 4) dX6_pilesNear_40 (by decide) ?_
          refine g_kill X 4 (lw := [some (rv E (B)), some (rv E ((B + 5 + 1 + 3 * k))), some (iv (n)), some (iv (i + 1)), none]) rfl ?_
          exact ih1  n (i + 1) (by omega) (by omega) (by rw [show (i + 1).toNat = i.toNat + 1 by omega, cnt, ← j3]; first | (rw [if_pos (by assumption)]) | (rw [if_neg (by assumption)]; omega)) (by omega)
  exact L1 _  0 0 (by omega) (by omega) (by rfl) (by exact Int.lt_toNat_succ _)
set_option maxHeartbeats 1000000 in
set_option maxRecDepth 100000 in
theorem c_X6_footSum (l : Launch) (E : wEnv) (σ : Mem) (B : Nat) (r : Row) (N : Int) (hB : isK 8 B) (hS : SRep σ B r) (hR : RInv r N) : MetC l E yX6_footSum cX6_footSum 5 (some .long) 1 21 [rv E (B)] σ (fun v σ' => v = some (jv (sumT (fun j => r (24 + 91 * j + 3)) (r 19).toNat)) ∧ σ = σ') := by
  refine MetC.of (own := RX6) (by decide) rfl (by simp [Value.category]) (Nat.le_of_ble_eq_true rfl) [some (rv E (B)), none, none, none, none] rfl (by simp) (fun K X R => ?_)
  have s3 := hS.2.2.2.2.1
  have r19 := hR.2.2.2.2.1
  have r0 := hR.1
  have rN := hR.2.2.2.2.2.1
  refine g_lconst X (z := 0) rfl dX6_footSum_0 ?_
  refine g_lstore_n X (lw := [some (rv E (B)), some (jv (0)), none, none, none]) dX6_footSum_1 (by decide) rfl rfl ?_
  refine g_iconst X dX6_footSum_2 ?_
  refine g_istore_n X (lw := [some (rv E (B)), some (jv (0)), none, some (iv (0)), none]) dX6_footSum_3 (by decide) rfl rfl ?_
  have L1 : ∀ (fu : Nat) (n i : Int), (0 ≤ i) → (i ≤ r 19) → (n = sumT (fun j => r (24 + 91 * j + 3)) i.toNat) → r 19 - i < (fu : Int) → K σ 4 [some (rv E (B)), some (jv (n)), none, some (iv (i)), none] [] := by
    intro fu
    induction fu with
    | zero =>
      intro n i j1 j2 j3 hm
      exact absurd hm (by omega)
    | succ fu ih1 =>
      intro n i j1 j2 j3 hm
      refine g_iload_n X dX6_footSum_4 rfl ?_
      refine g_aload_n X dX6_footSum_5 rfl ?_
      refine gf_X6_37 X hB rfl dX6_footSum_6 ?_
      refine g_icmp_ge X (tgt := 39) dX6_footSum_9 (by decide) ⟨by omega, by omega⟩ ⟨by omega, by omega⟩ (fun c2 => ?_) (fun c2 => ?_)
      · skip
        refine g_lload_n X dX6_footSum_39 rfl ?_
        exact R _ _ _ _ dX6_footSum_40 ⟨congrArg (fun z => some (jv z)) (by rw [j3, show i.toNat = (r 19).toNat by omega]), rfl⟩
      · skip
        refine g_aload_n X dX6_footSum_12 rfl ?_
        refine g_iload_n X dX6_footSum_13 rfl ?_
        refine cl_X6_41 X (cs_X6_pileAt l E σ B r N hB hS hR i (by omega) (by omega)) hB ⟨Nat.le_of_ble_eq_true rfl, Nat.le_of_ble_eq_true rfl⟩ rfl (Nat.le_of_ble_eq_true rfl) dX6_footSum_14 rfl (fun v3 τ4 p5 => ?_)
        obtain ⟨rfl, rfl⟩ := p5
        have hp14 := (hS.2.2.2.2.2.2 (i).toNat (by omega))
        have hf14 := hp14.f
        have hi14 := hR.2.2.2.2.2.2 (i).toNat (by omega)
        have hj14 := hi14.f
        refine g_astore X (lw := [some (rv E (B)), some (jv (n)), none, some (iv (i)), some (rv E ((B + 5 + 1 + 3 * (i).toNat)))]) dX6_footSum_17 (by decide) rfl rfl ?_
        refine g_aload X dX6_footSum_19 rfl ?_
        refine g_ifnull X dX6_footSum_21 ?_
        refine g_lload_n X dX6_footSum_24 rfl ?_
        refine g_aload X dX6_footSum_25 rfl ?_
        refine gf_X6_55 X (stP hB (i).toNat (by omega)) rfl dX6_footSum_27 ?_
        refine g_i2l X dX6_footSum_30 ⟨by omega, by omega⟩ ?_
        refine g_ladd X dX6_footSum_31 ?_
        refine g_lstore_n X (lw := [some (rv E (B)), some (jv (n + (σ ((B + 5 + 1 + 3 * (i).toNat)) 6))), none, some (iv (i)), some (rv E ((B + 5 + 1 + 3 * (i).toNat)))]) dX6_footSum_32 (by decide) rfl rfl ?_
        refine g_iinc X (lw := [some (rv E (B)), some (jv (n + (σ ((B + 5 + 1 + 3 * (i).toNat)) 6))), none, some (iv (i + 1)), some (rv E ((B + 5 + 1 + 3 * (i).toNat)))]) dX6_footSum_33 rfl (by decide) rfl rfl ?_
        refine g_goto X (tgt := 4) dX6_footSum_36 (by decide) ?_
        refine g_kill X 4 (lw := [some (rv E (B)), some (jv (n + (σ ((B + 5 + 1 + 3 * (i).toNat)) 6))), none, some (iv (i + 1)), none]) rfl ?_
        exact ih1  (n + (σ ((B + 5 + 1 + 3 * (i).toNat)) 6)) (i + 1) (by omega) (by omega) (by rw [show (i + 1).toNat = i.toNat + 1 by omega, sumT, ← j3, hf14.2.2.2.2.1]) (by omega)
  exact L1 _  0 0 (by omega) (by omega) (by rfl) (by exact Int.lt_toNat_succ _)
set_option maxHeartbeats 1000000 in
set_option maxRecDepth 100000 in
theorem c_X6_isTaken (l : Launch) (E : wEnv) (σ : Mem) (B : Nat) (r : Row) (N : Int) (hB : isK 8 B) (hS : SRep σ B r) (hR : RInv r N) (x y : Int) (hx : I32 x) (hy : I32 y) : MetC l E yX6_isTaken cX6_isTaken 5 (some .boolean) 1 21 [rv E (B), iv (x), iv (y)] σ (fun v σ' => σ = σ' ∧ ((∃ j : Nat, (j : Int) < r 19 ∧ r (24 + 91 * j + 0) = x ∧ r (24 + 91 * j + 1) = y) ∧ v = some (iv 1) ∨ ¬ (∃ j : Nat, (j : Int) < r 19 ∧ r (24 + 91 * j + 0) = x ∧ r (24 + 91 * j + 1) = y) ∧ v = some (iv 0))) := by
  refine MetC.of (own := RX6) (by decide) rfl (by simp [Value.category]) (Nat.le_of_ble_eq_true rfl) [some (rv E (B)), some (iv (x)), some (iv (y)), none, none] rfl (by simp) (fun K X R => ?_)
  have s3 := hS.2.2.2.2.1
  have r19 := hR.2.2.2.2.1
  have r0 := hR.1
  have rN := hR.2.2.2.2.2.1
  refine g_iconst X dX6_isTaken_0 ?_
  refine g_istore_n X (lw := [some (rv E (B)), some (iv (x)), some (iv (y)), some (iv (0)), none]) dX6_isTaken_1 (by decide) rfl rfl ?_
  have L1 : ∀ (fu : Nat) (i : Int), (0 ≤ i) → (i ≤ r 19) → (∀ j : Nat, (j : Int) < i → ¬ (r (24 + 91 * j + 0) = x ∧ r (24 + 91 * j + 1) = y)) → r 19 - i < (fu : Int) → K σ 2 [some (rv E (B)), some (iv (x)), some (iv (y)), some (iv (i)), none] [] := by
    intro fu
    induction fu with
    | zero =>
      intro i j1 j2 j3 hm
      exact absurd hm (by omega)
    | succ fu ih1 =>
      intro i j1 j2 j3 hm
      refine g_iload_n X dX6_isTaken_2 rfl ?_
      refine g_aload_n X dX6_isTaken_3 rfl ?_
      refine gf_X6_37 X hB rfl dX6_isTaken_4 ?_
      refine g_icmp_ge X (tgt := 48) dX6_isTaken_7 (by decide) ⟨by omega, by omega⟩ ⟨by omega, by omega⟩ (fun c2 => ?_) (fun c2 => ?_)
      · skip
        refine g_iconst X dX6_isTaken_48 ?_
        exact R _ _ _ _ (Or.inl (by decide)) dX6_isTaken_49 ⟨rfl, Or.inr ⟨fun ⟨j, q1, q2, q3⟩ => j3 j (by omega) ⟨q2, q3⟩, rfl⟩⟩
      · skip
        refine g_aload_n X dX6_isTaken_10 rfl ?_
        refine g_iload_n X dX6_isTaken_11 rfl ?_
        refine cl_X6_41 X (cs_X6_pileAt l E σ B r N hB hS hR i (by omega) (by omega)) hB ⟨Nat.le_of_ble_eq_true rfl, Nat.le_of_ble_eq_true rfl⟩ rfl (Nat.le_of_ble_eq_true rfl) dX6_isTaken_12 rfl (fun v3 τ4 p5 => ?_)
        obtain ⟨rfl, rfl⟩ := p5
        have hp12 := (hS.2.2.2.2.2.2 (i).toNat (by omega))
        have hf12 := hp12.f
        have hi12 := hR.2.2.2.2.2.2 (i).toNat (by omega)
        have hj12 := hi12.f
        refine g_astore X (lw := [some (rv E (B)), some (iv (x)), some (iv (y)), some (iv (i)), some (rv E ((B + 5 + 1 + 3 * (i).toNat)))]) dX6_isTaken_15 (by decide) rfl rfl ?_
        refine g_aload X dX6_isTaken_17 rfl ?_
        refine g_ifnull X dX6_isTaken_19 ?_
        refine g_aload X dX6_isTaken_22 rfl ?_
        refine gf_X6_49 X (stP hB (i).toNat (by omega)) rfl dX6_isTaken_24 ?_
        refine g_iload_n X dX6_isTaken_27 rfl ?_
        refine g_icmp_ne X (tgt := 42) dX6_isTaken_28 (by decide) ⟨by omega, by omega⟩ ⟨by omega, by omega⟩ (fun c6 => ?_) (fun c6 => ?_)
        · skip
          refine g_iinc X (lw := [some (rv E (B)), some (iv (x)), some (iv (y)), some (iv (i + 1)), some (rv E ((B + 5 + 1 + 3 * (i).toNat)))]) dX6_isTaken_42 rfl (by decide) rfl rfl ?_
          refine g_goto X (tgt := 2) dX6_isTaken_45 (by decide) ?_
          refine g_kill X 4 (lw := [some (rv E (B)), some (iv (x)), some (iv (y)), some (iv (i + 1)), none]) rfl ?_
          exact ih1  (i + 1) (by omega) (by omega) (by intro j hj; by_cases q : (j : Int) < i; exact j3 j q; (have e : j = i.toNat := by omega); subst e; omega) (by omega)
        · skip
          refine g_aload X dX6_isTaken_31 rfl ?_
          refine gf_X6_52 X (stP hB (i).toNat (by omega)) rfl dX6_isTaken_33 ?_
          refine g_iload_n X dX6_isTaken_36 rfl ?_
          refine g_icmp_ne X (tgt := 42) dX6_isTaken_37 (by decide) ⟨by omega, by omega⟩ ⟨by omega, by omega⟩ (fun c7 => ?_) (fun c7 => ?_)
          · skip
            refine g_iinc X (lw := [some (rv E (B)), some (iv (x)), some (iv (y)), some (iv (i + 1)), some (rv E ((B + 5 + 1 + 3 * (i).toNat)))]) dX6_isTaken_42 rfl (by decide) rfl rfl ?_
            refine g_goto X (tgt := 2) dX6_isTaken_45 (by decide) ?_
            refine g_kill X 4 (lw := [some (rv E (B)), some (iv (x)), some (iv (y)), some (iv (i + 1)), none]) rfl ?_
            exact ih1  (i + 1) (by omega) (by omega) (by intro j hj; by_cases q : (j : Int) < i; exact j3 j q; (have e : j = i.toNat := by omega); subst e; omega) (by omega)
          · skip
            refine g_iconst X dX6_isTaken_40 ?_
            exact R _ _ _ _ (Or.inr (by decide)) dX6_isTaken_41 ⟨rfl, Or.inl ⟨⟨i.toNat, by omega, by omega, by omega⟩, rfl⟩⟩
  exact L1 _  0 (by omega) (by omega) (by intro j hj; omega) (by exact Int.lt_toNat_succ _)
