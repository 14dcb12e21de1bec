/-! ===== contracts: the ground changed, states copied, the history ===== -/
set_option maxHeartbeats 1000000 in
set_option maxRecDepth 100000 in
theorem c_X1_put (l : Launch) (E : wEnv) (σ : Mem) (c : Nat) (k t h : Int) (hK : isK 9 c) (hk0 : 0 ≤ k) (hk : k < 6) (hs : 0 ≤ σ c 2 ∧ σ c 2 ≤ 6) : MetC l E yX1_put cX1_put 4 none 1 21 [rv E (c), iv (k), iv (t), iv (h)] σ (fun v σ' => v = none ∧ mPut σ c k t h = σ') := by
  refine MetC.of (own := RX1) (by decide) rfl (by simp [Value.category]) (Nat.le_of_ble_eq_true rfl) [some (rv E (c)), some (iv (k)), some (iv (t)), some (iv (h))] rfl (by simp) (fun K X R => ?_)
  refine g_iload_n X dX1_put_0 rfl ?_
  refine g_if_lt X (tgt := 22) dX1_put_1 (by decide) ⟨by omega, by omega⟩ (fun c1 => ?_) (fun c1 => ?_)
  · skip
    exact R _ _ _ dX1_put_22 ⟨rfl, by first | (exfalso; omega) | rfl⟩
  · skip
    refine g_iload_n X dX1_put_4 rfl ?_
    refine g_aload_n X dX1_put_5 rfl ?_
    refine gf_X1_9 X hK dX1_put_6 ?_
    refine g_alen13 X (gr1 hK) (gr1l hK) dX1_put_9 ?_
    refine g_icmp_ge X (tgt := 22) dX1_put_10 (by decide) ⟨by omega, by omega⟩ ⟨by decide, by decide⟩ (fun c2 => ?_) (fun c2 => ?_)
    · skip
      exact R _ _ _ dX1_put_22 ⟨rfl, by first | (exfalso; omega) | rfl⟩
    · skip
      refine g_iload_n X dX1_put_13 rfl ?_
      refine g_aload_n X dX1_put_14 rfl ?_
      refine gf_X1_15 X hK dX1_put_15 ?_
      refine g_alen13 X (gr2 hK) (gr2l hK) dX1_put_18 ?_
      refine g_icmp_lt X (tgt := 23) dX1_put_19 (by decide) ⟨by omega, by omega⟩ ⟨by decide, by decide⟩ (fun c3 => ?_) (fun c3 => ?_)
      · skip
        refine g_aload_n X dX1_put_23 rfl ?_
        refine gf_X1_9 X hK dX1_put_24 ?_
        refine g_iload_n X dX1_put_27 rfl ?_
        refine g_iload_n X dX1_put_28 rfl ?_
        refine g_iast X (gr1 hK) (gr1l hK) (by omega) (by omega) (by decide) dX1_put_29 ?_
        refine g_aload_n X dX1_put_30 rfl ?_
        refine gf_X1_15 X hK dX1_put_31 ?_
        refine g_iload_n X dX1_put_34 rfl ?_
        refine g_iload_n X dX1_put_35 rfl ?_
        refine g_iast X (gr2 hK) (gr2l hK) (by omega) (by omega) (by decide) dX1_put_36 ?_
        refine g_aload_n X dX1_put_37 rfl ?_
        refine g_aload_n X dX1_put_38 rfl ?_
        refine gf_X1_22 X hK (up_ne1 (by omega) (up_ne1 (by omega) rfl)) dX1_put_39 ?_
        refine g_iload_n X dX1_put_42 rfl ?_
        refine g_iconst X dX1_put_43 ?_
        refine g_iadd X dX1_put_44 ?_
        refine g_max X wL_X1_26 ⟨by omega, by omega⟩ ⟨by omega, by omega⟩ (Nat.le_of_ble_eq_true rfl) (Nat.le_of_ble_eq_true rfl) dX1_put_45 ?_
        refine pf_X1_22 X hK dX1_put_48 ?_
        exact R _ _ _ dX1_put_51 ⟨rfl, by first | (exfalso; omega) | rfl⟩
      · skip
        exact R _ _ _ dX1_put_22 ⟨rfl, by first | (exfalso; omega) | rfl⟩
set_option maxHeartbeats 1000000 in
set_option maxRecDepth 100000 in
theorem c_X1_removeLast (l : Launch) (E : wEnv) (σ : Mem) (c : Nat) (hK : isK 9 c) : MetC l E yX1_removeLast cX1_removeLast 1 none 0 0 [rv E (c)] σ (fun v σ' => v = none ∧ up σ c 2 (σ c 2 - 1) = σ') := by
  refine MetC.of (own := RX1) (by decide) rfl (by simp [Value.category]) (Nat.le_of_ble_eq_true rfl) [some (rv E (c))] rfl (by simp) (fun K X R => ?_)
  refine g_aload_n X dX1_removeLast_0 rfl ?_
  refine g_dup X dX1_removeLast_1 rfl ?_
  refine gf_X1_22 X hK rfl dX1_removeLast_2 ?_
  refine g_iconst X dX1_removeLast_5 ?_
  refine g_isub X dX1_removeLast_6 ?_
  refine pf_X1_22 X hK dX1_removeLast_7 ?_
  exact R _ _ _ dX1_removeLast_10 ⟨rfl, rfl⟩
set_option maxHeartbeats 1000000 in
set_option maxRecDepth 100000 in
theorem c_X1_copyFrom (l : Launch) (E : wEnv) (σ : Mem) (c d : Nat) (hK : isK 9 c) (hK2 : isK 9 d) (hsep : c + 2 < d ∨ d + 2 < c) : MetC l E yX1_copyFrom cX1_copyFrom 2 none 1 60 [rv E (c), rv E (d)] σ (fun v σ' => v = none ∧ mCopyG σ c d = σ') := by
  refine MetC.of (own := RX1) (by decide) rfl (by simp [Value.category]) (Nat.le_of_ble_eq_true rfl) [some (rv E (c)), some (rv E (d))] rfl (by simp) (fun K X R => ?_)
  refine g_aload_n X dX1_copyFrom_0 rfl ?_
  refine gf_X1_9 X hK2 dX1_copyFrom_1 ?_
  refine g_iconst X dX1_copyFrom_4 ?_
  refine g_aload_n X dX1_copyFrom_5 rfl ?_
  refine gf_X1_9 X hK dX1_copyFrom_6 ?_
  refine g_iconst X dX1_copyFrom_9 ?_
  refine g_bipush X dX1_copyFrom_10 (by decide) ?_
  refine g_copy X wL_X1_39 (gr1 hK2) (gr1 hK) (gr1l hK2) (gr1l hK) (by omega) (by omega) (by omega) (by omega) (by omega) (by decide) (by decide) (Nat.le_of_ble_eq_true rfl) (by decide +kernel) dX1_copyFrom_12 ?_
  refine g_aload_n X dX1_copyFrom_15 rfl ?_
  refine gf_X1_15 X hK2 dX1_copyFrom_16 ?_
  refine g_iconst X dX1_copyFrom_19 ?_
  refine g_aload_n X dX1_copyFrom_20 rfl ?_
  refine gf_X1_15 X hK dX1_copyFrom_21 ?_
  refine g_iconst X dX1_copyFrom_24 ?_
  refine g_bipush X dX1_copyFrom_25 (by decide) ?_
  refine g_copy X wL_X1_39 (gr2 hK2) (gr2 hK) (gr2l hK2) (gr2l hK) (by omega) (by omega) (by omega) (by omega) (by omega) (by decide) (by decide) (Nat.le_of_ble_eq_true rfl) (by decide +kernel) dX1_copyFrom_27 ?_
  refine g_aload_n X dX1_copyFrom_30 rfl ?_
  refine g_aload_n X dX1_copyFrom_31 rfl ?_
  refine gf_X1_22 X hK2 (cpy_ne (by omega) (cpy_ne (by omega) rfl)) dX1_copyFrom_32 ?_
  refine pf_X1_22 X hK dX1_copyFrom_35 ?_
  exact R _ _ _ dX1_copyFrom_38 ⟨rfl, rfl⟩
set_option maxHeartbeats 1000000 in
set_option maxRecDepth 100000 in
theorem c_X6_changeSetting (l : Launch) (E : wEnv) (σ : Mem) (B : Nat) (k v : Int) (hB : isK 8 B) (hk0 : 0 ≤ k) (hk : k < 6) : MetC l E yX6_changeSetting cX6_changeSetting 3 none 0 0 [rv E (B), iv (k), iv (v)] σ (fun w σ' => w = none ∧ up σ (B + 4) k.toNat v = σ') := by
  refine MetC.of (own := RX6) (by decide) rfl (by simp [Value.category]) (Nat.le_of_ble_eq_true rfl) [some (rv E (B)), some (iv (k)), some (iv (v))] rfl (by simp) (fun K X R => ?_)
  refine g_iload_n X dX6_changeSetting_0 rfl ?_
  refine g_if_lt X (tgt := 20) dX6_changeSetting_1 (by decide) ⟨by omega, by omega⟩ (fun c1 => ?_) (fun c1 => ?_)
  · skip
    exact R _ _ _ dX6_changeSetting_20 ⟨rfl, by first | (exfalso; omega) | rfl⟩
  · skip
    refine g_iload_n X dX6_changeSetting_4 rfl ?_
    refine g_aload_n X dX6_changeSetting_5 rfl ?_
    refine gf_X6_27 X hB dX6_changeSetting_6 ?_
    refine g_alen13 X (st4 hB) (st4l hB) dX6_changeSetting_9 ?_
    refine g_icmp_ge X (tgt := 20) dX6_changeSetting_10 (by decide) ⟨by omega, by omega⟩ ⟨by decide, by decide⟩ (fun c2 => ?_) (fun c2 => ?_)
    · skip
      exact R _ _ _ dX6_changeSetting_20 ⟨rfl, by first | (exfalso; omega) | rfl⟩
    · skip
      refine g_aload_n X dX6_changeSetting_13 rfl ?_
      refine gf_X6_27 X hB dX6_changeSetting_14 ?_
      refine g_iload_n X dX6_changeSetting_17 rfl ?_
      refine g_iload_n X dX6_changeSetting_18 rfl ?_
      refine g_iast X (st4 hB) (st4l hB) (by omega) (by omega) (by decide) dX6_changeSetting_19 ?_
      exact R _ _ _ dX6_changeSetting_20 ⟨rfl, by first | (exfalso; omega) | rfl⟩
set_option maxHeartbeats 1000000 in
set_option maxRecDepth 100000 in
theorem c0_X6_pileAt (l : Launch) (E : wEnv) (σ : Mem) (B : Nat) (n : Int) (hB : isK 8 B) (h0 : 0 ≤ n) (h1 : n < σ B 3) (h2 : σ B 3 ≤ 10) : MetC l E yX6_pileAt cX6_pileAt 2 (some (.object "PileSets$Pile")) 0 0 [rv E (B), iv (n)] σ (fun v σ' => v = some (rv E (B + 5 + 1 + 3 * n.toNat)) ∧ σ = σ') := by
  refine MetC.of (own := RX6) (by decide) rfl (by simp [Value.category]) (Nat.le_of_ble_eq_true rfl) [some (rv E (B)), some (iv (n))] rfl (by simp) (fun K X R => ?_)
  refine g_iload_n X dX6_pileAt_0 rfl ?_
  refine g_if_lt X (tgt := 30) dX6_pileAt_1 (by decide) ⟨by omega, by omega⟩ (fun c1 => ?_) (fun c1 => ?_)
  · skip
    refine g_aconst X dX6_pileAt_30 ?_
    exact R _ _ _ _ (Or.inl rfl) dX6_pileAt_31 ⟨by first | rfl | (exfalso; omega), rfl⟩
  · skip
    refine g_iload_n X dX6_pileAt_4 rfl ?_
    refine g_aload_n X dX6_pileAt_5 rfl ?_
    refine gf_X6_37 X hB rfl dX6_pileAt_6 ?_
    refine g_icmp_ge X (tgt := 30) dX6_pileAt_9 (by decide) ⟨by omega, by omega⟩ ⟨by omega, by omega⟩ (fun c2 => ?_) (fun c2 => ?_)
    · skip
      refine g_aconst X dX6_pileAt_30 ?_
      exact R _ _ _ _ (Or.inl rfl) dX6_pileAt_31 ⟨by first | rfl | (exfalso; omega), rfl⟩
    · skip
      refine g_iload_n X dX6_pileAt_12 rfl ?_
      refine g_aload_n X dX6_pileAt_13 rfl ?_
      refine gf_X6_32 X hB dX6_pileAt_14 ?_
      refine g_alen10 X (st5 hB) dX6_pileAt_17 ?_
      refine g_icmp_ge X (tgt := 30) dX6_pileAt_18 (by decide) ⟨by omega, by omega⟩ ⟨by decide, by decide⟩ (fun c3 => ?_) (fun c3 => ?_)
      · skip
        refine g_aconst X dX6_pileAt_30 ?_
        exact R _ _ _ _ (Or.inl rfl) dX6_pileAt_31 ⟨by first | rfl | (exfalso; omega), rfl⟩
      · skip
        refine g_aload_n X dX6_pileAt_21 rfl ?_
        refine gf_X6_32 X hB dX6_pileAt_22 ?_
        refine g_iload_n X dX6_pileAt_25 rfl ?_
        refine g_aald10 X (st5 hB) (by omega) (by omega) dX6_pileAt_26 ?_
        refine g_goto X (tgt := 31) dX6_pileAt_27 (by decide) ?_
        exact R _ _ _ _ (Or.inr ⟨_, rfl⟩) dX6_pileAt_31 ⟨by first | rfl | (exfalso; omega), rfl⟩
set_option maxHeartbeats 1000000 in
set_option maxRecDepth 100000 in
theorem c_X6_place (l : Launch) (E : wEnv) (σ : Mem) (B : Nat) (r : Row) (N : Int) (hB : isK 8 B) (hS : SRep σ B r) (hR : RInv r N) (x y t : Int) (h19 : r 19 < 10) : MetC l E yX6_place cX6_place 6 (some .int) 1 23 [rv E (B), iv (x), iv (y), iv (t)] σ (fun v σ' => v = some (iv (r 19)) ∧ SRep σ' B (placeR r x y t) ∧ frB σ σ' B) := by
  refine MetC.of (own := RX6) (by decide) rfl (by simp [Value.category]) (Nat.le_of_ble_eq_true rfl) [some (rv E (B)), some (iv (x)), some (iv (y)), some (iv (t)), none, none] rfl (by simp) (fun K X R => ?_)
  have s3 := hS.2.2.2.2.1
  have r19 := hR.2.2.2.2.1
  have r0 := hR.1
  refine g_aload_n X dX6_place_0 rfl ?_
  refine gf_X6_37 X hB (hS.2.2.2.2.1) dX6_place_1 ?_
  refine g_istore X (lw := [some (rv E (B)), some (iv (x)), some (iv (y)), some (iv (t)), some (iv (r 19)), none]) dX6_place_4 (by decide) rfl rfl ?_
  refine g_aload_n X dX6_place_6 rfl ?_
  refine g_dup X dX6_place_7 rfl ?_
  refine gf_X6_37 X hB (hS.2.2.2.2.1) dX6_place_8 ?_
  refine g_iconst X dX6_place_11 ?_
  refine g_iadd X dX6_place_12 ?_
  refine pf_X6_37 X hB dX6_place_13 ?_
  refine g_aload_n X dX6_place_16 rfl ?_
  refine g_iload X dX6_place_17 rfl ?_
  refine cl_X6_41 X (c0_X6_pileAt l E (up σ B 3 (r 19 + 1)) B (r 19) hB (by omega) (by simp [up]; omega) (by simp [up]; omega)) hB ⟨Nat.le_of_ble_eq_true rfl, Nat.le_of_ble_eq_true rfl⟩ rfl (Nat.le_of_ble_eq_true rfl) dX6_place_19 rfl (fun v1 τ2 p3 => ?_)
  obtain ⟨rfl, rfl⟩ := p3
  refine g_astore X (lw := [some (rv E (B)), some (iv (x)), some (iv (y)), some (iv (t)), some (iv (r 19)), some (rv E ((B + 5 + 1 + 3 * (r 19).toNat)))]) dX6_place_22 (by decide) rfl rfl ?_
  refine g_aload X dX6_place_24 rfl ?_
  refine g_ifnull X dX6_place_26 ?_
  refine g_aload X dX6_place_29 rfl ?_
  refine g_iload_n X dX6_place_31 rfl ?_
  refine g_iload_n X dX6_place_32 rfl ?_
  refine g_iload_n X dX6_place_33 rfl ?_
  refine cl_X6_45 X (c_X4_startAt l E (up σ B 3 (r 19 + 1)) ((B + 5 + 1 + 3 * (r 19).toNat)) x y t (stP hB (r 19).toNat (by omega))) (stP hB (r 19).toNat (by omega)) ⟨Nat.le_of_ble_eq_true rfl, Nat.le_of_ble_eq_true rfl⟩ rfl (Nat.le_of_ble_eq_true rfl) dX6_place_34 rfl (fun v4 τ5 p6 => ?_)
  obtain ⟨rfl, rfl⟩ := p6
  have fr0 : frB σ (mStart (up σ B 3 (r 19 + 1)) (B + 5 + 1 + 3 * (r 19).toNat) x y t) B := fun z hz => funext fun j => mStart_ne (by omega) (up_ne _ _ (Or.inl (by omega)))
  refine g_iload X dX6_place_37 rfl ?_
  exact R _ _ _ _ dX6_place_39 ⟨rfl, place_rep hS hR h19, fr0⟩
set_option maxHeartbeats 1000000 in
set_option maxRecDepth 100000 in
theorem c_X6_copyFrom (l : Launch) (E : wEnv) (σ : Mem) (B D : Nat) (r : Row) (N : Int) (hB : isK 8 B) (hD : isK 8 D) (hS : SRep σ D r) (hR : RInv r N) (hsep : B + 36 ≤ D ∨ D + 36 ≤ B) : MetC l E yX6_copyFrom cX6_copyFrom 5 none 2 81 [rv E (B), rv E (D)] σ (fun v σ' => v = none ∧ SRep σ' B r ∧ frB σ σ' B) := by
  refine MetC.of (own := RX6) (by decide) rfl (by simp [Value.category]) (Nat.le_of_ble_eq_true rfl) [some (rv E (B)), some (rv E (D)), none, none, none] rfl (by simp) (fun K X R => ?_)
  have r19 := hR.2.2.2.2.1
  have cc := copy0 hS hsep
  refine g_aload_n X dX6_copyFrom_0 rfl ?_
  refine gf_X6_12 X hB dX6_copyFrom_1 ?_
  refine g_aload_n X dX6_copyFrom_4 rfl ?_
  refine gf_X6_12 X hD dX6_copyFrom_5 ?_
  refine cl_X6_170 X (c_X1_copyFrom l E σ ((B + 1)) ((D + 1)) (st1 hB) (st1 hD) (by omega)) (st1 hB) ⟨Nat.le_of_ble_eq_true rfl, Nat.le_of_ble_eq_true rfl⟩ rfl (Nat.le_of_ble_eq_true rfl) dX6_copyFrom_8 rfl (fun v1 τ2 p3 => ?_)
  obtain ⟨rfl, rfl⟩ := p3
  refine g_aload_n X dX6_copyFrom_11 rfl ?_
  refine gf_X6_27 X hD dX6_copyFrom_12 ?_
  refine g_iconst X dX6_copyFrom_15 ?_
  refine g_aload_n X dX6_copyFrom_16 rfl ?_
  refine gf_X6_27 X hB dX6_copyFrom_17 ?_
  refine g_iconst X dX6_copyFrom_20 ?_
  refine g_getsN2 X nL_X6_18 dX6_copyFrom_21 ?_
  refine g_tlen2 X dX6_copyFrom_24 ?_
  refine g_copy X wL_X6_174 (st4 hD) (st4 hB) (st4l hD) (st4l hB) (by omega) (by omega) (by omega) (by omega) (by omega) (by decide) (by decide) (Nat.le_of_ble_eq_true rfl) (by decide +kernel) dX6_copyFrom_25 ?_
  refine g_aload_n X dX6_copyFrom_28 rfl ?_
  refine g_aload_n X dX6_copyFrom_29 rfl ?_
  refine gf_X6_37 X hD (cpy_ne (by omega) (mCopyG_ne (by omega) (by omega) (by omega) (hS.2.2.2.2.1))) dX6_copyFrom_30 ?_
  refine pf_X6_37 X hB dX6_copyFrom_33 ?_
  refine g_iconst X dX6_copyFrom_36 ?_
  refine g_istore_n X (lw := [some (rv E (B)), some (rv E (D)), some (iv (0)), none, none]) dX6_copyFrom_37 (by decide) rfl rfl ?_
  have L4 : ∀ (fu : Nat) (τ : Mem) (i : Int), (0 ≤ i) → (i ≤ r 19) → (τ (B + 1) 2 = r 0) → (∀ j, j < 6 → τ (B + 1 + 1) j = r (1 + j)) → (∀ j, j < 6 → τ (B + 1 + 2) j = r (7 + j)) → (∀ j, j < 6 → τ (B + 4) j = r (13 + j)) → (τ B 3 = r 19) → (frB σ τ B) → (∀ q : Nat, (q : Int) < i → PRep τ (B + 5 + 1 + 3 * q) r q) → r 19 - i < (fu : Int) → K τ 38 [some (rv E (B)), some (rv E (D)), some (iv (i)), none, none] [] := by
    intro fu
    induction fu with
    | zero =>
      intro τ i j1 j2 k2 k3 k4 k5 k6 k1 k7 hm
      exact absurd hm (by omega)
    | succ fu ih4 =>
      intro τ i j1 j2 k2 k3 k4 k5 k6 k1 k7 hm
      have ne : ∀ x, x ≠ B + 5 + 1 + 3 * i.toNat → x ≠ B + 5 + 1 + 3 * i.toNat + 1 → x ≠ B + 5 + 1 + 3 * i.toNat + 2 → mCopyP τ (B + 5 + 1 + 3 * i.toNat) (D + 5 + 1 + 3 * i.toNat) x = τ x := fun x h0 h1 h2 => funext fun j => mCopyP_ne h0 h1 h2 rfl
      refine g_iload_n X dX6_copyFrom_38 rfl ?_
      refine g_aload_n X dX6_copyFrom_39 rfl ?_
      refine gf_X6_37 X hB rfl dX6_copyFrom_40 ?_
      refine g_icmp_ge X (tgt := 80) dX6_copyFrom_43 (by decide) ⟨by omega, by omega⟩ ⟨by omega, by omega⟩ (fun c5 => ?_) (fun c5 => ?_)
      · skip
        have hSd : SRep τ D r := hS.fr hR (fun x _ _ => k1 x (by omega))
        refine g_aload_n X dX6_copyFrom_80 rfl ?_
        refine g_aload_n X dX6_copyFrom_81 rfl ?_
        refine gf_X6_117 X hD (hSd.2.2.2.2.2.1.1) dX6_copyFrom_82 ?_
        refine pf_X6_117 X hB dX6_copyFrom_85 ?_
        refine g_aload_n X dX6_copyFrom_88 rfl ?_
        refine g_aload_n X dX6_copyFrom_89 rfl ?_
        refine gf_X6_121 X hD (up_ne1 (by omega) (hSd.2.2.2.2.2.1.2.1)) dX6_copyFrom_90 ?_
        refine pf_X6_121 X hB dX6_copyFrom_93 ?_
        refine g_aload_n X dX6_copyFrom_96 rfl ?_
        refine g_aload_n X dX6_copyFrom_97 rfl ?_
        refine gf_X6_124 X hD (up_ne1 (by omega) (up_ne1 (by omega) (hSd.2.2.2.2.2.1.2.2.1))) dX6_copyFrom_98 ?_
        refine pf_X6_124 X hB dX6_copyFrom_101 ?_
        refine g_aload_n X dX6_copyFrom_104 rfl ?_
        refine g_aload_n X dX6_copyFrom_105 rfl ?_
        refine gf_X6_127 X hD (up_ne1 (by omega) (up_ne1 (by omega) (up_ne1 (by omega) (hSd.2.2.2.2.2.1.2.2.2.1)))) dX6_copyFrom_106 ?_
        refine pf_X6_127 X hB dX6_copyFrom_109 ?_
        refine g_aload_n X dX6_copyFrom_112 rfl ?_
        refine g_aload_n X dX6_copyFrom_113 rfl ?_
        refine gf_X6_144 X hD (up_ne1 (by omega) (up_ne1 (by omega) (up_ne1 (by omega) (up_ne1 (by omega) (hSd.2.2.2.2.2.1.2.2.2.2.1))))) dX6_copyFrom_114 ?_
        refine pf_X6_144 X hB dX6_copyFrom_117 ?_
        refine g_aload_n X dX6_copyFrom_120 rfl ?_
        refine g_aload_n X dX6_copyFrom_121 rfl ?_
        refine gf_X6_167 X hD (up_ne1 (by omega) (up_ne1 (by omega) (up_ne1 (by omega) (up_ne1 (by omega) (up_ne1 (by omega) (hSd.2.2.2.2.2.1.2.2.2.2.2)))))) dX6_copyFrom_122 ?_
        refine pf_X6_167 X hB dX6_copyFrom_125 ?_
        exact R _ _ _ dX6_copyFrom_128 ⟨rfl, copy1 hR k2 k3 k4 k5 k6 (fun q hq => k7 q (by omega)), fun x hx => by rw [up_neC _ _ (by omega), up_neC _ _ (by omega), up_neC _ _ (by omega), up_neC _ _ (by omega), up_neC _ _ (by omega), up_neC _ _ (by omega)]; exact k1 x hx⟩
      · skip
        refine g_aload_n X dX6_copyFrom_46 rfl ?_
        refine g_iload_n X dX6_copyFrom_47 rfl ?_
        have hSd : SRep τ D r := hS.fr hR (fun x _ _ => k1 x (by omega))
        have hpd := hSd.2.2.2.2.2.2 i.toNat (by omega)
        have hfd := hpd.f
        have hid := (hR.2.2.2.2.2.2 i.toNat (by omega)).f
        refine cl_X6_41 X (c0_X6_pileAt l E τ B i hB (by omega) (by rw [k6]; omega) (by rw [k6]; omega)) hB ⟨Nat.le_of_ble_eq_true rfl, Nat.le_of_ble_eq_true rfl⟩ rfl (Nat.le_of_ble_eq_true rfl) dX6_copyFrom_48 rfl (fun v6 τ7 p8 => ?_)
        obtain ⟨rfl, rfl⟩ := p8
        refine g_astore_n X (lw := [some (rv E (B)), some (rv E (D)), some (iv (i)), some (rv E ((B + 5 + 1 + 3 * (i).toNat))), none]) dX6_copyFrom_51 (by decide) rfl rfl ?_
        refine g_aload_n X dX6_copyFrom_52 rfl ?_
        refine g_iload_n X dX6_copyFrom_53 rfl ?_
        refine cl_X6_41 X (c0_X6_pileAt l E τ D i hD (by omega) (by rw [hSd.2.2.2.2.1]; omega) (by rw [hSd.2.2.2.2.1]; omega)) hD ⟨Nat.le_of_ble_eq_true rfl, Nat.le_of_ble_eq_true rfl⟩ rfl (Nat.le_of_ble_eq_true rfl) dX6_copyFrom_54 rfl (fun v9 τ10 p11 => ?_)
        obtain ⟨rfl, rfl⟩ := p11
        refine g_astore X (lw := [some (rv E (B)), some (rv E (D)), some (iv (i)), some (rv E ((B + 5 + 1 + 3 * (i).toNat))), some (rv E ((D + 5 + 1 + 3 * (i).toNat)))]) dX6_copyFrom_57 (by decide) rfl rfl ?_
        refine g_aload_n X dX6_copyFrom_59 rfl ?_
        refine g_ifnull X dX6_copyFrom_60 ?_
        refine g_aload X dX6_copyFrom_63 rfl ?_
        refine g_ifnull X dX6_copyFrom_65 ?_
        refine g_aload_n X dX6_copyFrom_68 rfl ?_
        refine g_aload X dX6_copyFrom_69 rfl ?_
        refine cl_X6_180 X (c_X4_copyFrom l E τ ((B + 5 + 1 + 3 * (i).toNat)) ((D + 5 + 1 + 3 * (i).toNat)) (stP hB (i).toNat (by omega)) (stP hD (i).toNat (by omega)) (by omega) (by rw [hfd.2.2.2.2.2.2.2.1]; omega)) (stP hB (i).toNat (by omega)) ⟨Nat.le_of_ble_eq_true rfl, Nat.le_of_ble_eq_true rfl⟩ rfl (Nat.le_of_ble_eq_true rfl) dX6_copyFrom_71 rfl (fun v12 τ13 p14 => ?_)
        obtain ⟨rfl, rfl⟩ := p14
        refine g_iinc X (lw := [some (rv E (B)), some (rv E (D)), some (iv (i + 1)), some (rv E ((B + 5 + 1 + 3 * (i).toNat))), some (rv E ((D + 5 + 1 + 3 * (i).toNat)))]) dX6_copyFrom_74 rfl (by decide) rfl rfl ?_
        refine g_goto X (tgt := 38) dX6_copyFrom_77 (by decide) ?_
        refine g_kill X 3 (lw := [some (rv E (B)), some (rv E (D)), some (iv (i + 1)), none, some (rv E ((D + 5 + 1 + 3 * (i).toNat)))]) rfl ?_
        refine g_kill X 4 (lw := [some (rv E (B)), some (rv E (D)), some (iv (i + 1)), none, none]) rfl ?_
        exact ih4 (mCopyP τ ((B + 5 + 1 + 3 * (i).toNat)) ((D + 5 + 1 + 3 * (i).toNat)))  (i + 1) (by omega) (by omega) (by rw [ne _ (by omega) (by omega) (by omega)]; exact k2) (by intro j hj; rw [ne _ (by omega) (by omega) (by omega)]; exact k3 j hj) (by intro j hj; rw [ne _ (by omega) (by omega) (by omega)]; exact k4 j hj) (by intro j hj; rw [ne _ (by omega) (by omega) (by omega)]; exact k5 j hj) (by rw [ne _ (by omega) (by omega) (by omega)]; exact k6) (by intro x hx; rw [ne _ (by omega) (by omega) (by omega)]; exact k1 x hx) (by intro q hq; by_cases hqi : (q : Int) < i; exact (k7 q hqi).keep (ne _ (by omega) (by omega) (by omega)) (ne _ (by omega) (by omega) (by omega)) (ne _ (by omega) (by omega) (by omega)) (fun _ _ => rfl) (hR.2.2.2.2.2.2 q (by omega)).f.2.2.2.2.2.2.2.2; (have eq : q = i.toNat := by omega); subst eq; exact copyP_prep hpd hid.2.2.2.2.2.2.2.2) (by omega)
  exact L4 _ (up (cpy (mCopyG σ ((B + 1)) ((D + 1))) ((D + 4)) 0 ((B + 4)) 0 6) B 3 (r 19))  0 (by omega) (by omega) (by exact cc.1) (by exact cc.2.1) (by exact cc.2.2.1) (by exact cc.2.2.2.1) (by exact cc.2.2.2.2.1) (by exact cc.2.2.2.2.2) (by intro q hq; omega) (by exact Int.lt_toNat_succ _)
set_option maxHeartbeats 1000000 in
set_option maxRecDepth 100000 in
theorem c_X2_roomAt (l : Launch) (E : wEnv) (σ : Mem) (n : Int) (h0 : 0 ≤ n) (h1 : n < 4) : MetC l E yX2_roomAt cX2_roomAt 2 (some (.object "PileSets$State")) 0 0 [rv E (1), iv (n)] σ (fun v σ' => v = some (rv E (25 + 36 * (n.toNat + 1))) ∧ σ = σ') := by
  refine MetC.of (own := RX2) (by decide) rfl (by simp [Value.category]) (Nat.le_of_ble_eq_true rfl) [some (rv E (1)), some (iv (n))] rfl (by simp) (fun K X R => ?_)
  refine g_iload_n X dX2_roomAt_0 rfl ?_
  refine g_if_lt X (tgt := 22) dX2_roomAt_1 (by decide) ⟨by omega, by omega⟩ (fun c1 => ?_) (fun c1 => ?_)
  · skip
    refine g_aconst X dX2_roomAt_22 ?_
    exact R _ _ _ _ (Or.inl rfl) dX2_roomAt_23 ⟨by first | rfl | (exfalso; omega), rfl⟩
  · skip
    refine g_iload_n X dX2_roomAt_4 rfl ?_
    refine g_aload_n X dX2_roomAt_5 rfl ?_
    refine gf_X2_11 X fk1 dX2_roomAt_6 ?_
    refine g_alen2 X fk2 dX2_roomAt_9 ?_
    refine g_icmp_ge X (tgt := 22) dX2_roomAt_10 (by decide) ⟨by omega, by omega⟩ ⟨by decide, by decide⟩ (fun c2 => ?_) (fun c2 => ?_)
    · skip
      refine g_aconst X dX2_roomAt_22 ?_
      exact R _ _ _ _ (Or.inl rfl) dX2_roomAt_23 ⟨by first | rfl | (exfalso; omega), rfl⟩
    · skip
      refine g_aload_n X dX2_roomAt_13 rfl ?_
      refine gf_X2_11 X fk1 dX2_roomAt_14 ?_
      refine g_iload_n X dX2_roomAt_17 rfl ?_
      refine g_aald2 X fk2 (by omega) (by omega) dX2_roomAt_18 ?_
      refine g_goto X (tgt := 23) dX2_roomAt_19 (by decide) ?_
      exact R _ _ _ _ (Or.inr ⟨_, rfl⟩) dX2_roomAt_23 ⟨by first | rfl | (exfalso; omega), rfl⟩
set_option maxHeartbeats 1000000 in
set_option maxRecDepth 100000 in
theorem c_X2_remember (l : Launch) (E : wEnv) (σ : Mem) (hs : Nat → Row) (n : Nat) (r : Row) (N : Int) (hH : HRep σ hs n) (hI : HInv hs n N) (hS : SRep σ 25 r) (hR : RInv r N) : MetC l E yX2_remember cX2_remember 3 none 3 105 [rv E (1), rv E (25)] σ (fun v σ' => v = none ∧ HRep σ' (pushH hs n r) (min 4 (n + 1)) ∧ SRep σ' 25 r ∧ ∀ x, x < 25 → x ≠ 1 → σ' x = σ x) := by
  refine MetC.of (own := RX2) (by decide) rfl (by simp [Value.category]) (Nat.le_of_ble_eq_true rfl) [some (rv E (1)), some (rv E (25)), none] rfl (by simp) (fun K X R => ?_)
  have h4 := hH.1
  have hn := hH.2.1
  have hx := hH.2.2.1
  refine g_aload_n X dX2_remember_0 rfl ?_
  refine g_aload_n X dX2_remember_1 rfl ?_
  refine gf_X2_18 X fk1 rfl dX2_remember_2 ?_
  refine cl_X2_22 X (c_X2_roomAt l E σ (σ 1 2) (by omega) (by omega)) fk1 ⟨Nat.le_of_ble_eq_true rfl, Nat.le_of_ble_eq_true rfl⟩ rfl (Nat.le_of_ble_eq_true rfl) dX2_remember_5 rfl (fun v1 τ2 p3 => ?_)
  obtain ⟨rfl, rfl⟩ := p3
  refine g_astore_n X (lw := [some (rv E (1)), some (rv E (25)), some (rv E ((25 + 36 * ((σ 1 2).toNat + 1))))]) dX2_remember_8 (by decide) rfl rfl ?_
  refine g_aload_n X dX2_remember_9 rfl ?_
  refine g_ifnull X dX2_remember_10 ?_
  refine g_aload_n X dX2_remember_13 rfl ?_
  refine g_aload_n X dX2_remember_14 rfl ?_
  refine cl_X2_26 X (c_X6_copyFrom l E σ ((25 + 36 * ((σ 1 2).toNat + 1))) 25 r N (room_k (σ 1 2).toNat (by omega)) now_k hS hR (by omega)) (room_k (σ 1 2).toNat (by omega)) ⟨Nat.le_of_ble_eq_true rfl, Nat.le_of_ble_eq_true rfl⟩ rfl (Nat.le_of_ble_eq_true rfl) dX2_remember_15 rfl (fun v4 τ5 p6 => ?_)
  obtain ⟨rfl, hS15, hF15⟩ := p6
  refine g_aload_n X dX2_remember_18 rfl ?_
  refine g_aload_n X dX2_remember_19 rfl ?_
  refine gf_X2_18 X fk1 ((congrFun (hF15 1 (by omega)) 2).trans rfl) dX2_remember_20 ?_
  refine g_iconst X dX2_remember_23 ?_
  refine g_iadd X dX2_remember_24 ?_
  refine g_iconst X dX2_remember_25 ?_
  refine g_irem X dX2_remember_26 (by omega) (by omega) (by decide) (by decide) ?_
  refine pf_X2_18 X fk1 dX2_remember_27 ?_
  refine g_aload_n X dX2_remember_30 rfl ?_
  refine g_iconst X dX2_remember_31 ?_
  refine g_aload_n X dX2_remember_32 rfl ?_
  refine gf_X2_30 X fk1 (up_ne2 (by decide) ((congrFun (hF15 1 (by omega)) 1).trans rfl)) dX2_remember_33 ?_
  refine g_iconst X dX2_remember_36 ?_
  refine g_iadd X dX2_remember_37 ?_
  refine g_min X wL_X2_33 ⟨by decide, by decide⟩ ⟨by omega, by omega⟩ (Nat.le_of_ble_eq_true rfl) (Nat.le_of_ble_eq_true rfl) dX2_remember_38 ?_
  refine pf_X2_30 X fk1 dX2_remember_41 ?_
  exact R _ _ _ dX2_remember_44 ⟨rfl, push_rep hH hI rfl hS15 hR hF15 rfl (by rw [hn]), hS.fr hR (fun x h1 h2 => by rw [up_neC _ _ (by omega), up_neC _ _ (by omega)]; exact hF15 x (by omega)), fun x h1 h2 => by rw [up_neC _ _ h2, up_neC _ _ h2]; exact hF15 x (by omega)⟩
set_option maxHeartbeats 1000000 in
set_option maxRecDepth 100000 in
theorem c_X2_restore (l : Launch) (E : wEnv) (σ : Mem) (hs : Nat → Row) (n : Nat) (N : Int) (hH : HRep σ hs (n + 1)) (hI : HInv hs (n + 1) N) : MetC l E yX2_restore cX2_restore 4 none 3 105 [rv E (1), rv E (25)] σ (fun v σ' => v = none ∧ HRep σ' hs n ∧ SRep σ' 25 (hs n) ∧ ∀ x, x < 25 → x ≠ 1 → σ' x = σ x) := by
  refine MetC.of (own := RX2) (by decide) rfl (by simp [Value.category]) (Nat.le_of_ble_eq_true rfl) [some (rv E (1)), some (rv E (25)), none, none] rfl (by simp) (fun K X R => ?_)
  have h4 := hH.1
  have hn := hH.2.1
  have hx := hH.2.2.1
  refine g_aload_n X dX2_restore_0 rfl ?_
  refine gf_X2_18 X fk1 rfl dX2_restore_1 ?_
  refine g_iconst X dX2_restore_4 ?_
  refine g_iadd X dX2_restore_5 ?_
  refine g_iconst X dX2_restore_6 ?_
  refine g_isub X dX2_restore_7 ?_
  refine g_iconst X dX2_restore_8 ?_
  refine g_irem X dX2_restore_9 (by omega) (by omega) (by decide) (by decide) ?_
  refine g_istore_n X (lw := [some (rv E (1)), some (rv E (25)), some (iv ((σ 1 2 + 4 - 1) % 4)), none]) dX2_restore_10 (by decide) rfl rfl ?_
  refine g_aload_n X dX2_restore_11 rfl ?_
  refine g_iload_n X dX2_restore_12 rfl ?_
  refine cl_X2_22 X (c_X2_roomAt l E σ ((σ 1 2 + 4 - 1) % 4) (by omega) (by omega)) fk1 ⟨Nat.le_of_ble_eq_true rfl, Nat.le_of_ble_eq_true rfl⟩ rfl (Nat.le_of_ble_eq_true rfl) dX2_restore_13 rfl (fun v1 τ2 p3 => ?_)
  obtain ⟨rfl, rfl⟩ := p3
  refine g_astore_n X (lw := [some (rv E (1)), some (rv E (25)), some (iv ((σ 1 2 + 4 - 1) % 4)), some (rv E ((25 + 36 * (((σ 1 2 + 4 - 1) % 4).toNat + 1))))]) dX2_restore_16 (by decide) rfl rfl ?_
  refine g_aload_n X dX2_restore_17 rfl ?_
  refine g_ifnull X dX2_restore_18 ?_
  refine g_aload_n X dX2_restore_21 rfl ?_
  refine gf_X2_30 X fk1 rfl dX2_restore_22 ?_
  refine g_if_le X (tgt := 48) dX2_restore_25 (by decide) ⟨by omega, by omega⟩ (fun c4 => ?_) (fun c4 => ?_)
  · skip
    exact R _ _ _ dX2_restore_48 ⟨rfl, by first | (exfalso; omega) | exact pop_rep hH hI hF30 rfl (by rw [hn]; omega), by first | (exfalso; omega) | exact hS30.fr (hI n (by omega)) (fun x h1 h2 => by rw [up_neC _ _ (by omega), up_neC _ _ (by omega)]), by first | (exfalso; omega) | exact fun x h1 h2 => by rw [up_neC _ _ h2, up_neC _ _ h2]; exact hF30 x (by omega)⟩
  · skip
    refine g_aload_n X dX2_restore_28 rfl ?_
    refine g_aload_n X dX2_restore_29 rfl ?_
    refine cl_X2_26 X (c_X6_copyFrom l E σ 25 ((25 + 36 * (((σ 1 2 + 4 - 1) % 4).toNat + 1))) ((hs n)) N now_k (room_k ((σ 1 2 + 4 - 1) % 4).toNat (by omega)) (by have q := hH.2.2.2 n (by omega); rw [show ((σ 1 2).toNat + 4 - (n + 1) + n) % 4 = ((σ 1 2 + 4 - 1) % 4).toNat by omega] at q; exact q) (hI n (by omega)) (by omega)) now_k ⟨Nat.le_of_ble_eq_true rfl, Nat.le_of_ble_eq_true rfl⟩ rfl (Nat.le_of_ble_eq_true rfl) dX2_restore_30 rfl (fun v5 τ6 p7 => ?_)
    obtain ⟨rfl, hS30, hF30⟩ := p7
    refine g_aload_n X dX2_restore_33 rfl ?_
    refine g_iload_n X dX2_restore_34 rfl ?_
    refine pf_X2_18 X fk1 dX2_restore_35 ?_
    refine g_aload_n X dX2_restore_38 rfl ?_
    refine g_dup X dX2_restore_39 rfl ?_
    refine gf_X2_30 X fk1 (up_ne2 (by decide) ((congrFun (hF30 1 (by omega)) 1).trans rfl)) dX2_restore_40 ?_
    refine g_iconst X dX2_restore_43 ?_
    refine g_isub X dX2_restore_44 ?_
    refine pf_X2_30 X fk1 dX2_restore_45 ?_
    exact R _ _ _ dX2_restore_48 ⟨rfl, by first | (exfalso; omega) | exact pop_rep hH hI hF30 rfl (by rw [hn]; omega), by first | (exfalso; omega) | exact hS30.fr (hI n (by omega)) (fun x h1 h2 => by rw [up_neC _ _ (by omega), up_neC _ _ (by omega)]), by first | (exfalso; omega) | exact fun x h1 h2 => by rw [up_neC _ _ h2, up_neC _ _ h2]; exact hF30 x (by omega)⟩
