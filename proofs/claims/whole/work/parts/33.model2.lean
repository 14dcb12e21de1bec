/-! ===== contracts: the reference's blows ===== -/
set_option maxHeartbeats 1000000 in
set_option maxRecDepth 100000 in
theorem c0_X8_of (l : Launch) (E : wEnv) (σ : Mem) (p k : Int) (n : Nat) (hp : 0 ≤ p ∧ p < 10) (hk : 0 ≤ k ∧ k < 91) (hn : (n : Int) = 24 + 91 * p + k) : MetC l E yX8_of cX8_of 3 (some .int) 0 0 [rv E (12), iv (p), iv (k)] σ (fun v σ' => v = some (iv (σ 13 n)) ∧ σ = σ') := by
  refine MetC.of (own := RX8) (by decide) rfl (by simp [Value.category]) (Nat.le_of_ble_eq_true rfl) [some (rv E (12)), some (iv (p)), some (iv (k))] rfl (by simp) (fun K X R => ?_)
  refine g_aload_n X dX8_of_0 rfl ?_
  refine gf_X8_7 X fk12 dX8_of_1 ?_
  refine g_bipush X dX8_of_4 (by decide) ?_
  refine g_bipush X dX8_of_6 (by decide) ?_
  refine g_iload_n X dX8_of_8 rfl ?_
  refine g_imul X dX8_of_9 ?_
  refine g_iadd X dX8_of_10 ?_
  refine g_iload_n X dX8_of_11 rfl ?_
  refine g_iadd X dX8_of_12 ?_
  refine g_iald X fk13 fl13 (by omega) (by omega) (by decide) rfl dX8_of_13 ?_
  exact R _ _ _ _ dX8_of_14 ⟨congrArg (fun z => some (iv z)) (by exact congrArg (σ 13) (by omega)), rfl⟩
set_option maxHeartbeats 1000000 in
set_option maxRecDepth 100000 in
theorem c_X8_put (l : Launch) (E : wEnv) (σ : Mem) (p k x : Int) (n : Nat) (hp : 0 ≤ p ∧ p < 10) (hk : 0 ≤ k ∧ k < 91) (hn : (n : Int) = 24 + 91 * p + k) : MetC l E yX8_put cX8_put 4 none 0 0 [rv E (12), iv (p), iv (k), iv (x)] σ (fun v σ' => v = none ∧ up σ 13 n x = σ') := by
  refine MetC.of (own := RX8) (by decide) rfl (by simp [Value.category]) (Nat.le_of_ble_eq_true rfl) [some (rv E (12)), some (iv (p)), some (iv (k)), some (iv (x))] rfl (by simp) (fun K X R => ?_)
  refine g_aload_n X dX8_put_0 rfl ?_
  refine gf_X8_7 X fk12 dX8_put_1 ?_
  refine g_bipush X dX8_put_4 (by decide) ?_
  refine g_bipush X dX8_put_6 (by decide) ?_
  refine g_iload_n X dX8_put_8 rfl ?_
  refine g_imul X dX8_put_9 ?_
  refine g_iadd X dX8_put_10 ?_
  refine g_iload_n X dX8_put_11 rfl ?_
  refine g_iadd X dX8_put_12 ?_
  refine g_iload_n X dX8_put_13 rfl ?_
  refine g_iast X fk13 fl13 (by omega) (by omega) (by decide) dX8_put_14 ?_
  exact R _ _ _ dX8_put_15 ⟨rfl, by rw [show n = (24 + 91 * p + k).toNat by omega]⟩
set_option maxHeartbeats 1000000 in
set_option maxRecDepth 100000 in
theorem c_X8_keeps (l : Launch) (E : wEnv) (σ : Mem) (r : Row) (hM : RR σ r) (p a b : Int) (hp : 0 ≤ p ∧ p < 10) (hk : 0 ≤ r (24 + 91 * p.toNat + 10) ∧ r (24 + 91 * p.toNat + 10) ≤ 40) : MetC l E yX8_keeps cX8_keeps 5 none 1 23 [rv E (12), iv (p), iv (a), iv (b)] σ (fun v σ' => v = none ∧ RR σ' (keptR r p.toNat a b) ∧ frR σ σ') := by
  refine MetC.of (own := RX8) (by decide) rfl (by simp [Value.category]) (Nat.le_of_ble_eq_true rfl) [some (rv E (12)), some (iv (p)), some (iv (a)), some (iv (b)), none] rfl (by simp) (fun K X R => ?_)
  refine g_aload_n X dX8_keeps_0 rfl ?_
  refine g_iload_n X dX8_keeps_1 rfl ?_
  refine g_bipush X dX8_keeps_2 (by decide) ?_
  refine cl_X8_62 X (c0_X8_of l E σ p 10 (24 + 91 * p.toNat + 10) (by omega) (by omega) (by omega)) fk12 ⟨Nat.le_of_ble_eq_true rfl, Nat.le_of_ble_eq_true rfl⟩ rfl (Nat.le_of_ble_eq_true rfl) dX8_keeps_4 rfl (fun v1 τ2 p3 => ?_)
  obtain ⟨rfl, rfl⟩ := p3
  rw [show σ 13 (24 + 91 * p.toNat + 10) = r (24 + 91 * p.toNat + 10) from (hM.at (n := (24 + 91 * p.toNat + 10)) (by omega) (by omega))]
  refine g_bipush X dX8_keeps_7 (by decide) ?_
  refine g_icmp_ne X (tgt := 81) dX8_keeps_9 (by decide) ⟨by omega, by omega⟩ ⟨by decide, by decide⟩ (fun c4 => ?_) (fun c4 => ?_)
  · skip
    refine g_aload_n X dX8_keeps_81 rfl ?_
    refine g_iload_n X dX8_keeps_82 rfl ?_
    refine g_bipush X dX8_keeps_83 (by decide) ?_
    refine cl_X8_62 X (c0_X8_of l E σ p 10 (24 + 91 * p.toNat + 10) (by omega) (by omega) (by omega)) fk12 ⟨Nat.le_of_ble_eq_true rfl, Nat.le_of_ble_eq_true rfl⟩ rfl (Nat.le_of_ble_eq_true rfl) dX8_keeps_85 rfl (fun v5 τ6 p7 => ?_)
    obtain ⟨rfl, rfl⟩ := p7
    rw [show σ 13 (24 + 91 * p.toNat + 10) = r (24 + 91 * p.toNat + 10) from (hM.at (n := (24 + 91 * p.toNat + 10)) (by omega) (by omega))]
    refine g_istore X (lw := [some (rv E (12)), some (iv (p)), some (iv (a)), some (iv (b)), some (iv (r (24 + 91 * p.toNat + 10)))]) dX8_keeps_88 (by decide) rfl rfl ?_
    refine g_aload_n X dX8_keeps_90 rfl ?_
    refine g_iload_n X dX8_keeps_91 rfl ?_
    refine g_bipush X dX8_keeps_92 (by decide) ?_
    refine g_iload X dX8_keeps_94 rfl ?_
    refine g_iadd X dX8_keeps_96 ?_
    refine g_iload_n X dX8_keeps_97 rfl ?_
    refine cl_X8_93 X (c_X8_put l E σ p (11 + (r (24 + 91 * p.toNat + 10))) a (24 + 91 * p.toNat + (11 + (r (24 + 91 * p.toNat + 10))).toNat) (by omega) (by omega) (by omega)) fk12 ⟨Nat.le_of_ble_eq_true rfl, Nat.le_of_ble_eq_true rfl⟩ rfl (Nat.le_of_ble_eq_true rfl) dX8_keeps_98 rfl (fun v8 τ9 p10 => ?_)
    obtain ⟨rfl, rfl⟩ := p10
    refine g_aload_n X dX8_keeps_101 rfl ?_
    refine g_iload_n X dX8_keeps_102 rfl ?_
    refine g_bipush X dX8_keeps_103 (by decide) ?_
    refine g_iload X dX8_keeps_105 rfl ?_
    refine g_iadd X dX8_keeps_107 ?_
    refine g_iload_n X dX8_keeps_108 rfl ?_
    refine cl_X8_93 X (c_X8_put l E (up σ 13 ((24 + 91 * p.toNat + (11 + (r (24 + 91 * p.toNat + 10))).toNat)) (a)) p (51 + (r (24 + 91 * p.toNat + 10))) b (24 + 91 * p.toNat + (51 + (r (24 + 91 * p.toNat + 10))).toNat) (by omega) (by omega) (by omega)) fk12 ⟨Nat.le_of_ble_eq_true rfl, Nat.le_of_ble_eq_true rfl⟩ rfl (Nat.le_of_ble_eq_true rfl) dX8_keeps_109 rfl (fun v11 τ12 p13 => ?_)
    obtain ⟨rfl, rfl⟩ := p13
    refine g_aload_n X dX8_keeps_112 rfl ?_
    refine g_iload_n X dX8_keeps_113 rfl ?_
    refine g_bipush X dX8_keeps_114 (by decide) ?_
    refine g_iload X dX8_keeps_116 rfl ?_
    refine g_iconst X dX8_keeps_118 ?_
    refine g_iadd X dX8_keeps_119 ?_
    refine cl_X8_93 X (c_X8_put l E (up (up σ 13 ((24 + 91 * p.toNat + (11 + (r (24 + 91 * p.toNat + 10))).toNat)) (a)) 13 ((24 + 91 * p.toNat + (51 + (r (24 + 91 * p.toNat + 10))).toNat)) (b)) p 10 (r (24 + 91 * p.toNat + 10) + 1) (24 + 91 * p.toNat + 10) (by omega) (by omega) (by omega)) fk12 ⟨Nat.le_of_ble_eq_true rfl, Nat.le_of_ble_eq_true rfl⟩ rfl (Nat.le_of_ble_eq_true rfl) dX8_keeps_120 rfl (fun v14 τ15 p16 => ?_)
    obtain ⟨rfl, rfl⟩ := p16
    exact R _ _ _ dX8_keeps_123 ⟨rfl, (((hM.put (n := 24 + 91 * p.toNat + (11 + r (24 + 91 * p.toNat + 10)).toNat) (v := a) (by omega)).put (n := 24 + 91 * p.toNat + (51 + r (24 + 91 * p.toNat + 10)).toNat) (v := b) (by omega)).put (n := 24 + 91 * p.toNat + 10) (v := r (24 + 91 * p.toNat + 10) + 1) (by omega)).congr (fun n _ => by rw [show 24 + 91 * p.toNat + (11 + r (24 + 91 * p.toNat + 10)).toNat = 24 + 91 * p.toNat + 11 + (r (24 + 91 * p.toNat + 10)).toNat by omega, show 24 + 91 * p.toNat + (51 + r (24 + 91 * p.toNat + 10)).toNat = 24 + 91 * p.toNat + 51 + (r (24 + 91 * p.toNat + 10)).toNat by omega]; exact kept_part (by omega) (by omega) (by omega) n), ((frR.refl.up (Or.inl rfl)).up (Or.inl rfl)).up (Or.inl rfl)⟩
  · skip
    refine g_iconst X dX8_keeps_12 ?_
    refine g_istore X (lw := [some (rv E (12)), some (iv (p)), some (iv (a)), some (iv (b)), some (iv (1))]) dX8_keeps_13 (by decide) rfl rfl ?_
    have L17 : ∀ (fu : Nat) (τ : Mem) (k : Int), (1 ≤ k) → (k ≤ 40) → (RR τ (shR r p.toNat k.toNat)) → (frR σ τ) → 40 - k < (fu : Int) → K τ 15 [some (rv E (12)), some (iv (p)), some (iv (a)), some (iv (b)), some (iv (k))] [] := by
      intro fu
      induction fu with
      | zero =>
        intro τ k j1 j2 j4 j5 hm
        exact absurd hm (by omega)
      | succ fu ih17 =>
        intro τ k j1 j2 j4 j5 hm
        refine g_iload X dX8_keeps_15 rfl ?_
        refine g_bipush X dX8_keeps_17 (by decide) ?_
        refine g_icmp_ge X (tgt := 72) dX8_keeps_19 (by decide) ⟨by omega, by omega⟩ ⟨by decide, by decide⟩ (fun c18 => ?_) (fun c18 => ?_)
        · skip
          refine g_aload_n X dX8_keeps_72 rfl ?_
          refine g_iload_n X dX8_keeps_73 rfl ?_
          refine g_bipush X dX8_keeps_74 (by decide) ?_
          refine g_bipush X dX8_keeps_76 (by decide) ?_
          refine cl_X8_93 X (c_X8_put l E τ p 10 39 (24 + 91 * p.toNat + 10) (by omega) (by omega) (by omega)) fk12 ⟨Nat.le_of_ble_eq_true rfl, Nat.le_of_ble_eq_true rfl⟩ rfl (Nat.le_of_ble_eq_true rfl) dX8_keeps_78 rfl (fun v19 τ20 p21 => ?_)
          obtain ⟨rfl, rfl⟩ := p21
          refine g_aload_n X dX8_keeps_81 rfl ?_
          refine g_iload_n X dX8_keeps_82 rfl ?_
          refine g_bipush X dX8_keeps_83 (by decide) ?_
          refine cl_X8_62 X (c0_X8_of l E (up τ 13 ((24 + 91 * p.toNat + 10)) (39)) p 10 (24 + 91 * p.toNat + 10) (by omega) (by omega) (by omega)) fk12 ⟨Nat.le_of_ble_eq_true rfl, Nat.le_of_ble_eq_true rfl⟩ rfl (Nat.le_of_ble_eq_true rfl) dX8_keeps_85 rfl (fun v22 τ23 p24 => ?_)
          obtain ⟨rfl, rfl⟩ := p24
          rw [show (up τ 13 ((24 + 91 * p.toNat + 10)) (39)) 13 (24 + 91 * p.toNat + 10) = 39 from (up_same _ _ _ _)]
          refine g_istore X (lw := [some (rv E (12)), some (iv (p)), some (iv (a)), some (iv (b)), some (iv (39))]) dX8_keeps_88 (by decide) rfl rfl ?_
          refine g_aload_n X dX8_keeps_90 rfl ?_
          refine g_iload_n X dX8_keeps_91 rfl ?_
          refine g_bipush X dX8_keeps_92 (by decide) ?_
          refine g_iload X dX8_keeps_94 rfl ?_
          refine g_iadd X dX8_keeps_96 ?_
          refine g_iload_n X dX8_keeps_97 rfl ?_
          refine cl_X8_93 X (c_X8_put l E (up τ 13 ((24 + 91 * p.toNat + 10)) (39)) p (11 + 39) a (24 + 91 * p.toNat + (11 + 39 : Int).toNat) (by omega) (by omega) (by omega)) fk12 ⟨Nat.le_of_ble_eq_true rfl, Nat.le_of_ble_eq_true rfl⟩ rfl (Nat.le_of_ble_eq_true rfl) dX8_keeps_98 rfl (fun v25 τ26 p27 => ?_)
          obtain ⟨rfl, rfl⟩ := p27
          refine g_aload_n X dX8_keeps_101 rfl ?_
          refine g_iload_n X dX8_keeps_102 rfl ?_
          refine g_bipush X dX8_keeps_103 (by decide) ?_
          refine g_iload X dX8_keeps_105 rfl ?_
          refine g_iadd X dX8_keeps_107 ?_
          refine g_iload_n X dX8_keeps_108 rfl ?_
          refine cl_X8_93 X (c_X8_put l E (up (up τ 13 ((24 + 91 * p.toNat + 10)) (39)) 13 ((24 + 91 * p.toNat + (11 + 39 : Int).toNat)) (a)) p (51 + 39) b (24 + 91 * p.toNat + (51 + 39 : Int).toNat) (by omega) (by omega) (by omega)) fk12 ⟨Nat.le_of_ble_eq_true rfl, Nat.le_of_ble_eq_true rfl⟩ rfl (Nat.le_of_ble_eq_true rfl) dX8_keeps_109 rfl (fun v28 τ29 p30 => ?_)
          obtain ⟨rfl, rfl⟩ := p30
          refine g_aload_n X dX8_keeps_112 rfl ?_
          refine g_iload_n X dX8_keeps_113 rfl ?_
          refine g_bipush X dX8_keeps_114 (by decide) ?_
          refine g_iload X dX8_keeps_116 rfl ?_
          refine g_iconst X dX8_keeps_118 ?_
          refine g_iadd X dX8_keeps_119 ?_
          refine cl_X8_93 X (c_X8_put l E (up (up (up τ 13 ((24 + 91 * p.toNat + 10)) (39)) 13 ((24 + 91 * p.toNat + (11 + 39 : Int).toNat)) (a)) 13 ((24 + 91 * p.toNat + (51 + 39 : Int).toNat)) (b)) p 10 (39 + 1) (24 + 91 * p.toNat + 10) (by omega) (by omega) (by omega)) fk12 ⟨Nat.le_of_ble_eq_true rfl, Nat.le_of_ble_eq_true rfl⟩ rfl (Nat.le_of_ble_eq_true rfl) dX8_keeps_120 rfl (fun v31 τ32 p33 => ?_)
          obtain ⟨rfl, rfl⟩ := p33
          exact R _ _ _ dX8_keeps_123 ⟨rfl, ((((j4.put (n := 24 + 91 * p.toNat + 10) (v := 39) (by omega)).put (n := 24 + 91 * p.toNat + (11 + 39 : Int).toNat) (v := a) (by omega)).put (n := 24 + 91 * p.toNat + (51 + 39 : Int).toNat) (v := b) (by omega)).put (n := 24 + 91 * p.toNat + 10) (v := 39 + 1) (by omega)).congr (fun n _ => by rw [show k.toNat = 40 by omega]; exact kept_full (by omega) n), (((j5.up (Or.inl rfl)).up (Or.inl rfl)).up (Or.inl rfl)).up (Or.inl rfl)⟩
        · skip
          refine g_aload_n X dX8_keeps_22 rfl ?_
          refine g_iload_n X dX8_keeps_23 rfl ?_
          refine g_bipush X dX8_keeps_24 (by decide) ?_
          refine g_iload X dX8_keeps_26 rfl ?_
          refine g_iadd X dX8_keeps_28 ?_
          refine g_iconst X dX8_keeps_29 ?_
          refine g_isub X dX8_keeps_30 ?_
          refine g_aload_n X dX8_keeps_31 rfl ?_
          refine g_iload_n X dX8_keeps_32 rfl ?_
          refine g_bipush X dX8_keeps_33 (by decide) ?_
          refine g_iload X dX8_keeps_35 rfl ?_
          refine g_iadd X dX8_keeps_37 ?_
          refine cl_X8_62 X (c0_X8_of l E τ p (11 + k) (24 + 91 * p.toNat + (11 + k.toNat)) (by omega) (by omega) (by omega)) fk12 ⟨Nat.le_of_ble_eq_true rfl, Nat.le_of_ble_eq_true rfl⟩ rfl (Nat.le_of_ble_eq_true rfl) dX8_keeps_38 rfl (fun v34 τ35 p36 => ?_)
          obtain ⟨rfl, rfl⟩ := p36
          rw [show τ 13 (24 + 91 * p.toNat + (11 + k.toNat)) = (shR r p.toNat k.toNat) (24 + 91 * p.toNat + (11 + k.toNat)) from (j4.at (n := (24 + 91 * p.toNat + (11 + k.toNat))) (by omega) (by omega))]
          refine cl_X8_93 X (c_X8_put l E τ p (11 + k - 1) ((shR r p.toNat k.toNat) (24 + 91 * p.toNat + (11 + k.toNat))) (24 + 91 * p.toNat + (11 + k - 1).toNat) (by omega) (by omega) (by omega)) fk12 ⟨Nat.le_of_ble_eq_true rfl, Nat.le_of_ble_eq_true rfl⟩ rfl (Nat.le_of_ble_eq_true rfl) dX8_keeps_41 rfl (fun v37 τ38 p39 => ?_)
          obtain ⟨rfl, rfl⟩ := p39
          refine g_aload_n X dX8_keeps_44 rfl ?_
          refine g_iload_n X dX8_keeps_45 rfl ?_
          refine g_bipush X dX8_keeps_46 (by decide) ?_
          refine g_iload X dX8_keeps_48 rfl ?_
          refine g_iadd X dX8_keeps_50 ?_
          refine g_iconst X dX8_keeps_51 ?_
          refine g_isub X dX8_keeps_52 ?_
          refine g_aload_n X dX8_keeps_53 rfl ?_
          refine g_iload_n X dX8_keeps_54 rfl ?_
          refine g_bipush X dX8_keeps_55 (by decide) ?_
          refine g_iload X dX8_keeps_57 rfl ?_
          refine g_iadd X dX8_keeps_59 ?_
          refine cl_X8_62 X (c0_X8_of l E (up τ 13 ((24 + 91 * p.toNat + (11 + k - 1).toNat)) ((shR r p.toNat k.toNat) (24 + 91 * p.toNat + (11 + k.toNat)))) p (51 + k) (24 + 91 * p.toNat + (51 + k.toNat)) (by omega) (by omega) (by omega)) fk12 ⟨Nat.le_of_ble_eq_true rfl, Nat.le_of_ble_eq_true rfl⟩ rfl (Nat.le_of_ble_eq_true rfl) dX8_keeps_60 rfl (fun v40 τ41 p42 => ?_)
          obtain ⟨rfl, rfl⟩ := p42
          rw [show (up τ 13 ((24 + 91 * p.toNat + (11 + k - 1).toNat)) ((shR r p.toNat k.toNat) (24 + 91 * p.toNat + (11 + k.toNat)))) 13 (24 + 91 * p.toNat + (51 + k.toNat)) = rs1 (shR r p.toNat k.toNat) (24 + 91 * p.toNat + (11 + k - 1).toNat) (shR r p.toNat k.toNat (24 + 91 * p.toNat + (11 + k.toNat))) (24 + 91 * p.toNat + (51 + k.toNat)) from ((j4.put (n := (24 + 91 * p.toNat + (11 + k - 1).toNat)) (by omega)).1 _ (by omega))]
          refine cl_X8_93 X (c_X8_put l E (up τ 13 ((24 + 91 * p.toNat + (11 + k - 1).toNat)) ((shR r p.toNat k.toNat) (24 + 91 * p.toNat + (11 + k.toNat)))) p (51 + k - 1) (rs1 (shR r p.toNat k.toNat) (24 + 91 * p.toNat + (11 + k - 1).toNat) (shR r p.toNat k.toNat (24 + 91 * p.toNat + (11 + k.toNat))) (24 + 91 * p.toNat + (51 + k.toNat))) (24 + 91 * p.toNat + (51 + k - 1).toNat) (by omega) (by omega) (by omega)) fk12 ⟨Nat.le_of_ble_eq_true rfl, Nat.le_of_ble_eq_true rfl⟩ rfl (Nat.le_of_ble_eq_true rfl) dX8_keeps_63 rfl (fun v43 τ44 p45 => ?_)
          obtain ⟨rfl, rfl⟩ := p45
          refine g_iinc X (lw := [some (rv E (12)), some (iv (p)), some (iv (a)), some (iv (b)), some (iv (k + 1))]) dX8_keeps_66 rfl (by decide) rfl rfl ?_
          refine g_goto X (tgt := 15) dX8_keeps_69 (by decide) ?_
          exact ih17 (up (up τ 13 ((24 + 91 * p.toNat + (11 + k - 1).toNat)) ((shR r p.toNat k.toNat) (24 + 91 * p.toNat + (11 + k.toNat)))) 13 ((24 + 91 * p.toNat + (51 + k - 1).toNat)) (rs1 (shR r p.toNat k.toNat) (24 + 91 * p.toNat + (11 + k - 1).toNat) (shR r p.toNat k.toNat (24 + 91 * p.toNat + (11 + k.toNat))) (24 + 91 * p.toNat + (51 + k.toNat))))  (k + 1) (by omega) (by omega) (by have q := (j4.put (n := (24 + 91 * p.toNat + (11 + k - 1).toNat)) (v := shR r p.toNat k.toNat (24 + 91 * p.toNat + (11 + k.toNat))) (by omega)).put (n := (24 + 91 * p.toNat + (51 + k - 1).toNat)) (v := rs1 (shR r p.toNat k.toNat) (24 + 91 * p.toNat + (11 + k - 1).toNat) (shR r p.toNat k.toNat (24 + 91 * p.toNat + (11 + k.toNat))) (24 + 91 * p.toNat + (51 + k.toNat))) (by omega); refine q.congr (fun n _ => ?_); rw [show (k + 1).toNat = k.toNat + 1 by omega, shR_step (by omega) (by omega), show (11 + k - 1).toNat = 11 + (k.toNat - 1) by omega, show (51 + k - 1).toNat = 51 + (k.toNat - 1) by omega]; simp only [Nat.add_assoc]) (by exact (j5.up (Or.inl rfl)).up (Or.inl rfl)) (by omega)
    exact L17 _ σ  1 (by omega) (by omega) (by exact hM.congr (fun n _ => by unfold shR; rw [if_neg (by omega), if_neg (by omega)])) (by exact frR.refl) (by exact Int.lt_toNat_succ _)
set_option maxHeartbeats 1000000 in
set_option maxRecDepth 100000 in
theorem c_X8_lifts (l : Launch) (E : wEnv) (σ : Mem) (r : Row) (N : Int) (hM : RR σ r) (hR : RInv r (N + 1)) (h22 : r 22 ≤ 2250 * N) (p s : Int) (hp : 0 ≤ p ∧ p < r 19) (hs : 0 ≤ s ∧ s ≤ 500) : MetC l E yX8_lifts cX8_lifts 5 none 2 45 [rv E (12), iv (p), iv (s)] σ (fun v σ' => v = none ∧ RR σ' (liftsR r p.toNat (byR r s) (r 19).toNat) ∧ frR σ σ') := by
  refine MetC.of (own := RX8) (by decide) rfl (by simp [Value.category]) (Nat.le_of_ble_eq_true rfl) [some (rv E (12)), some (iv (p)), some (iv (s)), none, none] rfl (by simp) (fun K X R => ?_)
  have r19 := hR.2.2.2.2.1
  have bb := (byR_bd hR hs.1 hs.2).2
  refine g_iconst X dX8_lifts_0 ?_
  refine g_istore_n X (lw := [some (rv E (12)), some (iv (p)), some (iv (s)), some (iv (0)), none]) dX8_lifts_1 (by decide) rfl rfl ?_
  have L1 : ∀ (fu : Nat) (τ : Mem) (i : Int), (0 ≤ i) → (i ≤ r 19) → (RR τ (liftsR r p.toNat (byR r s) i.toNat)) → (frR σ τ) → r 19 - i < (fu : Int) → K τ 2 [some (rv E (12)), some (iv (p)), some (iv (s)), some (iv (i)), none] [] := by
    intro fu
    induction fu with
    | zero =>
      intro τ i j1 j2 j4 j5 hm
      exact absurd hm (by omega)
    | succ fu ih1 =>
      intro τ i j1 j2 j4 j5 hm
      have hl := lifts_inv hR h22 (p := p.toNat) (by omega) bb.1 bb.2 i.toNat (by omega)
      have hl19 := hl.2.1
      have hlq := hl.1.2.2.2.2.1
      have e18 : byR (liftsR r p.toNat (byR r s) i.toNat) s = byR r s := by unfold byR; rw [liftsR_st _ _ (fun a _ => by omega) (by omega)]
      have hpp := (hl.1.2.2.2.2.2.2 p.toNat (by omega)).f
      have hqq : i < r 19 → _ := fun q => (hl.1.2.2.2.2.2.2 i.toNat (by omega)).f
      refine g_iload_n X dX8_lifts_2 rfl ?_
      refine g_aload_n X dX8_lifts_3 rfl ?_
      refine gf_X8_7 X fk12 dX8_lifts_4 ?_
      refine g_bipush X dX8_lifts_7 (by decide) ?_
      refine g_iald X fk13 fl13 (by omega) (by omega) (by decide) (j4.at (n := 19) (by omega) (by omega)) dX8_lifts_9 ?_
      refine g_icmp_ge X (tgt := 108) dX8_lifts_10 (by decide) ⟨by omega, by omega⟩ ⟨by omega, by omega⟩ (fun c2 => ?_) (fun c2 => ?_)
      · skip
        exact R _ _ _ dX8_lifts_108 ⟨rfl, by rw [show (r 19).toNat = i.toNat by omega]; exact j4, j5⟩
      · skip
        refine g_aload_n X dX8_lifts_13 rfl ?_
        refine g_iload_n X dX8_lifts_14 rfl ?_
        refine g_iload_n X dX8_lifts_15 rfl ?_
        refine cl_X8_100 X (c_X8_areNear l E τ (liftsR r p.toNat (byR r s) i.toNat) (N + 1) j4 hl.1 p i (by omega) (by omega)) fk12 ⟨Nat.le_of_ble_eq_true rfl, Nat.le_of_ble_eq_true rfl⟩ rfl (Nat.le_of_ble_eq_true rfl) dX8_lifts_16 rfl (fun v3 τ4 p5 => ?_)
        obtain ⟨rfl, ⟨b6, rfl⟩ | ⟨b6, rfl⟩⟩ := p5
        · skip
          skip
          refine g_if_eq X (tgt := 42) dX8_lifts_19 (by decide) ⟨by decide, by decide⟩ (fun q => absurd q (by decide)) (fun _ => ?_)
          refine g_aload_n X dX8_lifts_22 rfl ?_
          refine g_iload_n X dX8_lifts_23 rfl ?_
          refine g_aload_n X dX8_lifts_24 rfl ?_
          refine g_iload_n X dX8_lifts_25 rfl ?_
          refine g_iconst X dX8_lifts_26 ?_
          refine cl_X8_62 X (c0_X8_of l E τ p 3 (24 + 91 * p.toNat + 3) (by omega) (by omega) (by omega)) fk12 ⟨Nat.le_of_ble_eq_true rfl, Nat.le_of_ble_eq_true rfl⟩ rfl (Nat.le_of_ble_eq_true rfl) dX8_lifts_27 rfl (fun v7 τ8 p9 => ?_)
          obtain ⟨rfl, rfl⟩ := p9
          rw [show τ 13 (24 + 91 * p.toNat + 3) = (liftsR r p.toNat (byR r s) i.toNat) (24 + 91 * p.toNat + 3) from (j4.at (n := (24 + 91 * p.toNat + 3)) (by omega) (by omega))]
          refine g_aload_n X dX8_lifts_30 rfl ?_
          refine g_iload_n X dX8_lifts_31 rfl ?_
          refine g_iconst X dX8_lifts_32 ?_
          refine cl_X8_62 X (c0_X8_of l E τ i 3 (24 + 91 * i.toNat + 3) (by omega) (by omega) (by omega)) fk12 ⟨Nat.le_of_ble_eq_true rfl, Nat.le_of_ble_eq_true rfl⟩ rfl (Nat.le_of_ble_eq_true rfl) dX8_lifts_33 rfl (fun v10 τ11 p12 => ?_)
          obtain ⟨rfl, rfl⟩ := p12
          rw [show τ 13 (24 + 91 * i.toNat + 3) = (liftsR r p.toNat (byR r s) i.toNat) (24 + 91 * i.toNat + 3) from (j4.at (n := (24 + 91 * i.toNat + 3)) (by omega) (by omega))]
          refine cl_X8_124 X (c_X8_liftOf l E τ (liftsR r p.toNat (byR r s) i.toNat) (N + 1) j4 hl.1 s ((liftsR r p.toNat (byR r s) i.toNat) (24 + 91 * p.toNat + 3)) ((liftsR r p.toNat (byR r s) i.toNat) (24 + 91 * i.toNat + 3)) (by omega) ⟨by omega, by omega⟩ (by omega)) fk12 ⟨Nat.le_of_ble_eq_true rfl, Nat.le_of_ble_eq_true rfl⟩ rfl (Nat.le_of_ble_eq_true rfl) dX8_lifts_36 rfl (fun v13 τ14 p15 => ?_)
          obtain ⟨rfl, rfl⟩ := p15
          have lb36 : 0 ≤ liftR ((liftsR r p.toNat (byR r s) i.toNat) (24 + 91 * i.toNat + 3)) ((liftsR r p.toNat (byR r s) i.toNat) (24 + 91 * p.toNat + 3)) (byR (liftsR r p.toNat (byR r s) i.toNat) s) ∧ liftR ((liftsR r p.toNat (byR r s) i.toNat) (24 + 91 * i.toNat + 3)) ((liftsR r p.toNat (byR r s) i.toNat) (24 + 91 * p.toNat + 3)) (byR (liftsR r p.toNat (byR r s) i.toNat) s) ≤ byR (liftsR r p.toNat (byR r s) i.toNat) s ∧ liftR ((liftsR r p.toNat (byR r s) i.toNat) (24 + 91 * i.toNat + 3)) ((liftsR r p.toNat (byR r s) i.toNat) (24 + 91 * p.toNat + 3)) (byR (liftsR r p.toNat (byR r s) i.toNat) s) ≤ ((liftsR r p.toNat (byR r s) i.toNat) (24 + 91 * i.toNat + 3)) := by have q := (byR_bd hl.1 (s := s) (by omega) (by omega)).2; unfold liftR; split <;> omega
          refine g_goto X (tgt := 43) dX8_lifts_39 (by decide) ?_
          refine g_istore X (lw := [some (rv E (12)), some (iv (p)), some (iv (s)), some (iv (i)), some (iv (liftR ((liftsR r p.toNat (byR r s) i.toNat) (24 + 91 * i.toNat + 3)) ((liftsR r p.toNat (byR r s) i.toNat) (24 + 91 * p.toNat + 3)) (byR (liftsR r p.toNat (byR r s) i.toNat) s)))]) dX8_lifts_43 (by decide) rfl rfl ?_
          refine g_iload X dX8_lifts_45 rfl ?_
          refine g_if_le X (tgt := 102) dX8_lifts_47 (by decide) ⟨by omega, by omega⟩ (fun c16 => ?_) (fun c16 => ?_)
          · skip
            refine g_iinc X (lw := [some (rv E (12)), some (iv (p)), some (iv (s)), some (iv (i + 1)), some (iv (liftR ((liftsR r p.toNat (byR r s) i.toNat) (24 + 91 * i.toNat + 3)) ((liftsR r p.toNat (byR r s) i.toNat) (24 + 91 * p.toNat + 3)) (byR (liftsR r p.toNat (byR r s) i.toNat) s)))]) dX8_lifts_102 rfl (by decide) rfl rfl ?_
            refine g_goto X (tgt := 2) dX8_lifts_105 (by decide) ?_
            refine g_kill X 4 (lw := [some (rv E (12)), some (iv (p)), some (iv (s)), some (iv (i + 1)), none]) rfl ?_
            exact ih1 τ  (i + 1) (by omega) (by omega) (by rw [show (i + 1).toNat = i.toNat + 1 by omega, liftsR]; first | (rw [if_neg (by unfold liftZ; rw [if_neg (by assumption)]; decide)]; exact j4) | (rw [if_neg (by unfold liftZ; rw [if_pos (by assumption)]; rw [e18] at *; omega)]; exact j4)) (by exact j5) (by omega)
          · skip
            refine g_aload_n X dX8_lifts_50 rfl ?_
            refine g_iload_n X dX8_lifts_51 rfl ?_
            refine g_iconst X dX8_lifts_52 ?_
            refine g_aload_n X dX8_lifts_53 rfl ?_
            refine g_iload_n X dX8_lifts_54 rfl ?_
            refine g_iconst X dX8_lifts_55 ?_
            refine cl_X8_62 X (c0_X8_of l E τ i 3 (24 + 91 * i.toNat + 3) (by omega) (by omega) (by omega)) fk12 ⟨Nat.le_of_ble_eq_true rfl, Nat.le_of_ble_eq_true rfl⟩ rfl (Nat.le_of_ble_eq_true rfl) dX8_lifts_56 rfl (fun v17 τ18 p19 => ?_)
            obtain ⟨rfl, rfl⟩ := p19
            rw [show τ 13 (24 + 91 * i.toNat + 3) = (liftsR r p.toNat (byR r s) i.toNat) (24 + 91 * i.toNat + 3) from (j4.at (n := (24 + 91 * i.toNat + 3)) (by omega) (by omega))]
            refine g_iload X dX8_lifts_59 rfl ?_
            refine g_isub X dX8_lifts_61 ?_
            refine cl_X8_93 X (c_X8_put l E τ i 3 ((liftsR r p.toNat (byR r s) i.toNat) (24 + 91 * i.toNat + 3) - (liftR ((liftsR r p.toNat (byR r s) i.toNat) (24 + 91 * i.toNat + 3)) ((liftsR r p.toNat (byR r s) i.toNat) (24 + 91 * p.toNat + 3)) (byR (liftsR r p.toNat (byR r s) i.toNat) s))) (24 + 91 * i.toNat + 3) (by omega) (by omega) (by omega)) fk12 ⟨Nat.le_of_ble_eq_true rfl, Nat.le_of_ble_eq_true rfl⟩ rfl (Nat.le_of_ble_eq_true rfl) dX8_lifts_62 rfl (fun v20 τ21 p22 => ?_)
            obtain ⟨rfl, rfl⟩ := p22
            refine g_aload_n X dX8_lifts_65 rfl ?_
            refine g_iload_n X dX8_lifts_66 rfl ?_
            refine g_bipush X dX8_lifts_67 (by decide) ?_
            refine g_iconst X dX8_lifts_69 ?_
            refine cl_X8_93 X (c_X8_put l E (up τ 13 ((24 + 91 * i.toNat + 3)) ((liftsR r p.toNat (byR r s) i.toNat) (24 + 91 * i.toNat + 3) - (liftR ((liftsR r p.toNat (byR r s) i.toNat) (24 + 91 * i.toNat + 3)) ((liftsR r p.toNat (byR r s) i.toNat) (24 + 91 * p.toNat + 3)) (byR (liftsR r p.toNat (byR r s) i.toNat) s)))) i 6 1 (24 + 91 * i.toNat + 6) (by omega) (by omega) (by omega)) fk12 ⟨Nat.le_of_ble_eq_true rfl, Nat.le_of_ble_eq_true rfl⟩ rfl (Nat.le_of_ble_eq_true rfl) dX8_lifts_70 rfl (fun v23 τ24 p25 => ?_)
            obtain ⟨rfl, rfl⟩ := p25
            refine g_aload_n X dX8_lifts_73 rfl ?_
            refine g_iload_n X dX8_lifts_74 rfl ?_
            refine g_bipush X dX8_lifts_75 (by decide) ?_
            refine g_aload_n X dX8_lifts_77 rfl ?_
            refine g_iload_n X dX8_lifts_78 rfl ?_
            refine g_bipush X dX8_lifts_79 (by decide) ?_
            refine cl_X8_62 X (c0_X8_of l E (up (up τ 13 ((24 + 91 * i.toNat + 3)) ((liftsR r p.toNat (byR r s) i.toNat) (24 + 91 * i.toNat + 3) - (liftR ((liftsR r p.toNat (byR r s) i.toNat) (24 + 91 * i.toNat + 3)) ((liftsR r p.toNat (byR r s) i.toNat) (24 + 91 * p.toNat + 3)) (byR (liftsR r p.toNat (byR r s) i.toNat) s)))) 13 ((24 + 91 * i.toNat + 6)) (1)) i 8 (24 + 91 * i.toNat + 8) (by omega) (by omega) (by omega)) fk12 ⟨Nat.le_of_ble_eq_true rfl, Nat.le_of_ble_eq_true rfl⟩ rfl (Nat.le_of_ble_eq_true rfl) dX8_lifts_81 rfl (fun v26 τ27 p28 => ?_)
            obtain ⟨rfl, rfl⟩ := p28
            rw [show (up (up τ 13 ((24 + 91 * i.toNat + 3)) ((liftsR r p.toNat (byR r s) i.toNat) (24 + 91 * i.toNat + 3) - (liftR ((liftsR r p.toNat (byR r s) i.toNat) (24 + 91 * i.toNat + 3)) ((liftsR r p.toNat (byR r s) i.toNat) (24 + 91 * p.toNat + 3)) (byR (liftsR r p.toNat (byR r s) i.toNat) s)))) 13 ((24 + 91 * i.toNat + 6)) (1)) 13 (24 + 91 * i.toNat + 8) = (liftsR r p.toNat (byR r s) i.toNat) (24 + 91 * i.toNat + 8) from (up_ne2 (by omega) (up_ne2 (by omega) (j4.at (n := (24 + 91 * i.toNat + 8)) (by omega) (by omega))))]
            refine g_iload X dX8_lifts_84 rfl ?_
            refine g_iadd X dX8_lifts_86 ?_
            refine cl_X8_93 X (c_X8_put l E (up (up τ 13 ((24 + 91 * i.toNat + 3)) ((liftsR r p.toNat (byR r s) i.toNat) (24 + 91 * i.toNat + 3) - (liftR ((liftsR r p.toNat (byR r s) i.toNat) (24 + 91 * i.toNat + 3)) ((liftsR r p.toNat (byR r s) i.toNat) (24 + 91 * p.toNat + 3)) (byR (liftsR r p.toNat (byR r s) i.toNat) s)))) 13 ((24 + 91 * i.toNat + 6)) (1)) i 8 ((liftsR r p.toNat (byR r s) i.toNat) (24 + 91 * i.toNat + 8) + (liftR ((liftsR r p.toNat (byR r s) i.toNat) (24 + 91 * i.toNat + 3)) ((liftsR r p.toNat (byR r s) i.toNat) (24 + 91 * p.toNat + 3)) (byR (liftsR r p.toNat (byR r s) i.toNat) s))) (24 + 91 * i.toNat + 8) (by omega) (by omega) (by omega)) fk12 ⟨Nat.le_of_ble_eq_true rfl, Nat.le_of_ble_eq_true rfl⟩ rfl (Nat.le_of_ble_eq_true rfl) dX8_lifts_87 rfl (fun v29 τ30 p31 => ?_)
            obtain ⟨rfl, rfl⟩ := p31
            refine g_aload_n X dX8_lifts_90 rfl ?_
            refine gf_X8_7 X fk12 dX8_lifts_91 ?_
            refine g_bipush X dX8_lifts_94 (by decide) ?_
            refine g_dup2 X dX8_lifts_96 rfl rfl ?_
            refine g_iald X fk13 fl13 (by omega) (by omega) (by decide) (up_ne2 (by omega) (up_ne2 (by omega) (up_ne2 (by omega) (j4.at (n := 22) (by omega) (by omega))))) dX8_lifts_97 ?_
            refine g_iload X dX8_lifts_98 rfl ?_
            refine g_iadd X dX8_lifts_100 ?_
            refine g_iast X fk13 fl13 (by omega) (by omega) (by decide) dX8_lifts_101 ?_
            refine g_iinc X (lw := [some (rv E (12)), some (iv (p)), some (iv (s)), some (iv (i + 1)), some (iv (liftR ((liftsR r p.toNat (byR r s) i.toNat) (24 + 91 * i.toNat + 3)) ((liftsR r p.toNat (byR r s) i.toNat) (24 + 91 * p.toNat + 3)) (byR (liftsR r p.toNat (byR r s) i.toNat) s)))]) dX8_lifts_102 rfl (by decide) rfl rfl ?_
            refine g_goto X (tgt := 2) dX8_lifts_105 (by decide) ?_
            refine g_kill X 4 (lw := [some (rv E (12)), some (iv (p)), some (iv (s)), some (iv (i + 1)), none]) rfl ?_
            exact ih1 (up (up (up (up τ 13 ((24 + 91 * i.toNat + 3)) ((liftsR r p.toNat (byR r s) i.toNat) (24 + 91 * i.toNat + 3) - (liftR ((liftsR r p.toNat (byR r s) i.toNat) (24 + 91 * i.toNat + 3)) ((liftsR r p.toNat (byR r s) i.toNat) (24 + 91 * p.toNat + 3)) (byR (liftsR r p.toNat (byR r s) i.toNat) s)))) 13 ((24 + 91 * i.toNat + 6)) (1)) 13 ((24 + 91 * i.toNat + 8)) ((liftsR r p.toNat (byR r s) i.toNat) (24 + 91 * i.toNat + 8) + (liftR ((liftsR r p.toNat (byR r s) i.toNat) (24 + 91 * i.toNat + 3)) ((liftsR r p.toNat (byR r s) i.toNat) (24 + 91 * p.toNat + 3)) (byR (liftsR r p.toNat (byR r s) i.toNat) s)))) 13 22 ((liftsR r p.toNat (byR r s) i.toNat) 22 + (liftR ((liftsR r p.toNat (byR r s) i.toNat) (24 + 91 * i.toNat + 3)) ((liftsR r p.toNat (byR r s) i.toNat) (24 + 91 * p.toNat + 3)) (byR (liftsR r p.toNat (byR r s) i.toNat) s))))  (i + 1) (by omega) (by omega) (by rw [show (i + 1).toNat = i.toNat + 1 by omega, liftsR]; have ez : liftZ (liftsR r p.toNat (byR r s) i.toNat) p.toNat i.toNat (byR r s) = liftR (liftsR r p.toNat (byR r s) i.toNat (24 + 91 * i.toNat + 3)) (liftsR r p.toNat (byR r s) i.toNat (24 + 91 * p.toNat + 3)) (byR (liftsR r p.toNat (byR r s) i.toNat) s) := by { unfold liftZ; rw [if_pos (by assumption), e18] }; rw [if_pos (by rw [ez]; omega), ez]; exact ((((j4.put (n := 24 + 91 * i.toNat + 3) (by omega)).put (n := 24 + 91 * i.toNat + 6) (v := 1) (by omega)).put (n := 24 + 91 * i.toNat + 8) (by omega)).put (n := 22) (by omega)).congr (fun n _ => lift1_eq n)) (by exact (((j5.up (Or.inl rfl)).up (Or.inl rfl)).up (Or.inl rfl)).up (Or.inl rfl)) (by omega)
        · skip
          skip
          refine g_if_eq X (tgt := 42) dX8_lifts_19 (by decide) ⟨by decide, by decide⟩ (fun _ => ?_) (fun q => absurd q (by decide))
          refine g_iconst X dX8_lifts_42 ?_
          refine g_istore X (lw := [some (rv E (12)), some (iv (p)), some (iv (s)), some (iv (i)), some (iv (0))]) dX8_lifts_43 (by decide) rfl rfl ?_
          refine g_iload X dX8_lifts_45 rfl ?_
          refine g_if_le X (tgt := 102) dX8_lifts_47 (by decide) ⟨by decide, by decide⟩ (fun _ => ?_) (fun q => absurd q (by decide))
          refine g_iinc X (lw := [some (rv E (12)), some (iv (p)), some (iv (s)), some (iv (i + 1)), some (iv (0))]) dX8_lifts_102 rfl (by decide) rfl rfl ?_
          refine g_goto X (tgt := 2) dX8_lifts_105 (by decide) ?_
          refine g_kill X 4 (lw := [some (rv E (12)), some (iv (p)), some (iv (s)), some (iv (i + 1)), none]) rfl ?_
          exact ih1 τ  (i + 1) (by omega) (by omega) (by rw [show (i + 1).toNat = i.toNat + 1 by omega, liftsR]; first | (rw [if_neg (by unfold liftZ; rw [if_neg (by assumption)]; decide)]; exact j4) | (rw [if_neg (by unfold liftZ; rw [if_pos (by assumption)]; rw [e18] at *; omega)]; exact j4)) (by exact j5) (by omega)
  exact L1 _ σ  0 (by omega) (by omega) (by exact hM) (by exact frR.refl) (by exact Int.lt_toNat_succ _)
set_option maxHeartbeats 1000000 in
set_option maxRecDepth 100000 in
theorem c_X8_strikes (l : Launch) (E : wEnv) (σ : Mem) (r : Row) (N : Int) (hM : RR σ r) (hR : RInv r N) (hN : N < 400000) (p h : Int) (hp : 0 ≤ p ∧ p < r 19) (h0 : 0 ≤ h) (h1 : h ≤ 3000) : MetC l E yX8_strikes cX8_strikes 8 (some .int) 3 69 [rv E (12), iv (p), iv (h)] σ (fun v σ' => v = some (iv (blowS r p.toNat h)) ∧ RR σ' (hitR r p.toNat h) ∧ frR σ σ') := by
  refine MetC.of (own := RX8) (by decide) rfl (by simp [Value.category]) (Nat.le_of_ble_eq_true rfl) [some (rv E (12)), some (iv (p)), some (iv (h)), none, none, none, none, none] rfl (by simp) (fun K X R => ?_)
  have r19 := hR.2.2.2.2.1
  have r0 := hR.1
  have rN := hR.2.2.2.2.2.1
  have ⟨⟨q13, q13b⟩, ⟨q14, q14b⟩, ⟨q15, q15b⟩, ⟨q16, q16b⟩, ⟨q17, q17b⟩, ⟨q18, q18b⟩⟩ := hR.2.2.2.1
  have hip := (hR.2.2.2.2.2.2 p.toNat (by omega)).f
  have eb := (energyR_bd hR h0 h1).2.2
  have sbb := setR_bd r (energyR r h) (r (24 + 91 * p.toNat + 3)) (r (24 + 91 * p.toNat + 2)) (by omega)
  have db : ¬ setR r (energyR r h) (r (24 + 91 * p.toNat + 3)) (r (24 + 91 * p.toNat + 2)) + r 15 ≤ 0 → 0 ≤ energyR r h / (setR r (energyR r h) (r (24 + 91 * p.toNat + 3)) (r (24 + 91 * p.toNat + 2)) + r 15) ∧ energyR r h / (setR r (energyR r h) (r (24 + 91 * p.toNat + 3)) (r (24 + 91 * p.toNat + 2)) + r 15) ≤ 300000 := fun q => div_bd eb.1 eb.2 (by omega)
  refine g_aload_n X dX8_strikes_0 rfl ?_
  refine g_aload_n X dX8_strikes_1 rfl ?_
  refine g_iload_n X dX8_strikes_2 rfl ?_
  refine g_iconst X dX8_strikes_3 ?_
  refine cl_X8_62 X (c0_X8_of l E σ p 3 (24 + 91 * p.toNat + 3) (by omega) (by omega) (by omega)) fk12 ⟨Nat.le_of_ble_eq_true rfl, Nat.le_of_ble_eq_true rfl⟩ rfl (Nat.le_of_ble_eq_true rfl) dX8_strikes_4 rfl (fun v1 τ2 p3 => ?_)
  obtain ⟨rfl, rfl⟩ := p3
  rw [show σ 13 (24 + 91 * p.toNat + 3) = r (24 + 91 * p.toNat + 3) from (hM.at (n := (24 + 91 * p.toNat + 3)) (by omega) (by omega))]
  refine cl_X8_118 X (c_X8_hardness l E σ r N hM hR (r (24 + 91 * p.toNat + 3)) ⟨by omega, by omega⟩) fk12 ⟨Nat.le_of_ble_eq_true rfl, Nat.le_of_ble_eq_true rfl⟩ rfl (Nat.le_of_ble_eq_true rfl) dX8_strikes_7 rfl (fun v4 τ5 p6 => ?_)
  obtain ⟨rfl, rfl⟩ := p6
  have hb7 := hardR_bd hR (r (24 + 91 * p.toNat + 3))
  refine g_istore_n X (lw := [some (rv E (12)), some (iv (p)), some (iv (h)), some (iv (hardR r (r (24 + 91 * p.toNat + 3)))), none, none, none, none]) dX8_strikes_10 (by decide) rfl rfl ?_
  refine g_aload_n X dX8_strikes_11 rfl ?_
  refine g_iload_n X dX8_strikes_12 rfl ?_
  refine cl_X8_115 X (c_X8_energy l E σ r N hM hR h (by omega) (by omega)) fk12 ⟨Nat.le_of_ble_eq_true rfl, Nat.le_of_ble_eq_true rfl⟩ rfl (Nat.le_of_ble_eq_true rfl) dX8_strikes_13 rfl (fun v7 τ8 p9 => ?_)
  obtain ⟨rfl, rfl⟩ := p9
  have eb13 := (energyR_bd hR (h := h) (by omega) (by omega)).2.2
  refine g_istore X (lw := [some (rv E (12)), some (iv (p)), some (iv (h)), some (iv (hardR r (r (24 + 91 * p.toNat + 3)))), some (iv (energyR r h)), none, none, none]) dX8_strikes_16 (by decide) rfl rfl ?_
  refine g_aload_n X dX8_strikes_18 rfl ?_
  refine g_iload_n X dX8_strikes_19 rfl ?_
  refine g_aload_n X dX8_strikes_20 rfl ?_
  refine g_iload_n X dX8_strikes_21 rfl ?_
  refine g_iconst X dX8_strikes_22 ?_
  refine cl_X8_62 X (c0_X8_of l E σ p 3 (24 + 91 * p.toNat + 3) (by omega) (by omega) (by omega)) fk12 ⟨Nat.le_of_ble_eq_true rfl, Nat.le_of_ble_eq_true rfl⟩ rfl (Nat.le_of_ble_eq_true rfl) dX8_strikes_23 rfl (fun v10 τ11 p12 => ?_)
  obtain ⟨rfl, rfl⟩ := p12
  rw [show σ 13 (24 + 91 * p.toNat + 3) = r (24 + 91 * p.toNat + 3) from (hM.at (n := (24 + 91 * p.toNat + 3)) (by omega) (by omega))]
  refine g_iload_n X dX8_strikes_26 rfl ?_
  refine cl_X8_128 X (c_X8_setAt l E σ r N hM hR p (r (24 + 91 * p.toNat + 3)) h (by omega) (by omega) (by omega) (by omega) (by omega)) fk12 ⟨Nat.le_of_ble_eq_true rfl, Nat.le_of_ble_eq_true rfl⟩ rfl (Nat.le_of_ble_eq_true rfl) dX8_strikes_27 rfl (fun v13 τ14 p15 => ?_)
  obtain ⟨rfl, rfl⟩ := p15
  have sb27 := setR_bd r (energyR r h) (r (24 + 91 * p.toNat + 3)) (r (24 + 91 * p.toNat + 2)) (by omega)
  refine g_istore X (lw := [some (rv E (12)), some (iv (p)), some (iv (h)), some (iv (hardR r (r (24 + 91 * p.toNat + 3)))), some (iv (energyR r h)), some (iv (setR r (energyR r h) (r (24 + 91 * p.toNat + 3)) (r (24 + 91 * p.toNat + 2)))), none, none]) dX8_strikes_30 (by decide) rfl rfl ?_
  refine g_iload X dX8_strikes_32 rfl ?_
  refine g_aload_n X dX8_strikes_34 rfl ?_
  refine gf_X8_7 X fk12 dX8_strikes_35 ?_
  refine g_bipush X dX8_strikes_38 (by decide) ?_
  refine g_iald X fk13 fl13 (by omega) (by omega) (by decide) (hM.at (n := 15) (by omega) (by omega)) dX8_strikes_40 ?_
  refine g_iadd X dX8_strikes_41 ?_
  refine g_istore X (lw := [some (rv E (12)), some (iv (p)), some (iv (h)), some (iv (hardR r (r (24 + 91 * p.toNat + 3)))), some (iv (energyR r h)), some (iv (setR r (energyR r h) (r (24 + 91 * p.toNat + 3)) (r (24 + 91 * p.toNat + 2)))), some (iv (setR r (energyR r h) (r (24 + 91 * p.toNat + 3)) (r (24 + 91 * p.toNat + 2)) + r 15)), none]) dX8_strikes_42 (by decide) rfl rfl ?_
  refine g_iload X dX8_strikes_44 rfl ?_
  refine g_if_ne X (tgt := 54) dX8_strikes_46 (by decide) ⟨by omega, by omega⟩ (fun c16 => ?_) (fun c16 => ?_)
  · skip
    refine g_iload X dX8_strikes_54 rfl ?_
    refine g_iload X dX8_strikes_56 rfl ?_
    refine g_idiv X dX8_strikes_58 (by omega) (by omega) (by omega) (by omega) ?_
    refine g_ldc X (n := 100000) dX8_strikes_59 wK_X8_131 (by decide) ?_
    refine cl_X8_121 X (c_X8_lesser l E σ ((energyR r h) / (setR r (energyR r h) (r (24 + 91 * p.toNat + 3)) (r (24 + 91 * p.toNat + 2)) + r 15)) 100000 ⟨by omega, by omega⟩ ⟨by decide, by decide⟩) ⟨Nat.le_of_ble_eq_true rfl, Nat.le_of_ble_eq_true rfl⟩ rfl (Nat.le_of_ble_eq_true rfl) dX8_strikes_61 rfl (fun v17 τ18 p19 => ?_)
    obtain ⟨rfl, rfl⟩ := p19
    have hld : min ((energyR r h) / (setR r (energyR r h) (r (24 + 91 * p.toNat + 3)) (r (24 + 91 * p.toNat + 2)) + r 15)) 100000 = loadR r (energyR r h) (blowS r p.toNat h) := by unfold loadR blowS; first | (rw [if_pos (by omega)]; done) | (rw [if_neg (by omega), Int.min_comm]; done)
    refine g_istore X (lw := [some (rv E (12)), some (iv (p)), some (iv (h)), some (iv (hardR r (r (24 + 91 * p.toNat + 3)))), some (iv (energyR r h)), some (iv (setR r (energyR r h) (r (24 + 91 * p.toNat + 3)) (r (24 + 91 * p.toNat + 2)))), some (iv (setR r (energyR r h) (r (24 + 91 * p.toNat + 3)) (r (24 + 91 * p.toNat + 2)) + r 15)), some (iv (min ((energyR r h) / (setR r (energyR r h) (r (24 + 91 * p.toNat + 3)) (r (24 + 91 * p.toNat + 2)) + r 15)) 100000))]) dX8_strikes_64 (by decide) rfl rfl ?_
    refine g_aload_n X dX8_strikes_66 rfl ?_
    refine g_iload_n X dX8_strikes_67 rfl ?_
    refine g_iconst X dX8_strikes_68 ?_
    refine g_aload_n X dX8_strikes_69 rfl ?_
    refine g_iload_n X dX8_strikes_70 rfl ?_
    refine g_iconst X dX8_strikes_71 ?_
    refine cl_X8_62 X (c0_X8_of l E σ p 3 (24 + 91 * p.toNat + 3) (by omega) (by omega) (by omega)) fk12 ⟨Nat.le_of_ble_eq_true rfl, Nat.le_of_ble_eq_true rfl⟩ rfl (Nat.le_of_ble_eq_true rfl) dX8_strikes_72 rfl (fun v20 τ21 p22 => ?_)
    obtain ⟨rfl, rfl⟩ := p22
    rw [show σ 13 (24 + 91 * p.toNat + 3) = r (24 + 91 * p.toNat + 3) from (hM.at (n := (24 + 91 * p.toNat + 3)) (by omega) (by omega))]
    refine g_iload X dX8_strikes_75 rfl ?_
    refine g_iadd X dX8_strikes_77 ?_
    refine cl_X8_93 X (c_X8_put l E σ p 3 (r (24 + 91 * p.toNat + 3) + (setR r (energyR r h) (r (24 + 91 * p.toNat + 3)) (r (24 + 91 * p.toNat + 2)))) (24 + 91 * p.toNat + 3) (by omega) (by omega) (by omega)) fk12 ⟨Nat.le_of_ble_eq_true rfl, Nat.le_of_ble_eq_true rfl⟩ rfl (Nat.le_of_ble_eq_true rfl) dX8_strikes_78 rfl (fun v23 τ24 p25 => ?_)
    obtain ⟨rfl, rfl⟩ := p25
    refine g_aload_n X dX8_strikes_81 rfl ?_
    refine g_iload_n X dX8_strikes_82 rfl ?_
    refine g_iconst X dX8_strikes_83 ?_
    refine g_aload_n X dX8_strikes_84 rfl ?_
    refine g_iload_n X dX8_strikes_85 rfl ?_
    refine g_iconst X dX8_strikes_86 ?_
    refine cl_X8_62 X (c0_X8_of l E (up σ 13 ((24 + 91 * p.toNat + 3)) (r (24 + 91 * p.toNat + 3) + (setR r (energyR r h) (r (24 + 91 * p.toNat + 3)) (r (24 + 91 * p.toNat + 2))))) p 4 (24 + 91 * p.toNat + 4) (by omega) (by omega) (by omega)) fk12 ⟨Nat.le_of_ble_eq_true rfl, Nat.le_of_ble_eq_true rfl⟩ rfl (Nat.le_of_ble_eq_true rfl) dX8_strikes_87 rfl (fun v26 τ27 p28 => ?_)
    obtain ⟨rfl, rfl⟩ := p28
    rw [show (up σ 13 ((24 + 91 * p.toNat + 3)) (r (24 + 91 * p.toNat + 3) + (setR r (energyR r h) (r (24 + 91 * p.toNat + 3)) (r (24 + 91 * p.toNat + 2))))) 13 (24 + 91 * p.toNat + 4) = r (24 + 91 * p.toNat + 4) from (up_ne2 (by omega) (hM.at (n := (24 + 91 * p.toNat + 4)) (by omega) (by omega)))]
    refine g_iconst X dX8_strikes_90 ?_
    refine g_iadd X dX8_strikes_91 ?_
    refine cl_X8_93 X (c_X8_put l E (up σ 13 ((24 + 91 * p.toNat + 3)) (r (24 + 91 * p.toNat + 3) + (setR r (energyR r h) (r (24 + 91 * p.toNat + 3)) (r (24 + 91 * p.toNat + 2))))) p 4 (r (24 + 91 * p.toNat + 4) + 1) (24 + 91 * p.toNat + 4) (by omega) (by omega) (by omega)) fk12 ⟨Nat.le_of_ble_eq_true rfl, Nat.le_of_ble_eq_true rfl⟩ rfl (Nat.le_of_ble_eq_true rfl) dX8_strikes_92 rfl (fun v29 τ30 p31 => ?_)
    obtain ⟨rfl, rfl⟩ := p31
    refine g_aload_n X dX8_strikes_95 rfl ?_
    refine g_iload_n X dX8_strikes_96 rfl ?_
    refine g_iconst X dX8_strikes_97 ?_
    refine g_iload X dX8_strikes_98 rfl ?_
    refine cl_X8_93 X (c_X8_put l E (up (up σ 13 ((24 + 91 * p.toNat + 3)) (r (24 + 91 * p.toNat + 3) + (setR r (energyR r h) (r (24 + 91 * p.toNat + 3)) (r (24 + 91 * p.toNat + 2))))) 13 ((24 + 91 * p.toNat + 4)) (r (24 + 91 * p.toNat + 4) + 1)) p 5 (min ((energyR r h) / (setR r (energyR r h) (r (24 + 91 * p.toNat + 3)) (r (24 + 91 * p.toNat + 2)) + r 15)) 100000) (24 + 91 * p.toNat + 5) (by omega) (by omega) (by omega)) fk12 ⟨Nat.le_of_ble_eq_true rfl, Nat.le_of_ble_eq_true rfl⟩ rfl (Nat.le_of_ble_eq_true rfl) dX8_strikes_100 rfl (fun v32 τ33 p34 => ?_)
    obtain ⟨rfl, rfl⟩ := p34
    refine g_aload_n X dX8_strikes_103 rfl ?_
    refine g_iload_n X dX8_strikes_104 rfl ?_
    refine g_bipush X dX8_strikes_105 (by decide) ?_
    refine g_iconst X dX8_strikes_107 ?_
    refine cl_X8_93 X (c_X8_put l E (up (up (up σ 13 ((24 + 91 * p.toNat + 3)) (r (24 + 91 * p.toNat + 3) + (setR r (energyR r h) (r (24 + 91 * p.toNat + 3)) (r (24 + 91 * p.toNat + 2))))) 13 ((24 + 91 * p.toNat + 4)) (r (24 + 91 * p.toNat + 4) + 1)) 13 ((24 + 91 * p.toNat + 5)) (min ((energyR r h) / (setR r (energyR r h) (r (24 + 91 * p.toNat + 3)) (r (24 + 91 * p.toNat + 2)) + r 15)) 100000)) p 6 0 (24 + 91 * p.toNat + 6) (by omega) (by omega) (by omega)) fk12 ⟨Nat.le_of_ble_eq_true rfl, Nat.le_of_ble_eq_true rfl⟩ rfl (Nat.le_of_ble_eq_true rfl) dX8_strikes_108 rfl (fun v35 τ36 p37 => ?_)
    obtain ⟨rfl, rfl⟩ := p37
    refine g_aload_n X dX8_strikes_111 rfl ?_
    refine g_iload_n X dX8_strikes_112 rfl ?_
    refine g_bipush X dX8_strikes_113 (by decide) ?_
    refine g_aload_n X dX8_strikes_115 rfl ?_
    refine g_iload_n X dX8_strikes_116 rfl ?_
    refine g_bipush X dX8_strikes_117 (by decide) ?_
    refine cl_X8_62 X (c0_X8_of l E (up (up (up (up σ 13 ((24 + 91 * p.toNat + 3)) (r (24 + 91 * p.toNat + 3) + (setR r (energyR r h) (r (24 + 91 * p.toNat + 3)) (r (24 + 91 * p.toNat + 2))))) 13 ((24 + 91 * p.toNat + 4)) (r (24 + 91 * p.toNat + 4) + 1)) 13 ((24 + 91 * p.toNat + 5)) (min ((energyR r h) / (setR r (energyR r h) (r (24 + 91 * p.toNat + 3)) (r (24 + 91 * p.toNat + 2)) + r 15)) 100000)) 13 ((24 + 91 * p.toNat + 6)) (0)) p 7 (24 + 91 * p.toNat + 7) (by omega) (by omega) (by omega)) fk12 ⟨Nat.le_of_ble_eq_true rfl, Nat.le_of_ble_eq_true rfl⟩ rfl (Nat.le_of_ble_eq_true rfl) dX8_strikes_119 rfl (fun v38 τ39 p40 => ?_)
    obtain ⟨rfl, rfl⟩ := p40
    rw [show (up (up (up (up σ 13 ((24 + 91 * p.toNat + 3)) (r (24 + 91 * p.toNat + 3) + (setR r (energyR r h) (r (24 + 91 * p.toNat + 3)) (r (24 + 91 * p.toNat + 2))))) 13 ((24 + 91 * p.toNat + 4)) (r (24 + 91 * p.toNat + 4) + 1)) 13 ((24 + 91 * p.toNat + 5)) (min ((energyR r h) / (setR r (energyR r h) (r (24 + 91 * p.toNat + 3)) (r (24 + 91 * p.toNat + 2)) + r 15)) 100000)) 13 ((24 + 91 * p.toNat + 6)) (0)) 13 (24 + 91 * p.toNat + 7) = r (24 + 91 * p.toNat + 7) from (up_ne2 (by omega) (up_ne2 (by omega) (up_ne2 (by omega) (up_ne2 (by omega) (hM.at (n := (24 + 91 * p.toNat + 7)) (by omega) (by omega))))))]
    refine g_iload X dX8_strikes_122 rfl ?_
    refine g_iadd X dX8_strikes_124 ?_
    refine cl_X8_93 X (c_X8_put l E (up (up (up (up σ 13 ((24 + 91 * p.toNat + 3)) (r (24 + 91 * p.toNat + 3) + (setR r (energyR r h) (r (24 + 91 * p.toNat + 3)) (r (24 + 91 * p.toNat + 2))))) 13 ((24 + 91 * p.toNat + 4)) (r (24 + 91 * p.toNat + 4) + 1)) 13 ((24 + 91 * p.toNat + 5)) (min ((energyR r h) / (setR r (energyR r h) (r (24 + 91 * p.toNat + 3)) (r (24 + 91 * p.toNat + 2)) + r 15)) 100000)) 13 ((24 + 91 * p.toNat + 6)) (0)) p 7 (r (24 + 91 * p.toNat + 7) + (setR r (energyR r h) (r (24 + 91 * p.toNat + 3)) (r (24 + 91 * p.toNat + 2)))) (24 + 91 * p.toNat + 7) (by omega) (by omega) (by omega)) fk12 ⟨Nat.le_of_ble_eq_true rfl, Nat.le_of_ble_eq_true rfl⟩ rfl (Nat.le_of_ble_eq_true rfl) dX8_strikes_125 rfl (fun v41 τ42 p43 => ?_)
    obtain ⟨rfl, rfl⟩ := p43
    refine g_aload_n X dX8_strikes_128 rfl ?_
    refine g_iload_n X dX8_strikes_129 rfl ?_
    refine g_iload X dX8_strikes_130 rfl ?_
    refine g_iload X dX8_strikes_132 rfl ?_
    refine cl_X8_132 X (c_X8_keeps l E (up (up (up (up (up σ 13 ((24 + 91 * p.toNat + 3)) (r (24 + 91 * p.toNat + 3) + (setR r (energyR r h) (r (24 + 91 * p.toNat + 3)) (r (24 + 91 * p.toNat + 2))))) 13 ((24 + 91 * p.toNat + 4)) (r (24 + 91 * p.toNat + 4) + 1)) 13 ((24 + 91 * p.toNat + 5)) (min ((energyR r h) / (setR r (energyR r h) (r (24 + 91 * p.toNat + 3)) (r (24 + 91 * p.toNat + 2)) + r 15)) 100000)) 13 ((24 + 91 * p.toNat + 6)) (0)) 13 ((24 + 91 * p.toNat + 7)) (r (24 + 91 * p.toNat + 7) + (setR r (energyR r h) (r (24 + 91 * p.toNat + 3)) (r (24 + 91 * p.toNat + 2))))) (blow5R r p.toNat (setR r (energyR r h) (r (24 + 91 * p.toNat + 3)) (r (24 + 91 * p.toNat + 2))) (min ((energyR r h) / (setR r (energyR r h) (r (24 + 91 * p.toNat + 3)) (r (24 + 91 * p.toNat + 2)) + r 15)) 100000)) ((((((hM.put (n := (24 + 91 * p.toNat + 3)) (v := r (24 + 91 * p.toNat + 3) + (setR r (energyR r h) (r (24 + 91 * p.toNat + 3)) (r (24 + 91 * p.toNat + 2)))) (by omega)).put (n := (24 + 91 * p.toNat + 4)) (v := r (24 + 91 * p.toNat + 4) + 1) (by omega)).put (n := (24 + 91 * p.toNat + 5)) (v := min ((energyR r h) / (setR r (energyR r h) (r (24 + 91 * p.toNat + 3)) (r (24 + 91 * p.toNat + 2)) + r 15)) 100000) (by omega)).put (n := (24 + 91 * p.toNat + 6)) (v := 0) (by omega)).put (n := (24 + 91 * p.toNat + 7)) (v := r (24 + 91 * p.toNat + 7) + (setR r (energyR r h) (r (24 + 91 * p.toNat + 3)) (r (24 + 91 * p.toNat + 2)))) (by omega))) p (setR r (energyR r h) (r (24 + 91 * p.toNat + 3)) (r (24 + 91 * p.toNat + 2))) (min ((energyR r h) / (setR r (energyR r h) (r (24 + 91 * p.toNat + 3)) (r (24 + 91 * p.toNat + 2)) + r 15)) 100000) (by omega) (by rw [blow5_ne (by omega)]; omega)) fk12 ⟨Nat.le_of_ble_eq_true rfl, Nat.le_of_ble_eq_true rfl⟩ rfl (Nat.le_of_ble_eq_true rfl) dX8_strikes_134 rfl (fun v44 τ45 p46 => ?_)
    obtain ⟨rfl, hM6, hF6⟩ := p46
    obtain ⟨ρ, hρ⟩ : ∃ z, z = keptR (blow5R r p.toNat (setR r (energyR r h) (r (24 + 91 * p.toNat + 3)) (r (24 + 91 * p.toNat + 2))) (min ((energyR r h) / (setR r (energyR r h) (r (24 + 91 * p.toNat + 3)) (r (24 + 91 * p.toNat + 2)) + r 15)) 100000)) p.toNat (setR r (energyR r h) (r (24 + 91 * p.toNat + 3)) (r (24 + 91 * p.toNat + 2))) (min ((energyR r h) / (setR r (energyR r h) (r (24 + 91 * p.toNat + 3)) (r (24 + 91 * p.toNat + 2)) + r 15)) 100000) := ⟨_, rfl⟩
    rw [← hρ] at hM6
    refine g_aload_n X dX8_strikes_137 rfl ?_
    refine gf_X8_7 X fk12 dX8_strikes_138 ?_
    refine g_bipush X dX8_strikes_141 (by decide) ?_
    refine g_dup2 X dX8_strikes_143 rfl rfl ?_
    refine g_iald X fk13 fl13 (by omega) (by omega) (by decide) (hM6.at (n := 20) (by omega) (by omega)) dX8_strikes_144 ?_
    refine g_iconst X dX8_strikes_145 ?_
    refine g_iadd X dX8_strikes_146 ?_
    refine g_iast X fk13 fl13 (by omega) (by omega) (by decide) dX8_strikes_147 ?_
    refine g_aload_n X dX8_strikes_148 rfl ?_
    refine gf_X8_7 X fk12 dX8_strikes_149 ?_
    refine g_bipush X dX8_strikes_152 (by decide) ?_
    refine g_dup2 X dX8_strikes_154 rfl rfl ?_
    refine g_iald X fk13 fl13 (by omega) (by omega) (by decide) (up_ne2 (by omega) (hM6.at (n := 21) (by omega) (by omega))) dX8_strikes_155 ?_
    refine g_iload X dX8_strikes_156 rfl ?_
    refine g_iadd X dX8_strikes_158 ?_
    refine g_iast X fk13 fl13 (by omega) (by omega) (by decide) dX8_strikes_159 ?_
    refine g_aload_n X dX8_strikes_160 rfl ?_
    refine gf_X8_16 X fk12 dX8_strikes_161 ?_
    refine g_iconst X dX8_strikes_164 ?_
    refine g_dup2 X dX8_strikes_165 rfl rfl ?_
    refine g_lald X fk15 fl15 (by omega) (by omega) (by decide) (up_ne1 (by omega) (up_ne1 (by omega) hM6.2.1)) dX8_strikes_166 ?_
    refine g_iload X dX8_strikes_167 rfl ?_
    refine g_i2l X dX8_strikes_169 ⟨by omega, by omega⟩ ?_
    refine g_ladd X dX8_strikes_170 ?_
    refine g_last X fk15 fl15 (by omega) (by omega) (by decide) dX8_strikes_171 ?_
    refine g_aload_n X dX8_strikes_172 rfl ?_
    refine gf_X8_16 X fk12 dX8_strikes_173 ?_
    refine g_iconst X dX8_strikes_176 ?_
    refine g_dup2 X dX8_strikes_177 rfl rfl ?_
    refine g_lald X fk15 fl15 (by omega) (by omega) (by decide) (up_ne2 (by decide) (up_ne1 (by omega) (up_ne1 (by omega) hM6.2.2))) dX8_strikes_178 ?_
    refine g_iload X dX8_strikes_179 rfl ?_
    refine g_i2l X dX8_strikes_181 ⟨by omega, by omega⟩ ?_
    refine g_iload_n X dX8_strikes_182 rfl ?_
    refine g_i2l X dX8_strikes_183 ⟨by omega, by omega⟩ ?_
    refine g_lmul X dX8_strikes_184 ?_
    refine g_ladd X dX8_strikes_185 ?_
    refine g_last X fk15 fl15 (by omega) (by omega) (by decide) dX8_strikes_186 ?_
    refine g_aload_n X dX8_strikes_187 rfl ?_
    refine g_iload_n X dX8_strikes_188 rfl ?_
    refine g_iload X dX8_strikes_189 rfl ?_
    have hM7 := ((((hM6.put (n := 20) (v := ρ 20 + 1) (by omega)).put (n := 21) (v := ρ 21 + (blowS r p.toNat h)) (by omega)).sum0 (v := ρ 934 + energyR r h)).sum1 (v := ρ 935 + (blowS r p.toNat h) * hardR r (r (24 + 91 * p.toNat + 3)))).congr (r' := hit1R r p.toNat h) (fun n _ => by rw [← struck_eq (r := r) (P := p.toNat) (by omega) (l := (loadR r (energyR r h) (blowS r p.toNat h))) (e := energyR r h) (hd := hardR r (r (24 + 91 * p.toNat + 3))) (by rw [hρ, hld]; rfl) n]; rfl)
    have h15 := hit1_inv hR hN (i := p.toNat) (by omega) h0 h1
    have h159 := h15.2.2.1
    refine cl_X8_135 X (c_X8_lifts l E (up (up (up (up τ45 13 20 (ρ 20 + 1)) 13 21 (ρ 21 + (setR r (energyR r h) (r (24 + 91 * p.toNat + 3)) (r (24 + 91 * p.toNat + 2))))) 15 0 ((ρ 934) + (energyR r h))) 15 1 ((ρ 935) + ((setR r (energyR r h) (r (24 + 91 * p.toNat + 3)) (r (24 + 91 * p.toNat + 2))) * (hardR r (r (24 + 91 * p.toNat + 3)))))) (hit1R r p.toNat h) N hM7 h15.1 h15.2.1 p (setR r (energyR r h) (r (24 + 91 * p.toNat + 3)) (r (24 + 91 * p.toNat + 2))) (by omega) (by omega)) fk12 ⟨Nat.le_of_ble_eq_true rfl, Nat.le_of_ble_eq_true rfl⟩ rfl (Nat.le_of_ble_eq_true rfl) dX8_strikes_191 rfl (fun v47 τ48 p49 => ?_)
    obtain ⟨rfl, hM191, hF191⟩ := p49
    refine g_iload X dX8_strikes_194 rfl ?_
    exact R _ _ _ _ dX8_strikes_196 ⟨rfl, by rw [h159] at hM191; exact hM191, (((((((((frR.refl.up (Or.inl rfl)).up (Or.inl rfl)).up (Or.inl rfl)).up (Or.inl rfl)).up (Or.inl rfl)).trans hF6).up (Or.inl rfl)).up (Or.inl rfl)).up (Or.inr rfl)).up (Or.inr rfl) |>.trans hF191⟩
  · skip
    refine g_ldc X (n := 100000) dX8_strikes_49 wK_X8_131 (by decide) ?_
    refine g_goto X (tgt := 64) dX8_strikes_51 (by decide) ?_
    have hld : 100000 = loadR r (energyR r h) (blowS r p.toNat h) := by unfold loadR blowS; first | (rw [if_pos (by omega)]; done) | (rw [if_neg (by omega), Int.min_comm]; done)
    refine g_istore X (lw := [some (rv E (12)), some (iv (p)), some (iv (h)), some (iv (hardR r (r (24 + 91 * p.toNat + 3)))), some (iv (energyR r h)), some (iv (setR r (energyR r h) (r (24 + 91 * p.toNat + 3)) (r (24 + 91 * p.toNat + 2)))), some (iv (setR r (energyR r h) (r (24 + 91 * p.toNat + 3)) (r (24 + 91 * p.toNat + 2)) + r 15)), some (iv (100000))]) dX8_strikes_64 (by decide) rfl rfl ?_
    refine g_aload_n X dX8_strikes_66 rfl ?_
    refine g_iload_n X dX8_strikes_67 rfl ?_
    refine g_iconst X dX8_strikes_68 ?_
    refine g_aload_n X dX8_strikes_69 rfl ?_
    refine g_iload_n X dX8_strikes_70 rfl ?_
    refine g_iconst X dX8_strikes_71 ?_
    refine cl_X8_62 X (c0_X8_of l E σ p 3 (24 + 91 * p.toNat + 3) (by omega) (by omega) (by omega)) fk12 ⟨Nat.le_of_ble_eq_true rfl, Nat.le_of_ble_eq_true rfl⟩ rfl (Nat.le_of_ble_eq_true rfl) dX8_strikes_72 rfl (fun v50 τ51 p52 => ?_)
    obtain ⟨rfl, rfl⟩ := p52
    rw [show σ 13 (24 + 91 * p.toNat + 3) = r (24 + 91 * p.toNat + 3) from (hM.at (n := (24 + 91 * p.toNat + 3)) (by omega) (by omega))]
    refine g_iload X dX8_strikes_75 rfl ?_
    refine g_iadd X dX8_strikes_77 ?_
    refine cl_X8_93 X (c_X8_put l E σ p 3 (r (24 + 91 * p.toNat + 3) + (setR r (energyR r h) (r (24 + 91 * p.toNat + 3)) (r (24 + 91 * p.toNat + 2)))) (24 + 91 * p.toNat + 3) (by omega) (by omega) (by omega)) fk12 ⟨Nat.le_of_ble_eq_true rfl, Nat.le_of_ble_eq_true rfl⟩ rfl (Nat.le_of_ble_eq_true rfl) dX8_strikes_78 rfl (fun v53 τ54 p55 => ?_)
    obtain ⟨rfl, rfl⟩ := p55
    refine g_aload_n X dX8_strikes_81 rfl ?_
    refine g_iload_n X dX8_strikes_82 rfl ?_
    refine g_iconst X dX8_strikes_83 ?_
    refine g_aload_n X dX8_strikes_84 rfl ?_
    refine g_iload_n X dX8_strikes_85 rfl ?_
    refine g_iconst X dX8_strikes_86 ?_
    refine cl_X8_62 X (c0_X8_of l E (up σ 13 ((24 + 91 * p.toNat + 3)) (r (24 + 91 * p.toNat + 3) + (setR r (energyR r h) (r (24 + 91 * p.toNat + 3)) (r (24 + 91 * p.toNat + 2))))) p 4 (24 + 91 * p.toNat + 4) (by omega) (by omega) (by omega)) fk12 ⟨Nat.le_of_ble_eq_true rfl, Nat.le_of_ble_eq_true rfl⟩ rfl (Nat.le_of_ble_eq_true rfl) dX8_strikes_87 rfl (fun v56 τ57 p58 => ?_)
    obtain ⟨rfl, rfl⟩ := p58
    rw [show (up σ 13 ((24 + 91 * p.toNat + 3)) (r (24 + 91 * p.toNat + 3) + (setR r (energyR r h) (r (24 + 91 * p.toNat + 3)) (r (24 + 91 * p.toNat + 2))))) 13 (24 + 91 * p.toNat + 4) = r (24 + 91 * p.toNat + 4) from (up_ne2 (by omega) (hM.at (n := (24 + 91 * p.toNat + 4)) (by omega) (by omega)))]
    refine g_iconst X dX8_strikes_90 ?_
    refine g_iadd X dX8_strikes_91 ?_
    refine cl_X8_93 X (c_X8_put l E (up σ 13 ((24 + 91 * p.toNat + 3)) (r (24 + 91 * p.toNat + 3) + (setR r (energyR r h) (r (24 + 91 * p.toNat + 3)) (r (24 + 91 * p.toNat + 2))))) p 4 (r (24 + 91 * p.toNat + 4) + 1) (24 + 91 * p.toNat + 4) (by omega) (by omega) (by omega)) fk12 ⟨Nat.le_of_ble_eq_true rfl, Nat.le_of_ble_eq_true rfl⟩ rfl (Nat.le_of_ble_eq_true rfl) dX8_strikes_92 rfl (fun v59 τ60 p61 => ?_)
    obtain ⟨rfl, rfl⟩ := p61
    refine g_aload_n X dX8_strikes_95 rfl ?_
    refine g_iload_n X dX8_strikes_96 rfl ?_
    refine g_iconst X dX8_strikes_97 ?_
    refine g_iload X dX8_strikes_98 rfl ?_
    refine cl_X8_93 X (c_X8_put l E (up (up σ 13 ((24 + 91 * p.toNat + 3)) (r (24 + 91 * p.toNat + 3) + (setR r (energyR r h) (r (24 + 91 * p.toNat + 3)) (r (24 + 91 * p.toNat + 2))))) 13 ((24 + 91 * p.toNat + 4)) (r (24 + 91 * p.toNat + 4) + 1)) p 5 100000 (24 + 91 * p.toNat + 5) (by omega) (by omega) (by omega)) fk12 ⟨Nat.le_of_ble_eq_true rfl, Nat.le_of_ble_eq_true rfl⟩ rfl (Nat.le_of_ble_eq_true rfl) dX8_strikes_100 rfl (fun v62 τ63 p64 => ?_)
    obtain ⟨rfl, rfl⟩ := p64
    refine g_aload_n X dX8_strikes_103 rfl ?_
    refine g_iload_n X dX8_strikes_104 rfl ?_
    refine g_bipush X dX8_strikes_105 (by decide) ?_
    refine g_iconst X dX8_strikes_107 ?_
    refine cl_X8_93 X (c_X8_put l E (up (up (up σ 13 ((24 + 91 * p.toNat + 3)) (r (24 + 91 * p.toNat + 3) + (setR r (energyR r h) (r (24 + 91 * p.toNat + 3)) (r (24 + 91 * p.toNat + 2))))) 13 ((24 + 91 * p.toNat + 4)) (r (24 + 91 * p.toNat + 4) + 1)) 13 ((24 + 91 * p.toNat + 5)) (100000)) p 6 0 (24 + 91 * p.toNat + 6) (by omega) (by omega) (by omega)) fk12 ⟨Nat.le_of_ble_eq_true rfl, Nat.le_of_ble_eq_true rfl⟩ rfl (Nat.le_of_ble_eq_true rfl) dX8_strikes_108 rfl (fun v65 τ66 p67 => ?_)
    obtain ⟨rfl, rfl⟩ := p67
    refine g_aload_n X dX8_strikes_111 rfl ?_
    refine g_iload_n X dX8_strikes_112 rfl ?_
    refine g_bipush X dX8_strikes_113 (by decide) ?_
    refine g_aload_n X dX8_strikes_115 rfl ?_
    refine g_iload_n X dX8_strikes_116 rfl ?_
    refine g_bipush X dX8_strikes_117 (by decide) ?_
    refine cl_X8_62 X (c0_X8_of l E (up (up (up (up σ 13 ((24 + 91 * p.toNat + 3)) (r (24 + 91 * p.toNat + 3) + (setR r (energyR r h) (r (24 + 91 * p.toNat + 3)) (r (24 + 91 * p.toNat + 2))))) 13 ((24 + 91 * p.toNat + 4)) (r (24 + 91 * p.toNat + 4) + 1)) 13 ((24 + 91 * p.toNat + 5)) (100000)) 13 ((24 + 91 * p.toNat + 6)) (0)) p 7 (24 + 91 * p.toNat + 7) (by omega) (by omega) (by omega)) fk12 ⟨Nat.le_of_ble_eq_true rfl, Nat.le_of_ble_eq_true rfl⟩ rfl (Nat.le_of_ble_eq_true rfl) dX8_strikes_119 rfl (fun v68 τ69 p70 => ?_)
    obtain ⟨rfl, rfl⟩ := p70
    rw [show (up (up (up (up σ 13 ((24 + 91 * p.toNat + 3)) (r (24 + 91 * p.toNat + 3) + (setR r (energyR r h) (r (24 + 91 * p.toNat + 3)) (r (24 + 91 * p.toNat + 2))))) 13 ((24 + 91 * p.toNat + 4)) (r (24 + 91 * p.toNat + 4) + 1)) 13 ((24 + 91 * p.toNat + 5)) (100000)) 13 ((24 + 91 * p.toNat + 6)) (0)) 13 (24 + 91 * p.toNat + 7) = r (24 + 91 * p.toNat + 7) from (up_ne2 (by omega) (up_ne2 (by omega) (up_ne2 (by omega) (up_ne2 (by omega) (hM.at (n := (24 + 91 * p.toNat + 7)) (by omega) (by omega))))))]
    refine g_iload X dX8_strikes_122 rfl ?_
    refine g_iadd X dX8_strikes_124 ?_
    refine cl_X8_93 X (c_X8_put l E (up (up (up (up σ 13 ((24 + 91 * p.toNat + 3)) (r (24 + 91 * p.toNat + 3) + (setR r (energyR r h) (r (24 + 91 * p.toNat + 3)) (r (24 + 91 * p.toNat + 2))))) 13 ((24 + 91 * p.toNat + 4)) (r (24 + 91 * p.toNat + 4) + 1)) 13 ((24 + 91 * p.toNat + 5)) (100000)) 13 ((24 + 91 * p.toNat + 6)) (0)) p 7 (r (24 + 91 * p.toNat + 7) + (setR r (energyR r h) (r (24 + 91 * p.toNat + 3)) (r (24 + 91 * p.toNat + 2)))) (24 + 91 * p.toNat + 7) (by omega) (by omega) (by omega)) fk12 ⟨Nat.le_of_ble_eq_true rfl, Nat.le_of_ble_eq_true rfl⟩ rfl (Nat.le_of_ble_eq_true rfl) dX8_strikes_125 rfl (fun v71 τ72 p73 => ?_)
    obtain ⟨rfl, rfl⟩ := p73
    refine g_aload_n X dX8_strikes_128 rfl ?_
    refine g_iload_n X dX8_strikes_129 rfl ?_
    refine g_iload X dX8_strikes_130 rfl ?_
    refine g_iload X dX8_strikes_132 rfl ?_
    refine cl_X8_132 X (c_X8_keeps l E (up (up (up (up (up σ 13 ((24 + 91 * p.toNat + 3)) (r (24 + 91 * p.toNat + 3) + (setR r (energyR r h) (r (24 + 91 * p.toNat + 3)) (r (24 + 91 * p.toNat + 2))))) 13 ((24 + 91 * p.toNat + 4)) (r (24 + 91 * p.toNat + 4) + 1)) 13 ((24 + 91 * p.toNat + 5)) (100000)) 13 ((24 + 91 * p.toNat + 6)) (0)) 13 ((24 + 91 * p.toNat + 7)) (r (24 + 91 * p.toNat + 7) + (setR r (energyR r h) (r (24 + 91 * p.toNat + 3)) (r (24 + 91 * p.toNat + 2))))) (blow5R r p.toNat (setR r (energyR r h) (r (24 + 91 * p.toNat + 3)) (r (24 + 91 * p.toNat + 2))) 100000) ((((((hM.put (n := (24 + 91 * p.toNat + 3)) (v := r (24 + 91 * p.toNat + 3) + (setR r (energyR r h) (r (24 + 91 * p.toNat + 3)) (r (24 + 91 * p.toNat + 2)))) (by omega)).put (n := (24 + 91 * p.toNat + 4)) (v := r (24 + 91 * p.toNat + 4) + 1) (by omega)).put (n := (24 + 91 * p.toNat + 5)) (v := 100000) (by omega)).put (n := (24 + 91 * p.toNat + 6)) (v := 0) (by omega)).put (n := (24 + 91 * p.toNat + 7)) (v := r (24 + 91 * p.toNat + 7) + (setR r (energyR r h) (r (24 + 91 * p.toNat + 3)) (r (24 + 91 * p.toNat + 2)))) (by omega))) p (setR r (energyR r h) (r (24 + 91 * p.toNat + 3)) (r (24 + 91 * p.toNat + 2))) 100000 (by omega) (by rw [blow5_ne (by omega)]; omega)) fk12 ⟨Nat.le_of_ble_eq_true rfl, Nat.le_of_ble_eq_true rfl⟩ rfl (Nat.le_of_ble_eq_true rfl) dX8_strikes_134 rfl (fun v74 τ75 p76 => ?_)
    obtain ⟨rfl, hM6, hF6⟩ := p76
    obtain ⟨ρ, hρ⟩ : ∃ z, z = keptR (blow5R r p.toNat (setR r (energyR r h) (r (24 + 91 * p.toNat + 3)) (r (24 + 91 * p.toNat + 2))) 100000) p.toNat (setR r (energyR r h) (r (24 + 91 * p.toNat + 3)) (r (24 + 91 * p.toNat + 2))) 100000 := ⟨_, rfl⟩
    rw [← hρ] at hM6
    refine g_aload_n X dX8_strikes_137 rfl ?_
    refine gf_X8_7 X fk12 dX8_strikes_138 ?_
    refine g_bipush X dX8_strikes_141 (by decide) ?_
    refine g_dup2 X dX8_strikes_143 rfl rfl ?_
    refine g_iald X fk13 fl13 (by omega) (by omega) (by decide) (hM6.at (n := 20) (by omega) (by omega)) dX8_strikes_144 ?_
    refine g_iconst X dX8_strikes_145 ?_
    refine g_iadd X dX8_strikes_146 ?_
    refine g_iast X fk13 fl13 (by omega) (by omega) (by decide) dX8_strikes_147 ?_
    refine g_aload_n X dX8_strikes_148 rfl ?_
    refine gf_X8_7 X fk12 dX8_strikes_149 ?_
    refine g_bipush X dX8_strikes_152 (by decide) ?_
    refine g_dup2 X dX8_strikes_154 rfl rfl ?_
    refine g_iald X fk13 fl13 (by omega) (by omega) (by decide) (up_ne2 (by omega) (hM6.at (n := 21) (by omega) (by omega))) dX8_strikes_155 ?_
    refine g_iload X dX8_strikes_156 rfl ?_
    refine g_iadd X dX8_strikes_158 ?_
    refine g_iast X fk13 fl13 (by omega) (by omega) (by decide) dX8_strikes_159 ?_
    refine g_aload_n X dX8_strikes_160 rfl ?_
    refine gf_X8_16 X fk12 dX8_strikes_161 ?_
    refine g_iconst X dX8_strikes_164 ?_
    refine g_dup2 X dX8_strikes_165 rfl rfl ?_
    refine g_lald X fk15 fl15 (by omega) (by omega) (by decide) (up_ne1 (by omega) (up_ne1 (by omega) hM6.2.1)) dX8_strikes_166 ?_
    refine g_iload X dX8_strikes_167 rfl ?_
    refine g_i2l X dX8_strikes_169 ⟨by omega, by omega⟩ ?_
    refine g_ladd X dX8_strikes_170 ?_
    refine g_last X fk15 fl15 (by omega) (by omega) (by decide) dX8_strikes_171 ?_
    refine g_aload_n X dX8_strikes_172 rfl ?_
    refine gf_X8_16 X fk12 dX8_strikes_173 ?_
    refine g_iconst X dX8_strikes_176 ?_
    refine g_dup2 X dX8_strikes_177 rfl rfl ?_
    refine g_lald X fk15 fl15 (by omega) (by omega) (by decide) (up_ne2 (by decide) (up_ne1 (by omega) (up_ne1 (by omega) hM6.2.2))) dX8_strikes_178 ?_
    refine g_iload X dX8_strikes_179 rfl ?_
    refine g_i2l X dX8_strikes_181 ⟨by omega, by omega⟩ ?_
    refine g_iload_n X dX8_strikes_182 rfl ?_
    refine g_i2l X dX8_strikes_183 ⟨by omega, by omega⟩ ?_
    refine g_lmul X dX8_strikes_184 ?_
    refine g_ladd X dX8_strikes_185 ?_
    refine g_last X fk15 fl15 (by omega) (by omega) (by decide) dX8_strikes_186 ?_
    refine g_aload_n X dX8_strikes_187 rfl ?_
    refine g_iload_n X dX8_strikes_188 rfl ?_
    refine g_iload X dX8_strikes_189 rfl ?_
    have hM7 := ((((hM6.put (n := 20) (v := ρ 20 + 1) (by omega)).put (n := 21) (v := ρ 21 + (blowS r p.toNat h)) (by omega)).sum0 (v := ρ 934 + energyR r h)).sum1 (v := ρ 935 + (blowS r p.toNat h) * hardR r (r (24 + 91 * p.toNat + 3)))).congr (r' := hit1R r p.toNat h) (fun n _ => by rw [← struck_eq (r := r) (P := p.toNat) (by omega) (l := (loadR r (energyR r h) (blowS r p.toNat h))) (e := energyR r h) (hd := hardR r (r (24 + 91 * p.toNat + 3))) (by rw [hρ, hld]; rfl) n]; rfl)
    have h15 := hit1_inv hR hN (i := p.toNat) (by omega) h0 h1
    have h159 := h15.2.2.1
    refine cl_X8_135 X (c_X8_lifts l E (up (up (up (up τ75 13 20 (ρ 20 + 1)) 13 21 (ρ 21 + (setR r (energyR r h) (r (24 + 91 * p.toNat + 3)) (r (24 + 91 * p.toNat + 2))))) 15 0 ((ρ 934) + (energyR r h))) 15 1 ((ρ 935) + ((setR r (energyR r h) (r (24 + 91 * p.toNat + 3)) (r (24 + 91 * p.toNat + 2))) * (hardR r (r (24 + 91 * p.toNat + 3)))))) (hit1R r p.toNat h) N hM7 h15.1 h15.2.1 p (setR r (energyR r h) (r (24 + 91 * p.toNat + 3)) (r (24 + 91 * p.toNat + 2))) (by omega) (by omega)) fk12 ⟨Nat.le_of_ble_eq_true rfl, Nat.le_of_ble_eq_true rfl⟩ rfl (Nat.le_of_ble_eq_true rfl) dX8_strikes_191 rfl (fun v77 τ78 p79 => ?_)
    obtain ⟨rfl, hM191, hF191⟩ := p79
    refine g_iload X dX8_strikes_194 rfl ?_
    exact R _ _ _ _ dX8_strikes_196 ⟨rfl, by rw [h159] at hM191; exact hM191, (((((((((frR.refl.up (Or.inl rfl)).up (Or.inl rfl)).up (Or.inl rfl)).up (Or.inl rfl)).up (Or.inl rfl)).trans hF6).up (Or.inl rfl)).up (Or.inl rfl)).up (Or.inr rfl)).up (Or.inr rfl) |>.trans hF191⟩
