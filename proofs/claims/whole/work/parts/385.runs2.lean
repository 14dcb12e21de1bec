/-! ===== contracts: runs, of the reference ===== -/
set_option maxHeartbeats 1000000 in
set_option maxRecDepth 100000 in
theorem c_X8_endsRun (l : Launch) (E : wEnv) (σ : Mem) (x : RS) (hy : YRep σ x) (hn : x.2.2.2.1 < 40) (a b c : Int) (ha : a = (x.1 : Int)) (hb : b = x.2.1) (hc : c = x.2.2.1) (h0 : 0 ≤ a ∧ a ≤ 100) (h1 : I32 b) : MetC l E yX8_endsRun cX8_endsRun 4 none 0 0 [rv E (12), iv (a), iv (b), iv (c)] σ (fun v σ' => v = none ∧ YRep σ' (endsR x) ∧ frY σ σ') := by
  refine MetC.of (own := RX8) (by decide) rfl (by simp [Value.category]) (Nat.le_of_ble_eq_true rfl) [some (rv E (12)), some (iv (a)), some (iv (b)), some (iv (c))] rfl (by simp) (fun K X R => ?_)
  refine g_iload_n X dX8_endsRun_0 rfl ?_
  refine g_iconst X dX8_endsRun_1 ?_
  refine g_icmp_le X (tgt := 45) dX8_endsRun_2 (by decide) ⟨by omega, by omega⟩ ⟨by decide, by decide⟩ (fun c1 => ?_) (fun c1 => ?_)
  · skip
    exact R _ _ _ dX8_endsRun_45 ⟨rfl, by unfold endsR; rw [if_neg (by omega)]; exact hy, frY.refl⟩
  · skip
    refine g_aload_n X dX8_endsRun_5 rfl ?_
    refine gf_X8_26 X fk12 dX8_endsRun_6 ?_
    refine g_aload_n X dX8_endsRun_9 rfl ?_
    refine gf_X8_148 X fk12 hy.1 dX8_endsRun_10 ?_
    refine g_iload_n X dX8_endsRun_13 rfl ?_
    refine g_iast X fk18 fl18 (by omega) (by omega) (by decide) dX8_endsRun_14 ?_
    refine g_aload_n X dX8_endsRun_15 rfl ?_
    refine gf_X8_29 X fk12 dX8_endsRun_16 ?_
    refine g_aload_n X dX8_endsRun_19 rfl ?_
    refine gf_X8_148 X fk12 (up_ne1 (by omega) hy.1) dX8_endsRun_20 ?_
    refine g_iload_n X dX8_endsRun_23 rfl ?_
    refine g_iast X fk19 fl19 (by omega) (by omega) (by decide) dX8_endsRun_24 ?_
    refine g_aload_n X dX8_endsRun_25 rfl ?_
    refine gf_X8_32 X fk12 dX8_endsRun_26 ?_
    refine g_aload_n X dX8_endsRun_29 rfl ?_
    refine gf_X8_148 X fk12 (up_ne1 (by omega) (up_ne1 (by omega) hy.1)) dX8_endsRun_30 ?_
    refine g_iload_n X dX8_endsRun_33 rfl ?_
    refine g_iast X fk20 fl20 (by omega) (by omega) (by decide) dX8_endsRun_34 ?_
    refine g_aload_n X dX8_endsRun_35 rfl ?_
    refine g_dup X dX8_endsRun_36 rfl ?_
    refine gf_X8_148 X fk12 (up_ne1 (by omega) (up_ne1 (by omega) (up_ne1 (by omega) hy.1))) dX8_endsRun_37 ?_
    refine g_iconst X dX8_endsRun_40 ?_
    refine g_iadd X dX8_endsRun_41 ?_
    refine pf_X8_148 X fk12 dX8_endsRun_42 ?_
    exact R _ _ _ dX8_endsRun_45 ⟨rfl, by rw [ha, hb, hc]; exact yr_end hy (by omega), (((frY.refl.upx (by decide)).upx (by decide)).upx (by decide)).up10⟩
set_option maxHeartbeats 1000000 in
set_option maxRecDepth 100000 in
theorem c_X8_findRuns (l : Launch) (E : wEnv) (σ : Mem) (r : Row) (N : Int) (hM : RR σ r) (hR : RInv r N) (p : Int) (hp : 0 ≤ p ∧ p < r 19) (hSb : ∀ j : Nat, (j : Int) < r (24 + 91 * p.toNat + 10) → 0 ≤ setsR r p.toNat j ∧ setsR r p.toNat j ≤ 500) : MetC l E yX8_findRuns cX8_findRuns 8 none 1 23 [rv E (12), iv (p)] σ (fun v σ' => v = none ∧ YRep σ' (allR (setsR r p.toNat) (r (24 + 91 * p.toNat + 10)).toNat) ∧ frY σ σ') := by
  refine MetC.of (own := RX8) (by decide) rfl (by simp [Value.category]) (Nat.le_of_ble_eq_true rfl) [some (rv E (12)), some (iv (p)), none, none, none, none, none, none] rfl (by simp) (fun K X R => ?_)
  have r19 := hR.2.2.2.2.1
  have r0 := hR.1
  have rN := hR.2.2.2.2.2.1
  have hkk := (hR.2.2.2.2.2.2 p.toNat (by omega)).f
  refine g_aload_n X dX8_findRuns_0 rfl ?_
  refine g_iconst X dX8_findRuns_1 ?_
  refine pf_X8_148 X fk12 dX8_findRuns_2 ?_
  refine g_iconst X dX8_findRuns_5 ?_
  refine g_istore_n X (lw := [some (rv E (12)), some (iv (p)), some (iv (0)), none, none, none, none, none]) dX8_findRuns_6 (by decide) rfl rfl ?_
  refine g_iconst X dX8_findRuns_7 ?_
  refine g_istore_n X (lw := [some (rv E (12)), some (iv (p)), some (iv (0)), some (iv (0)), none, none, none, none]) dX8_findRuns_8 (by decide) rfl rfl ?_
  refine g_iconst X dX8_findRuns_9 ?_
  refine g_istore X (lw := [some (rv E (12)), some (iv (p)), some (iv (0)), some (iv (0)), some (iv (0)), none, none, none]) dX8_findRuns_10 (by decide) rfl rfl ?_
  refine g_iconst X dX8_findRuns_12 ?_
  refine g_istore X (lw := [some (rv E (12)), some (iv (p)), some (iv (0)), some (iv (0)), some (iv (0)), some (iv (0)), none, none]) dX8_findRuns_13 (by decide) rfl rfl ?_
  have L1 : ∀ (fu : Nat) (τ : Mem) (f m q k : Int), (0 ≤ k) → (k ≤ r (24 + 91 * p.toNat + 10)) → (f = (((runsR (setsR r p.toNat) k.toNat).1 : Nat) : Int)) → (m = (runsR (setsR r p.toNat) k.toNat).2.1) → (q = (runsR (setsR r p.toNat) k.toNat).2.2.1) → (YRep τ (runsR (setsR r p.toNat) k.toNat)) → (frY σ τ) → (0 ≤ f ∧ f ≤ 40) → r (24 + 91 * p.toNat + 10) - k < (fu : Int) → K τ 15 [some (rv E (12)), some (iv (p)), some (iv (f)), some (iv (m)), some (iv (q)), some (iv (k)), none, none] [] := by
    intro fu
    induction fu with
    | zero =>
      intro τ f m q k j1 j2 jF jm jq jy jf jfb hm
      exact absurd hm (by omega)
    | succ fu ih1 =>
      intro τ f m q k j1 j2 jF jm jq jy jf jfb hm
      have ⟨y1, y2, y3, y4⟩ := runs_b (setsR r p.toNat) k.toNat
      have jM := hM.fr (jf.1 13 (by decide) (by decide) (by decide) (by decide)) (jf.1 15 (by decide) (by decide) (by decide) (by decide))
      refine g_iload X dX8_findRuns_15 rfl ?_
      refine g_aload_n X dX8_findRuns_17 rfl ?_
      refine g_iload_n X dX8_findRuns_18 rfl ?_
      refine g_bipush X dX8_findRuns_19 (by decide) ?_
      refine cl_X8_62 X (c_X8_of l E τ r N jM hR p 10 (24 + 91 * p.toNat + 10) (by omega) (by omega) (by omega)) fk12 ⟨Nat.le_of_ble_eq_true rfl, Nat.le_of_ble_eq_true rfl⟩ rfl (Nat.le_of_ble_eq_true rfl) dX8_findRuns_21 rfl (fun v2 τ3 p4 => ?_)
      obtain ⟨rfl, rfl⟩ := p4
      refine g_icmp_ge X (tgt := 110) dX8_findRuns_24 (by decide) ⟨by omega, by omega⟩ ⟨by omega, by omega⟩ (fun c5 => ?_) (fun c5 => ?_)
      · skip
        refine g_aload_n X dX8_findRuns_110 rfl ?_
        refine g_iload_n X dX8_findRuns_111 rfl ?_
        refine g_iload_n X dX8_findRuns_112 rfl ?_
        refine g_iload X dX8_findRuns_113 rfl ?_
        refine cl_X8_151 X (c_X8_endsRun l E τ (runsR (setsR r p.toNat) k.toNat) jy (by omega) f m q (by omega) (by omega) (by omega) (by omega) (by omega)) fk12 ⟨Nat.le_of_ble_eq_true rfl, Nat.le_of_ble_eq_true rfl⟩ rfl (Nat.le_of_ble_eq_true rfl) dX8_findRuns_115 rfl (fun v6 τ7 p8 => ?_)
        obtain ⟨rfl, hY115, hF115⟩ := p8
        have hM115 := jM.fr (hF115.1 13 (by decide) (by decide) (by decide) (by decide)) (hF115.1 15 (by decide) (by decide) (by decide) (by decide))
        exact R _ _ _ dX8_findRuns_118 ⟨rfl, by rw [show (r (24 + 91 * p.toNat + 10)).toNat = k.toNat by omega]; exact hY115, jf.trans hF115⟩
      · skip
        refine g_aload_n X dX8_findRuns_27 rfl ?_
        refine g_iload_n X dX8_findRuns_28 rfl ?_
        refine g_bipush X dX8_findRuns_29 (by decide) ?_
        refine g_iload X dX8_findRuns_31 rfl ?_
        refine g_iadd X dX8_findRuns_33 ?_
        refine cl_X8_62 X (c_X8_of l E τ r N jM hR p (11 + k) (24 + 91 * p.toNat + (11 + k.toNat)) (by omega) (by omega) (by omega)) fk12 ⟨Nat.le_of_ble_eq_true rfl, Nat.le_of_ble_eq_true rfl⟩ rfl (Nat.le_of_ble_eq_true rfl) dX8_findRuns_34 rfl (fun v9 τ10 p11 => ?_)
        obtain ⟨rfl, rfl⟩ := p11
        have es : r (24 + 91 * p.toNat + (11 + k.toNat)) = setsR r p.toNat k.toNat := congrArg r (by omega)
        have eb := hSb k.toNat (by omega)
        rw [es]
        refine g_istore X (lw := [some (rv E (12)), some (iv (p)), some (iv (f)), some (iv (m)), some (iv (q)), some (iv (k)), some (iv (setsR r p.toNat k.toNat)), none]) dX8_findRuns_37 (by decide) rfl rfl ?_
        refine g_iload X dX8_findRuns_39 rfl ?_
        refine g_if_le X (tgt := 104) dX8_findRuns_41 (by decide) ⟨by omega, by omega⟩ (fun c12 => ?_) (fun c12 => ?_)
        · skip
          refine g_iinc X (lw := [some (rv E (12)), some (iv (p)), some (iv (f)), some (iv (m)), some (iv (q)), some (iv (k + 1)), some (iv (setsR r p.toNat k.toNat)), none]) dX8_findRuns_104 rfl (by decide) rfl rfl ?_
          refine g_goto X (tgt := 15) dX8_findRuns_107 (by decide) ?_
          refine g_kill X 6 (lw := [some (rv E (12)), some (iv (p)), some (iv (f)), some (iv (m)), some (iv (q)), some (iv (k + 1)), none, none]) rfl ?_
          exact ih1 τ  f m q (k + 1) (by omega) (by omega) (by rw [show (k + 1).toNat = k.toNat + 1 by omega, runsR]; first | (unfold stepR; rw [if_neg (by omega)]; exact jF) | (unfold stepR; rw [if_pos (by omega), if_pos (by omega)]; exact jF)) (by rw [show (k + 1).toNat = k.toNat + 1 by omega, runsR]; first | (unfold stepR; rw [if_neg (by omega)]; exact jm) | (unfold stepR; rw [if_pos (by omega), if_pos (by omega)]; show m + 1 = (runsR (setsR r p.toNat) k.toNat).2.1 + 1; rw [jm])) (by rw [show (k + 1).toNat = k.toNat + 1 by omega, runsR]; first | (unfold stepR; rw [if_neg (by omega)]; exact jq) | (unfold stepR; rw [if_pos (by omega), if_pos (by omega)]; show q + _ = (runsR (setsR r p.toNat) k.toNat).2.2.1 + _; rw [jq])) (by rw [show (k + 1).toNat = k.toNat + 1 by omega, runsR]; first | (unfold stepR; rw [if_neg (by omega)]; exact jy) | (unfold stepR; rw [if_pos (by omega), if_pos (by omega)]; exact jy)) (by exact jf) (by omega) (by omega)
        · skip
          refine g_iload_n X dX8_findRuns_44 rfl ?_
          refine g_if_le X (tgt := 70) dX8_findRuns_45 (by decide) ⟨by omega, by omega⟩ (fun c13 => ?_) (fun c13 => ?_)
          · skip
            refine g_iconst X dX8_findRuns_70 ?_
            refine g_istore X (lw := [some (rv E (12)), some (iv (p)), some (iv (f)), some (iv (m)), some (iv (q)), some (iv (k)), some (iv (setsR r p.toNat k.toNat)), some (iv (0))]) dX8_findRuns_71 (by decide) rfl rfl ?_
            refine g_iload X dX8_findRuns_73 rfl ?_
            refine g_if_ne X (tgt := 94) dX8_findRuns_75 (by decide) ⟨by decide, by decide⟩ (fun q => absurd q (by decide)) (fun _ => ?_)
            refine g_aload_n X dX8_findRuns_78 rfl ?_
            refine g_iload_n X dX8_findRuns_79 rfl ?_
            refine g_iload_n X dX8_findRuns_80 rfl ?_
            refine g_iload X dX8_findRuns_81 rfl ?_
            refine cl_X8_151 X (c_X8_endsRun l E τ (runsR (setsR r p.toNat) k.toNat) jy (by omega) f m q (by omega) (by omega) (by omega) (by omega) (by omega)) fk12 ⟨Nat.le_of_ble_eq_true rfl, Nat.le_of_ble_eq_true rfl⟩ rfl (Nat.le_of_ble_eq_true rfl) dX8_findRuns_83 rfl (fun v14 τ15 p16 => ?_)
            obtain ⟨rfl, hY83, hF83⟩ := p16
            have hM83 := jM.fr (hF83.1 13 (by decide) (by decide) (by decide) (by decide)) (hF83.1 15 (by decide) (by decide) (by decide) (by decide))
            refine g_iload X dX8_findRuns_86 rfl ?_
            refine g_istore_n X (lw := [some (rv E (12)), some (iv (p)), some (iv (k)), some (iv (m)), some (iv (q)), some (iv (k)), some (iv (setsR r p.toNat k.toNat)), some (iv (0))]) dX8_findRuns_88 (by decide) rfl rfl ?_
            refine g_iconst X dX8_findRuns_89 ?_
            refine g_istore_n X (lw := [some (rv E (12)), some (iv (p)), some (iv (k)), some (iv (0)), some (iv (q)), some (iv (k)), some (iv (setsR r p.toNat k.toNat)), some (iv (0))]) dX8_findRuns_90 (by decide) rfl rfl ?_
            refine g_iconst X dX8_findRuns_91 ?_
            refine g_istore X (lw := [some (rv E (12)), some (iv (p)), some (iv (k)), some (iv (0)), some (iv (0)), some (iv (k)), some (iv (setsR r p.toNat k.toNat)), some (iv (0))]) dX8_findRuns_92 (by decide) rfl rfl ?_
            refine g_iinc X (lw := [some (rv E (12)), some (iv (p)), some (iv (k)), some (iv (0 + 1)), some (iv (0)), some (iv (k)), some (iv (setsR r p.toNat k.toNat)), some (iv (0))]) dX8_findRuns_94 rfl (by decide) rfl rfl ?_
            refine g_iload X dX8_findRuns_97 rfl ?_
            refine g_iload X dX8_findRuns_99 rfl ?_
            refine g_iadd X dX8_findRuns_101 ?_
            refine g_istore X (lw := [some (rv E (12)), some (iv (p)), some (iv (k)), some (iv (0 + 1)), some (iv (0 + setsR r p.toNat k.toNat)), some (iv (k)), some (iv (setsR r p.toNat k.toNat)), some (iv (0))]) dX8_findRuns_102 (by decide) rfl rfl ?_
            refine g_iinc X (lw := [some (rv E (12)), some (iv (p)), some (iv (k)), some (iv (0 + 1)), some (iv (0 + setsR r p.toNat k.toNat)), some (iv (k + 1)), some (iv (setsR r p.toNat k.toNat)), some (iv (0))]) dX8_findRuns_104 rfl (by decide) rfl rfl ?_
            refine g_goto X (tgt := 15) dX8_findRuns_107 (by decide) ?_
            refine g_kill X 6 (lw := [some (rv E (12)), some (iv (p)), some (iv (k)), some (iv (0 + 1)), some (iv (0 + setsR r p.toNat k.toNat)), some (iv (k + 1)), none, some (iv (0))]) rfl ?_
            refine g_kill X 7 (lw := [some (rv E (12)), some (iv (p)), some (iv (k)), some (iv (0 + 1)), some (iv (0 + setsR r p.toNat k.toNat)), some (iv (k + 1)), none, none]) rfl ?_
            exact ih1 τ15  k (0 + 1) (0 + setsR r p.toNat k.toNat) (k + 1) (by omega) (by omega) (by rw [show (k + 1).toNat = k.toNat + 1 by omega, runsR]; unfold stepR; rw [if_pos (by omega), if_neg (by omega)]; show k = ((k.toNat : Nat) : Int); omega) (by rw [show (k + 1).toNat = k.toNat + 1 by omega, runsR]; unfold stepR; rw [if_pos (by omega), if_neg (by omega)]; rfl) (by rw [show (k + 1).toNat = k.toNat + 1 by omega, runsR]; unfold stepR; rw [if_pos (by omega), if_neg (by omega)]; rfl) (by rw [show (k + 1).toNat = k.toNat + 1 by omega, runsR]; unfold stepR; rw [if_pos (by omega), if_neg (by omega)]; exact hY83) (by exact jf.trans hF83) (by omega) (by omega)
          · skip
            refine g_iload X dX8_findRuns_48 rfl ?_
            refine g_aload_n X dX8_findRuns_50 rfl ?_
            refine g_iload_n X dX8_findRuns_51 rfl ?_
            refine g_bipush X dX8_findRuns_52 (by decide) ?_
            refine g_iload_n X dX8_findRuns_54 rfl ?_
            refine g_iadd X dX8_findRuns_55 ?_
            refine cl_X8_62 X (c_X8_of l E τ r N jM hR p (11 + f) (24 + 91 * p.toNat + (11 + f.toNat)) (by omega) (by omega) (by omega)) fk12 ⟨Nat.le_of_ble_eq_true rfl, Nat.le_of_ble_eq_true rfl⟩ rfl (Nat.le_of_ble_eq_true rfl) dX8_findRuns_56 rfl (fun v17 τ18 p19 => ?_)
            obtain ⟨rfl, rfl⟩ := p19
            have ef : r (24 + 91 * p.toNat + (11 + f.toNat)) = setsR r p.toNat (runsR (setsR r p.toNat) k.toNat).1 := congrArg r (by omega)
            have fb := hSb (runsR (setsR r p.toNat) k.toNat).1 (by omega)
            rw [ef]
            refine cl_X8_97 X (c_X8_apart l E τ (setsR r p.toNat k.toNat) (setsR r p.toNat (runsR (setsR r p.toNat) k.toNat).1) ⟨by omega, by omega⟩ ⟨by omega, by omega⟩) ⟨Nat.le_of_ble_eq_true rfl, Nat.le_of_ble_eq_true rfl⟩ rfl (Nat.le_of_ble_eq_true rfl) dX8_findRuns_59 rfl (fun v20 τ21 p22 => ?_)
            obtain ⟨rfl, rfl⟩ := p22
            have ad59 : 0 ≤ adist (setsR r p.toNat k.toNat) (setsR r p.toNat (runsR (setsR r p.toNat) k.toNat).1) ∧ (adist (setsR r p.toNat k.toNat) (setsR r p.toNat (runsR (setsR r p.toNat) k.toNat).1) = setsR r p.toNat k.toNat - (setsR r p.toNat (runsR (setsR r p.toNat) k.toNat).1) ∨ adist (setsR r p.toNat k.toNat) (setsR r p.toNat (runsR (setsR r p.toNat) k.toNat).1) = setsR r p.toNat (runsR (setsR r p.toNat) k.toNat).1 - (setsR r p.toNat k.toNat)) := by unfold adist; split <;> omega
            refine g_iconst X dX8_findRuns_62 ?_
            refine g_icmp_gt X (tgt := 70) dX8_findRuns_63 (by decide) ⟨by omega, by omega⟩ ⟨by decide, by decide⟩ (fun c23 => ?_) (fun c23 => ?_)
            · skip
              refine g_iconst X dX8_findRuns_70 ?_
              refine g_istore X (lw := [some (rv E (12)), some (iv (p)), some (iv (f)), some (iv (m)), some (iv (q)), some (iv (k)), some (iv (setsR r p.toNat k.toNat)), some (iv (0))]) dX8_findRuns_71 (by decide) rfl rfl ?_
              refine g_iload X dX8_findRuns_73 rfl ?_
              refine g_if_ne X (tgt := 94) dX8_findRuns_75 (by decide) ⟨by decide, by decide⟩ (fun q => absurd q (by decide)) (fun _ => ?_)
              refine g_aload_n X dX8_findRuns_78 rfl ?_
              refine g_iload_n X dX8_findRuns_79 rfl ?_
              refine g_iload_n X dX8_findRuns_80 rfl ?_
              refine g_iload X dX8_findRuns_81 rfl ?_
              refine cl_X8_151 X (c_X8_endsRun l E τ (runsR (setsR r p.toNat) k.toNat) jy (by omega) f m q (by omega) (by omega) (by omega) (by omega) (by omega)) fk12 ⟨Nat.le_of_ble_eq_true rfl, Nat.le_of_ble_eq_true rfl⟩ rfl (Nat.le_of_ble_eq_true rfl) dX8_findRuns_83 rfl (fun v24 τ25 p26 => ?_)
              obtain ⟨rfl, hY83, hF83⟩ := p26
              have hM83 := jM.fr (hF83.1 13 (by decide) (by decide) (by decide) (by decide)) (hF83.1 15 (by decide) (by decide) (by decide) (by decide))
              refine g_iload X dX8_findRuns_86 rfl ?_
              refine g_istore_n X (lw := [some (rv E (12)), some (iv (p)), some (iv (k)), some (iv (m)), some (iv (q)), some (iv (k)), some (iv (setsR r p.toNat k.toNat)), some (iv (0))]) dX8_findRuns_88 (by decide) rfl rfl ?_
              refine g_iconst X dX8_findRuns_89 ?_
              refine g_istore_n X (lw := [some (rv E (12)), some (iv (p)), some (iv (k)), some (iv (0)), some (iv (q)), some (iv (k)), some (iv (setsR r p.toNat k.toNat)), some (iv (0))]) dX8_findRuns_90 (by decide) rfl rfl ?_
              refine g_iconst X dX8_findRuns_91 ?_
              refine g_istore X (lw := [some (rv E (12)), some (iv (p)), some (iv (k)), some (iv (0)), some (iv (0)), some (iv (k)), some (iv (setsR r p.toNat k.toNat)), some (iv (0))]) dX8_findRuns_92 (by decide) rfl rfl ?_
              refine g_iinc X (lw := [some (rv E (12)), some (iv (p)), some (iv (k)), some (iv (0 + 1)), some (iv (0)), some (iv (k)), some (iv (setsR r p.toNat k.toNat)), some (iv (0))]) dX8_findRuns_94 rfl (by decide) rfl rfl ?_
              refine g_iload X dX8_findRuns_97 rfl ?_
              refine g_iload X dX8_findRuns_99 rfl ?_
              refine g_iadd X dX8_findRuns_101 ?_
              refine g_istore X (lw := [some (rv E (12)), some (iv (p)), some (iv (k)), some (iv (0 + 1)), some (iv (0 + setsR r p.toNat k.toNat)), some (iv (k)), some (iv (setsR r p.toNat k.toNat)), some (iv (0))]) dX8_findRuns_102 (by decide) rfl rfl ?_
              refine g_iinc X (lw := [some (rv E (12)), some (iv (p)), some (iv (k)), some (iv (0 + 1)), some (iv (0 + setsR r p.toNat k.toNat)), some (iv (k + 1)), some (iv (setsR r p.toNat k.toNat)), some (iv (0))]) dX8_findRuns_104 rfl (by decide) rfl rfl ?_
              refine g_goto X (tgt := 15) dX8_findRuns_107 (by decide) ?_
              refine g_kill X 6 (lw := [some (rv E (12)), some (iv (p)), some (iv (k)), some (iv (0 + 1)), some (iv (0 + setsR r p.toNat k.toNat)), some (iv (k + 1)), none, some (iv (0))]) rfl ?_
              refine g_kill X 7 (lw := [some (rv E (12)), some (iv (p)), some (iv (k)), some (iv (0 + 1)), some (iv (0 + setsR r p.toNat k.toNat)), some (iv (k + 1)), none, none]) rfl ?_
              exact ih1 τ25  k (0 + 1) (0 + setsR r p.toNat k.toNat) (k + 1) (by omega) (by omega) (by rw [show (k + 1).toNat = k.toNat + 1 by omega, runsR]; unfold stepR; rw [if_pos (by omega), if_neg (by omega)]; show k = ((k.toNat : Nat) : Int); omega) (by rw [show (k + 1).toNat = k.toNat + 1 by omega, runsR]; unfold stepR; rw [if_pos (by omega), if_neg (by omega)]; rfl) (by rw [show (k + 1).toNat = k.toNat + 1 by omega, runsR]; unfold stepR; rw [if_pos (by omega), if_neg (by omega)]; rfl) (by rw [show (k + 1).toNat = k.toNat + 1 by omega, runsR]; unfold stepR; rw [if_pos (by omega), if_neg (by omega)]; exact hY83) (by exact jf.trans hF83) (by omega) (by omega)
            · skip
              refine g_iconst X dX8_findRuns_66 ?_
              refine g_goto X (tgt := 71) dX8_findRuns_67 (by decide) ?_
              refine g_istore X (lw := [some (rv E (12)), some (iv (p)), some (iv (f)), some (iv (m)), some (iv (q)), some (iv (k)), some (iv (setsR r p.toNat k.toNat)), some (iv (1))]) dX8_findRuns_71 (by decide) rfl rfl ?_
              refine g_iload X dX8_findRuns_73 rfl ?_
              refine g_if_ne X (tgt := 94) dX8_findRuns_75 (by decide) ⟨by decide, by decide⟩ (fun _ => ?_) (fun q => absurd q (by decide))
              refine g_iinc X (lw := [some (rv E (12)), some (iv (p)), some (iv (f)), some (iv (m + 1)), some (iv (q)), some (iv (k)), some (iv (setsR r p.toNat k.toNat)), some (iv (1))]) dX8_findRuns_94 rfl (by decide) rfl rfl ?_
              refine g_iload X dX8_findRuns_97 rfl ?_
              refine g_iload X dX8_findRuns_99 rfl ?_
              refine g_iadd X dX8_findRuns_101 ?_
              refine g_istore X (lw := [some (rv E (12)), some (iv (p)), some (iv (f)), some (iv (m + 1)), some (iv (q + setsR r p.toNat k.toNat)), some (iv (k)), some (iv (setsR r p.toNat k.toNat)), some (iv (1))]) dX8_findRuns_102 (by decide) rfl rfl ?_
              refine g_iinc X (lw := [some (rv E (12)), some (iv (p)), some (iv (f)), some (iv (m + 1)), some (iv (q + setsR r p.toNat k.toNat)), some (iv (k + 1)), some (iv (setsR r p.toNat k.toNat)), some (iv (1))]) dX8_findRuns_104 rfl (by decide) rfl rfl ?_
              refine g_goto X (tgt := 15) dX8_findRuns_107 (by decide) ?_
              refine g_kill X 6 (lw := [some (rv E (12)), some (iv (p)), some (iv (f)), some (iv (m + 1)), some (iv (q + setsR r p.toNat k.toNat)), some (iv (k + 1)), none, some (iv (1))]) rfl ?_
              refine g_kill X 7 (lw := [some (rv E (12)), some (iv (p)), some (iv (f)), some (iv (m + 1)), some (iv (q + setsR r p.toNat k.toNat)), some (iv (k + 1)), none, none]) rfl ?_
              exact ih1 τ  f (m + 1) (q + setsR r p.toNat k.toNat) (k + 1) (by omega) (by omega) (by rw [show (k + 1).toNat = k.toNat + 1 by omega, runsR]; first | (unfold stepR; rw [if_neg (by omega)]; exact jF) | (unfold stepR; rw [if_pos (by omega), if_pos (by omega)]; exact jF)) (by rw [show (k + 1).toNat = k.toNat + 1 by omega, runsR]; first | (unfold stepR; rw [if_neg (by omega)]; exact jm) | (unfold stepR; rw [if_pos (by omega), if_pos (by omega)]; show m + 1 = (runsR (setsR r p.toNat) k.toNat).2.1 + 1; rw [jm])) (by rw [show (k + 1).toNat = k.toNat + 1 by omega, runsR]; first | (unfold stepR; rw [if_neg (by omega)]; exact jq) | (unfold stepR; rw [if_pos (by omega), if_pos (by omega)]; show q + _ = (runsR (setsR r p.toNat) k.toNat).2.2.1 + _; rw [jq])) (by rw [show (k + 1).toNat = k.toNat + 1 by omega, runsR]; first | (unfold stepR; rw [if_neg (by omega)]; exact jy) | (unfold stepR; rw [if_pos (by omega), if_pos (by omega)]; exact jy)) (by exact jf) (by omega) (by omega)
  exact L1 _ (up σ 12 10 (0))  0 0 0 0 (by omega) (by omega) (by rfl) (by rfl) (by rfl) (by exact ⟨up_same _ _ _ _, fun j hj => absurd hj (Nat.not_lt_zero j)⟩) (by exact frY.refl.up10) (by omega) (by exact Int.lt_toNat_succ _)
theorem MRep.fY {σ τ : Mem} {s : St} (h : MRep σ s) (hf : frY σ τ) : MRep τ s := by
  obtain ⟨h1, ⟨a1, a2, a3⟩, ⟨t1, t2, t3⟩⟩ := h
  refine ⟨h1.fr (hf.1 13 (by decide) (by decide) (by decide) (by decide)) (hf.1 15 (by decide) (by decide) (by decide) (by decide)), ⟨a1, by rw [hf.2 4 (by decide)]; exact a2, ?_⟩, ⟨t1, by rw [hf.2 6 (by decide)]; exact t2, ?_⟩⟩
  · rw [hf.1 14 (by decide) (by decide) (by decide) (by decide), hf.1 16 (by decide) (by decide) (by decide) (by decide)]; exact a3
  · rw [hf.1 17 (by decide) (by decide) (by decide) (by decide)]; exact t3
theorem frY.C {σ τ : Mem} (h : frY σ τ) : frC σ τ := fun x hx => h.1 x (by omega) (by omega) (by omega) (by omega)
set_option maxHeartbeats 1000000 in
set_option maxRecDepth 100000 in
theorem c_X8_runs (l : Launch) (E : wEnv) (σ : Mem) (s : St) (N : Int) (hM : MRep σ s) (hR : RInv s.1 N) (hN : N + 600 ≤ 400000) (hKI : ∀ i : Nat, (i : Int) < s.1 19 → ∀ j : Nat, (j : Int) < s.1 (24 + 91 * i + 10) → 0 ≤ setsR s.1 i j ∧ setsR s.1 i j ≤ 500) (p : Int) (hp : I32 p) : MetC l E yX8_runs cX8_runs 2 (some .int) 2 50 [rv E (12), iv (p)] σ (fun v σ' => v = some (iv (runsX s p)) ∧ MRep σ' s ∧ frC σ σ') := by
  refine MetC.of (own := RX8) (by decide) rfl (by simp [Value.category]) (Nat.le_of_ble_eq_true rfl) [some (rv E (12)), some (iv (p))] rfl (by simp) (fun K X R => ?_)
  have hM1 := hM.1
  have hM2 := hM.2.1
  have hM3 := hM.2.2
  have r19 := hR.2.2.2.2.1
  have r0 := hR.1
  have rN := hR.2.2.2.2.2.1
  refine g_aload_n X dX8_runs_0 rfl ?_
  refine g_iload_n X dX8_runs_1 rfl ?_
  refine cl_X8_103 X (c_X8_isPile l E σ s.1 N hM1 hR p ⟨by omega, by omega⟩) fk12 ⟨Nat.le_of_ble_eq_true rfl, Nat.le_of_ble_eq_true rfl⟩ rfl (Nat.le_of_ble_eq_true rfl) dX8_runs_2 rfl (fun v1 τ2 p3 => ?_)
  obtain ⟨rfl, ⟨b4, rfl⟩ | ⟨b4, rfl⟩⟩ := p3
  · skip
    have pi2 := (hR.2.2.2.2.2.2 p.toNat (by omega)).f
    refine g_if_ne X (tgt := 10) dX8_runs_5 (by decide) ⟨by decide, by decide⟩ (fun _ => ?_) (fun q => absurd q (by decide))
    refine g_aload_n X dX8_runs_10 rfl ?_
    refine g_iload_n X dX8_runs_11 rfl ?_
    refine cl_X8_154 X (c_X8_findRuns l E σ s.1 N hM1 hR p (by omega) (hKI p.toNat (by omega))) fk12 ⟨Nat.le_of_ble_eq_true rfl, Nat.le_of_ble_eq_true rfl⟩ rfl (Nat.le_of_ble_eq_true rfl) dX8_runs_12 rfl (fun v5 τ6 p7 => ?_)
    obtain ⟨rfl, hy, hf⟩ := p7
    have xe := ends_b (runs_b (setsR s.1 p.toNat) (s.1 (24 + 91 * p.toNat + 10)).toNat)
    replace xe : XE (allR (setsR s.1 p.toNat) (s.1 (24 + 91 * p.toNat + 10)).toNat) _ := xe
    have xe1 := xe.1
    skip
    have hpk := (hR.2.2.2.2.2.2 p.toNat (by omega)).f
    refine g_aload_n X dX8_runs_15 rfl ?_
    refine gf_X8_148 X fk12 (show τ6 12 10 = ((allR (setsR s.1 p.toNat) (s.1 (24 + 91 * p.toNat + 10)).toNat).2.2.2.1 : Int) from hy.1) dX8_runs_16 ?_
    exact R _ _ _ _ dX8_runs_19 (by unfold runsX; rw [if_pos (by omega)]; exact ⟨rfl, hM.fY hf, hf.C⟩)
  · skip
    skip
    refine g_if_ne X (tgt := 10) dX8_runs_5 (by decide) ⟨by decide, by decide⟩ (fun q => absurd q (by decide)) (fun _ => ?_)
    refine g_iconst X dX8_runs_8 ?_
    exact R _ _ _ _ dX8_runs_9 (by unfold runsX; rw [if_neg (by omega)]; exact ⟨rfl, hM, frC.refl⟩)
set_option maxHeartbeats 1000000 in
set_option maxRecDepth 100000 in
theorem c_X8_run (l : Launch) (E : wEnv) (σ : Mem) (s : St) (N : Int) (hM : MRep σ s) (hR : RInv s.1 N) (hN : N + 600 ≤ 400000) (hKI : ∀ i : Nat, (i : Int) < s.1 19 → ∀ j : Nat, (j : Int) < s.1 (24 + 91 * i + 10) → 0 ≤ setsR s.1 i j ∧ setsR s.1 i j ≤ 500) (p k w : Int) (hp : I32 p) (hk : I32 k) (hw : I32 w) : MetC l E yX8_run cX8_run 4 (some .int) 2 50 [rv E (12), iv (p), iv (k), iv (w)] σ (fun v σ' => v = some (iv (runX s p k w)) ∧ MRep σ' s ∧ frC σ σ') := by
  refine MetC.of (own := RX8) (by decide) rfl (by simp [Value.category]) (Nat.le_of_ble_eq_true rfl) [some (rv E (12)), some (iv (p)), some (iv (k)), some (iv (w))] rfl (by simp) (fun K X R => ?_)
  have hM1 := hM.1
  have hM2 := hM.2.1
  have hM3 := hM.2.2
  have r19 := hR.2.2.2.2.1
  have r0 := hR.1
  have rN := hR.2.2.2.2.2.1
  refine g_aload_n X dX8_run_0 rfl ?_
  refine g_iload_n X dX8_run_1 rfl ?_
  refine cl_X8_103 X (c_X8_isPile l E σ s.1 N hM1 hR p ⟨by omega, by omega⟩) fk12 ⟨Nat.le_of_ble_eq_true rfl, Nat.le_of_ble_eq_true rfl⟩ rfl (Nat.le_of_ble_eq_true rfl) dX8_run_2 rfl (fun v1 τ2 p3 => ?_)
  obtain ⟨rfl, ⟨b4, rfl⟩ | ⟨b4, rfl⟩⟩ := p3
  · skip
    have pi2 := (hR.2.2.2.2.2.2 p.toNat (by omega)).f
    refine g_if_eq X (tgt := 21) dX8_run_5 (by decide) ⟨by decide, by decide⟩ (fun q => absurd q (by decide)) (fun _ => ?_)
    refine g_iload_n X dX8_run_8 rfl ?_
    refine g_if_lt X (tgt := 21) dX8_run_9 (by decide) ⟨by omega, by omega⟩ (fun c5 => ?_) (fun c5 => ?_)
    · skip
      refine g_iconst X dX8_run_21 ?_
      exact R _ _ _ _ dX8_run_22 (by unfold runX; rw [if_neg (by omega)]; exact ⟨rfl, hM, frC.refl⟩)
    · skip
      refine g_iload_n X dX8_run_12 rfl ?_
      refine g_iconst X dX8_run_13 ?_
      refine g_iconst X dX8_run_14 ?_
      refine cl_X8_51 X (c_X8_in l E σ w 0 3 ⟨by omega, by omega⟩ ⟨by decide, by decide⟩ ⟨by decide, by decide⟩) ⟨Nat.le_of_ble_eq_true rfl, Nat.le_of_ble_eq_true rfl⟩ rfl (Nat.le_of_ble_eq_true rfl) dX8_run_15 rfl (fun v6 τ7 p8 => ?_)
      obtain ⟨rfl, ⟨b9, rfl⟩ | ⟨b9, rfl⟩⟩ := p8
      · skip
        skip
        refine g_if_ne X (tgt := 23) dX8_run_18 (by decide) ⟨by decide, by decide⟩ (fun _ => ?_) (fun q => absurd q (by decide))
        refine g_aload_n X dX8_run_23 rfl ?_
        refine g_iload_n X dX8_run_24 rfl ?_
        refine cl_X8_154 X (c_X8_findRuns l E σ s.1 N hM1 hR p (by omega) (hKI p.toNat (by omega))) fk12 ⟨Nat.le_of_ble_eq_true rfl, Nat.le_of_ble_eq_true rfl⟩ rfl (Nat.le_of_ble_eq_true rfl) dX8_run_25 rfl (fun v10 τ11 p12 => ?_)
        obtain ⟨rfl, hy, hf⟩ := p12
        have xe := ends_b (runs_b (setsR s.1 p.toNat) (s.1 (24 + 91 * p.toNat + 10)).toNat)
        replace xe : XE (allR (setsR s.1 p.toNat) (s.1 (24 + 91 * p.toNat + 10)).toNat) _ := xe
        have xe1 := xe.1
        have xe2 := xe.2 k.toNat
        have hpk := (hR.2.2.2.2.2.2 p.toNat (by omega)).f
        refine g_iload_n X dX8_run_28 rfl ?_
        refine g_aload_n X dX8_run_29 rfl ?_
        refine gf_X8_148 X fk12 (show τ11 12 10 = ((allR (setsR s.1 p.toNat) (s.1 (24 + 91 * p.toNat + 10)).toNat).2.2.2.1 : Int) from hy.1) dX8_run_30 ?_
        refine g_icmp_lt X (tgt := 39) dX8_run_33 (by decide) ⟨by omega, by omega⟩ ⟨by omega, by omega⟩ (fun c13 => ?_) (fun c13 => ?_)
        · skip
          refine g_iload_n X dX8_run_39 rfl ?_
          rcases (show w = 0 ∨ w = 1 ∨ w = 2 ∨ (w < 0 ∨ 2 < w) by omega) with c14 | c14 | c14 | c14
          · skip
            refine g_tblIn X (tgt := 68) (off := 28) dX8_run_40 ⟨by omega, by omega⟩ (by omega) (by omega) (by rw [c14]; decide) (by decide) ?_
            refine g_aload_n X dX8_run_68 rfl ?_
            refine g_iload_n X dX8_run_69 rfl ?_
            refine g_bipush X dX8_run_70 (by decide) ?_
            refine g_aload_n X dX8_run_72 rfl ?_
            refine gf_X8_26 X fk12 dX8_run_73 ?_
            refine g_iload_n X dX8_run_76 rfl ?_
            refine g_iald X fk18 fl18 (by omega) (by omega) (by decide) (show τ11 18 ((k).toNat) = (allR (setsR s.1 p.toNat) (s.1 (24 + 91 * p.toNat + 10)).toNat).2.2.2.2.1 k.toNat from (hy.2 k.toNat (by omega)).1) dX8_run_77 ?_
            refine g_iadd X dX8_run_78 ?_
            refine cl_X8_62 X (c0_X8_of l E τ11 p (11 + ((allR (setsR s.1 p.toNat) (s.1 (24 + 91 * p.toNat + 10)).toNat).2.2.2.2.1 k.toNat)) (24 + 91 * p.toNat + (11 + ((allR (setsR s.1 p.toNat) (s.1 (24 + 91 * p.toNat + 10)).toNat).2.2.2.2.1 k.toNat)).toNat) (by omega) (by omega) (by omega)) fk12 ⟨Nat.le_of_ble_eq_true rfl, Nat.le_of_ble_eq_true rfl⟩ rfl (Nat.le_of_ble_eq_true rfl) dX8_run_79 rfl (fun v15 τ16 p17 => ?_)
            obtain ⟨rfl, rfl⟩ := p17
            rw [show τ11 13 (24 + 91 * p.toNat + (11 + ((allR (setsR s.1 p.toNat) (s.1 (24 + 91 * p.toNat + 10)).toNat).2.2.2.2.1 k.toNat)).toNat) = s.1 (24 + 91 * p.toNat + (11 + ((allR (setsR s.1 p.toNat) (s.1 (24 + 91 * p.toNat + 10)).toNat).2.2.2.2.1 k.toNat)).toNat) from ((hM.fY hf).1.at (n := (24 + 91 * p.toNat + (11 + ((allR (setsR s.1 p.toNat) (s.1 (24 + 91 * p.toNat + 10)).toNat).2.2.2.2.1 k.toNat)).toNat)) (by omega) (by omega))]
            exact R _ _ _ _ dX8_run_82 (by unfold runX; (repeat (first | rw [if_pos (by omega)] | rw [if_neg (by omega)])); exact ⟨congrArg (fun z => some (iv z)) (by first | rfl | exact congrArg s.1 (by omega)), hM.fY hf, hf.C⟩)
          · skip
            refine g_tblIn X (tgt := 83) (off := 43) dX8_run_40 ⟨by omega, by omega⟩ (by omega) (by omega) (by rw [c14]; decide) (by decide) ?_
            refine g_aload_n X dX8_run_83 rfl ?_
            refine gf_X8_29 X fk12 dX8_run_84 ?_
            refine g_iload_n X dX8_run_87 rfl ?_
            refine g_iald X fk19 fl19 (by omega) (by omega) (by decide) (show τ11 19 ((k).toNat) = (allR (setsR s.1 p.toNat) (s.1 (24 + 91 * p.toNat + 10)).toNat).2.2.2.2.2.1 k.toNat from (hy.2 k.toNat (by omega)).2.1) dX8_run_88 ?_
            exact R _ _ _ _ dX8_run_89 (by unfold runX; (repeat (first | rw [if_pos (by omega)] | rw [if_neg (by omega)])); exact ⟨congrArg (fun z => some (iv z)) (by first | rfl | exact congrArg s.1 (by omega)), hM.fY hf, hf.C⟩)
          · skip
            refine g_tblIn X (tgt := 90) (off := 50) dX8_run_40 ⟨by omega, by omega⟩ (by omega) (by omega) (by rw [c14]; decide) (by decide) ?_
            refine g_aload_n X dX8_run_90 rfl ?_
            refine g_iload_n X dX8_run_91 rfl ?_
            refine g_bipush X dX8_run_92 (by decide) ?_
            refine g_aload_n X dX8_run_94 rfl ?_
            refine gf_X8_26 X fk12 dX8_run_95 ?_
            refine g_iload_n X dX8_run_98 rfl ?_
            refine g_iald X fk18 fl18 (by omega) (by omega) (by decide) (show τ11 18 ((k).toNat) = (allR (setsR s.1 p.toNat) (s.1 (24 + 91 * p.toNat + 10)).toNat).2.2.2.2.1 k.toNat from (hy.2 k.toNat (by omega)).1) dX8_run_99 ?_
            refine g_iadd X dX8_run_100 ?_
            refine cl_X8_62 X (c0_X8_of l E τ11 p (51 + ((allR (setsR s.1 p.toNat) (s.1 (24 + 91 * p.toNat + 10)).toNat).2.2.2.2.1 k.toNat)) (24 + 91 * p.toNat + (51 + ((allR (setsR s.1 p.toNat) (s.1 (24 + 91 * p.toNat + 10)).toNat).2.2.2.2.1 k.toNat)).toNat) (by omega) (by omega) (by omega)) fk12 ⟨Nat.le_of_ble_eq_true rfl, Nat.le_of_ble_eq_true rfl⟩ rfl (Nat.le_of_ble_eq_true rfl) dX8_run_101 rfl (fun v18 τ19 p20 => ?_)
            obtain ⟨rfl, rfl⟩ := p20
            rw [show τ11 13 (24 + 91 * p.toNat + (51 + ((allR (setsR s.1 p.toNat) (s.1 (24 + 91 * p.toNat + 10)).toNat).2.2.2.2.1 k.toNat)).toNat) = s.1 (24 + 91 * p.toNat + (51 + ((allR (setsR s.1 p.toNat) (s.1 (24 + 91 * p.toNat + 10)).toNat).2.2.2.2.1 k.toNat)).toNat) from ((hM.fY hf).1.at (n := (24 + 91 * p.toNat + (51 + ((allR (setsR s.1 p.toNat) (s.1 (24 + 91 * p.toNat + 10)).toNat).2.2.2.2.1 k.toNat)).toNat)) (by omega) (by omega))]
            exact R _ _ _ _ dX8_run_104 (by unfold runX; (repeat (first | rw [if_pos (by omega)] | rw [if_neg (by omega)])); exact ⟨congrArg (fun z => some (iv z)) (by first | rfl | exact congrArg s.1 (by omega)), hM.fY hf, hf.C⟩)
          · skip
            refine g_tblOut X (tgt := 105) dX8_run_40 ⟨by omega, by omega⟩ c14 (by decide) ?_
            refine g_aload_n X dX8_run_105 rfl ?_
            refine gf_X8_32 X fk12 dX8_run_106 ?_
            refine g_iload_n X dX8_run_109 rfl ?_
            refine g_iald X fk20 fl20 (by omega) (by omega) (by decide) (show τ11 20 ((k).toNat) = (allR (setsR s.1 p.toNat) (s.1 (24 + 91 * p.toNat + 10)).toNat).2.2.2.2.2.2 k.toNat from (hy.2 k.toNat (by omega)).2.2) dX8_run_110 ?_
            exact R _ _ _ _ dX8_run_111 (by unfold runX; (repeat (first | rw [if_pos (by omega)] | rw [if_neg (by omega)])); exact ⟨congrArg (fun z => some (iv z)) (by first | rfl | exact congrArg s.1 (by omega)), hM.fY hf, hf.C⟩)
        · skip
          refine g_bipush X dX8_run_36 (by decide) ?_
          exact R _ _ _ _ dX8_run_38 (by unfold runX; (repeat (first | rw [if_pos (by omega)] | rw [if_neg (by omega)])); exact ⟨congrArg (fun z => some (iv z)) (by first | rfl | exact congrArg s.1 (by omega)), hM.fY hf, hf.C⟩)
      · skip
        skip
        refine g_if_ne X (tgt := 23) dX8_run_18 (by decide) ⟨by decide, by decide⟩ (fun q => absurd q (by decide)) (fun _ => ?_)
        refine g_iconst X dX8_run_21 ?_
        exact R _ _ _ _ dX8_run_22 (by unfold runX; rw [if_neg (by omega)]; exact ⟨rfl, hM, frC.refl⟩)
  · skip
    skip
    refine g_if_eq X (tgt := 21) dX8_run_5 (by decide) ⟨by decide, by decide⟩ (fun _ => ?_) (fun q => absurd q (by decide))
    refine g_iconst X dX8_run_21 ?_
    exact R _ _ _ _ dX8_run_22 (by unfold runX; rw [if_neg (by omega)]; exact ⟨rfl, hM, frC.refl⟩)
