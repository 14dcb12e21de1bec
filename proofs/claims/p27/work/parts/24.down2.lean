/-! ===== contracts: blows to a depth ===== -/
theorem cs_X1_topOf (l : Launch) (E : wEnv) (σ : Mem) (B : Nat) (r : Row) (N : Int) (hB : isK 8 B) (hS : SRep σ B r) (hR : RInv r N) (k : Int) (h0 : 0 ≤ k) (h1 : k ≤ r 0) : MetC l E yX1_topOf cX1_topOf 4 (some .int) 0 0 [rv E (B + 1), iv k] σ (fun v σ' => v = some (iv (sumT (thR r) k.toNat)) ∧ σ = σ') := by
  have r0 := hR.1
  have h := c_X1_topOf l E σ (B + 1) k (st1 hB) h0 (by omega)
  rw [sumT_congr k.toNat (fun j hj => hS.2.1 j (by omega))] at h
  exact h
theorem cs_X1_resistanceOf (l : Launch) (E : wEnv) (σ : Mem) (B : Nat) (r : Row) (N : Int) (hB : isK 8 B) (hS : SRep σ B r) (hR : RInv r N) (k : Int) (h0 : 0 ≤ k) (h1 : I32 k) : MetC l E yX1_resistanceOf cX1_resistanceOf 2 (some .int) 0 0 [rv E (B + 1), iv k] σ (fun v σ' => v = some (iv (if ((k.toNat : Nat) : Int) < r 0 then r (7 + k.toNat) else 2000)) ∧ σ = σ') := by
  have r0 := hR.1
  have h := c_X1_resistanceOf l E σ (B + 1) k (st1 hB) (hS.g hR) h1
  have e : (if 0 ≤ k ∧ k < σ (B + 1) 2 then σ (B + 1 + 2) k.toNat else 2000) = (if ((k.toNat : Nat) : Int) < r 0 then r (7 + k.toNat) else 2000) := by
    rw [hS.1]
    by_cases q : k < r 0
    · rw [if_pos ⟨h0, q⟩, if_pos (by omega)]; exact hS.2.2.1 _ (by omega)
    · rw [if_neg (fun z => q z.2), if_neg (by omega)]
  rw [e] at h
  exact h
set_option maxHeartbeats 1000000 in
set_option maxRecDepth 100000 in
theorem c_X6_blowsDown (l : Launch) (E : wEnv) (σ : Mem) (B : Nat) (r : Row) (N : Int) (hB : isK 8 B) (hS : SRep σ B r) (hR : RInv r N) (a d e : Int) (ha : 0 ≤ a ∧ a ≤ 50000) (hd : 0 ≤ d ∧ d ≤ 50000) (he : 0 ≤ e ∧ e ≤ 300000) : MetC l E yX6_blowsDown cX6_blowsDown 10 (some .int) 2 43 [rv E (B), iv (a), iv (d), iv (e)] σ (fun v σ' => v = some (iv (freeN r e d 50000 a)) ∧ σ = σ') := by
  refine MetC.of (own := RX6) (by decide) rfl (by simp [Value.category]) (Nat.le_of_ble_eq_true rfl) [some (rv E (B)), some (iv (a)), some (iv (d)), some (iv (e)), none, none, none, none, none, none] rfl (by simp) (fun K X R => ?_)
  have s3 := hS.2.2.2.2.1
  have r19 := hR.2.2.2.2.1
  have r0 := hR.1
  refine g_iload_n X dX6_blowsDown_0 rfl ?_
  refine g_istore X (lw := [some (rv E (B)), some (iv (a)), some (iv (d)), some (iv (e)), some (iv (a)), none, none, none, none, none]) dX6_blowsDown_1 (by decide) rfl rfl ?_
  refine g_iconst X dX6_blowsDown_3 ?_
  refine g_istore X (lw := [some (rv E (B)), some (iv (a)), some (iv (d)), some (iv (e)), some (iv (a)), some (iv (0)), none, none, none, none]) dX6_blowsDown_4 (by decide) rfl rfl ?_
  refine g_aload_n X dX6_blowsDown_6 rfl ?_
  refine gf_X6_12 X hB dX6_blowsDown_7 ?_
  refine g_iload_n X dX6_blowsDown_10 rfl ?_
  refine cl_X6_58 X (cs_X1_layerAt l E σ B r N hB hS hR a ⟨by omega, by omega⟩) (st1 hB) ⟨Nat.le_of_ble_eq_true rfl, Nat.le_of_ble_eq_true rfl⟩ rfl (Nat.le_of_ble_eq_true rfl) dX6_blowsDown_11 rfl (fun v1 τ2 p3 => ?_)
  obtain ⟨rfl, rfl⟩ := p3
  have hb11 := layR_le r a
  refine g_istore X (lw := [some (rv E (B)), some (iv (a)), some (iv (d)), some (iv (e)), some (iv (a)), some (iv (0)), some (iv (((layR r a : Nat) : Int))), none, none, none]) dX6_blowsDown_14 (by decide) rfl rfl ?_
  have L4 : ∀ (fu : Nat) (fu0 : Nat) (f b k : Int), (0 ≤ k ∧ k ≤ r 0 + 1) → (0 ≤ f ∧ f ≤ 51000) → (0 ≤ b ∧ b ≤ f) → (k ≤ r 0 → f < d → sumT (thR r) k.toNat ≤ f) → (k = r 0 + 1 → d ≤ f) → (d - f ≤ (fu0 : Int)) → ((freeN r e d 50000 a = -4 ↔ freeN r e d fu0 f = -4) ∧ (¬ freeN r e d 50000 a = -4 → freeN r e d 50000 a = freeN r e d fu0 f + b)) → r 0 + 1 - k < (fu : Int) → K σ 16 [some (rv E (B)), some (iv (a)), some (iv (d)), some (iv (e)), some (iv (f)), some (iv (b)), some (iv (k)), none, none, none] [] := by
    intro fu
    induction fu with
    | zero =>
      intro fu0 f b k j1 j2 j3 jl jz jf j7 hm
      exact absurd hm (by omega)
    | succ fu ih4 =>
      intro fu0 f b k j1 j2 j3 jl jz jf j7 hm
      refine g_iload X dX6_blowsDown_16 rfl ?_
      refine g_aload_n X dX6_blowsDown_18 rfl ?_
      refine gf_X6_12 X hB dX6_blowsDown_19 ?_
      refine gf_X6_155 X (st1 hB) (hS.1) dX6_blowsDown_22 ?_
      refine g_icmp_gt X (tgt := 136) dX6_blowsDown_25 (by decide) ⟨by omega, by omega⟩ ⟨by omega, by omega⟩ (fun c5 => ?_) (fun c5 => ?_)
      · skip
        refine g_iload X dX6_blowsDown_136 rfl ?_
        exact R _ _ _ _ dX6_blowsDown_138 ⟨congrArg (fun z => some (iv z)) (by have q := freeN_done (r := r) (e := e) (d := d) (f := f) (by omega) fu0; have q2 := j7.2 (fun z => by have q3 := j7.1.mp z; omega); omega), rfl⟩
      · skip
        refine g_iload X dX6_blowsDown_28 rfl ?_
        refine g_iload_n X dX6_blowsDown_30 rfl ?_
        refine g_icmp_ge X (tgt := 136) dX6_blowsDown_31 (by decide) ⟨by omega, by omega⟩ ⟨by omega, by omega⟩ (fun c6 => ?_) (fun c6 => ?_)
        · skip
          refine g_iload X dX6_blowsDown_136 rfl ?_
          exact R _ _ _ _ dX6_blowsDown_138 ⟨congrArg (fun z => some (iv z)) (by have q := freeN_done (r := r) (e := e) (d := d) (f := f) (by omega) fu0; have q2 := j7.2 (fun z => by have q3 := j7.1.mp z; omega); omega), rfl⟩
        · skip
          refine g_iload X dX6_blowsDown_34 rfl ?_
          refine g_aload_n X dX6_blowsDown_36 rfl ?_
          refine gf_X6_12 X hB dX6_blowsDown_37 ?_
          refine gf_X6_155 X (st1 hB) (hS.1) dX6_blowsDown_40 ?_
          refine g_icmp_ge X (tgt := 64) dX6_blowsDown_43 (by decide) ⟨by omega, by omega⟩ ⟨by omega, by omega⟩ (fun c7 => ?_) (fun c7 => ?_)
          · skip
            refine g_iload_n X dX6_blowsDown_64 rfl ?_
            refine g_istore X (lw := [some (rv E (B)), some (iv (a)), some (iv (d)), some (iv (e)), some (iv (f)), some (iv (b)), some (iv (k)), some (iv (d)), none, none]) dX6_blowsDown_65 (by decide) rfl rfl ?_
            refine g_iload X dX6_blowsDown_67 rfl ?_
            refine g_iload X dX6_blowsDown_69 rfl ?_
            refine g_icmp_ge X (tgt := 130) dX6_blowsDown_71 (by decide) ⟨by omega, by omega⟩ ⟨by omega, by omega⟩ (fun c8 => ?_) (fun c8 => ?_)
            · skip
              refine g_iinc X (lw := [some (rv E (B)), some (iv (a)), some (iv (d)), some (iv (e)), some (iv (f)), some (iv (b)), some (iv (k + 1)), some (iv (d)), none, none]) dX6_blowsDown_130 rfl (by decide) rfl rfl ?_
              refine g_goto X (tgt := 16) dX6_blowsDown_133 (by decide) ?_
              refine g_kill X 7 (lw := [some (rv E (B)), some (iv (a)), some (iv (d)), some (iv (e)), some (iv (f)), some (iv (b)), some (iv (k + 1)), none, none, none]) rfl ?_
              exact ih4 fu0 f b (k + 1) (by omega) (by omega) (by omega) (by intro q1 q2; rw [show (k + 1).toNat = k.toNat + 1 by omega]; omega) (by omega) (by omega) (by exact j7) (by omega)
            · skip
              refine g_aload_n X dX6_blowsDown_74 rfl ?_
              refine g_iload_n X dX6_blowsDown_75 rfl ?_
              refine g_aload_n X dX6_blowsDown_76 rfl ?_
              refine gf_X6_12 X hB dX6_blowsDown_77 ?_
              refine g_iload X dX6_blowsDown_80 rfl ?_
              refine cl_X6_161 X (cs_X1_resistanceOf l E σ B r N hB hS hR k (by omega) ⟨by omega, by omega⟩) (st1 hB) ⟨Nat.le_of_ble_eq_true rfl, Nat.le_of_ble_eq_true rfl⟩ rfl (Nat.le_of_ble_eq_true rfl) dX6_blowsDown_82 rfl (fun v9 τ10 p11 => ?_)
              obtain ⟨rfl, rfl⟩ := p11
              have hbq : 1 ≤ (if ((k.toNat : Nat) : Int) < r 0 then r (7 + k.toNat) else 2000) ∧ (if ((k.toNat : Nat) : Int) < r 0 then r (7 + k.toNat) else 2000) ≤ 2000 := by split; (have q := hR.2.2.1 k.toNat (by omega); omega); omega
              refine cl_X6_93 X (c_X6_freeSet l E σ B r N hB hS hR e (if ((k.toNat : Nat) : Int) < r 0 then r (7 + k.toNat) else 2000)  (by omega) (by omega) (by omega) (by omega)) hB ⟨Nat.le_of_ble_eq_true rfl, Nat.le_of_ble_eq_true rfl⟩ rfl (Nat.le_of_ble_eq_true rfl) dX6_blowsDown_85 rfl (fun v12 τ13 p14 => ?_)
              obtain ⟨rfl, rfl⟩ := p14
              have fb85 := freeR_bd r e (if ((k.toNat : Nat) : Int) < r 0 then r (7 + k.toNat) else 2000)
              refine g_istore X (lw := [some (rv E (B)), some (iv (a)), some (iv (d)), some (iv (e)), some (iv (f)), some (iv (b)), some (iv (k)), some (iv (d)), some (iv (freeR r e (if ((k.toNat : Nat) : Int) < r 0 then r (7 + k.toNat) else 2000))), none]) dX6_blowsDown_88 (by decide) rfl rfl ?_
              refine g_iload X dX6_blowsDown_90 rfl ?_
              refine g_if_gt X (tgt := 98) dX6_blowsDown_92 (by decide) ⟨by omega, by omega⟩ (fun c15 => ?_) (fun c15 => ?_)
              · skip
                have cs := ceil_spec (a := d - f) (z := (freeR r e (if ((k.toNat : Nat) : Int) < r 0 then r (7 + k.toNat) else 2000))) (by omega) (by omega)
                have ce : (d - f + (freeR r e (if ((k.toNat : Nat) : Int) < r 0 then r (7 + k.toNat) else 2000)) - 1) / (freeR r e (if ((k.toNat : Nat) : Int) < r 0 then r (7 + k.toNat) else 2000)) = (d - f + (freeR r e (if ((k.toNat : Nat) : Int) < r 0 then r (7 + k.toNat) else 2000)) - 1) / (freeR r e (if ((k.toNat : Nat) : Int) < r 0 then r (7 + k.toNat) else 2000)) := rfl
                obtain ⟨q, hq⟩ : ∃ q, q = (d - f + (freeR r e (if ((k.toNat : Nat) : Int) < r 0 then r (7 + k.toNat) else 2000)) - 1) / (freeR r e (if ((k.toNat : Nat) : Int) < r 0 then r (7 + k.toNat) else 2000)) := ⟨_, rfl⟩
                rw [← hq] at cs
                have fr := freeN_run (e := e) (d := d) (z := (freeR r e (if ((k.toNat : Nat) : Int) < r 0 then r (7 + k.toNat) else 2000))) (en := d) hR (k := k.toNat) (by omega) (by omega) rfl (by omega) (by omega) q.toNat fu0 f (by omega) (by rw [show ((q.toNat : Nat) : Int) = q by omega]; omega) (by omega)
                rw [show ((q.toNat : Nat) : Int) = q by omega] at fr
                refine g_iload X dX6_blowsDown_98 rfl ?_
                refine g_iload X dX6_blowsDown_100 rfl ?_
                refine g_isub X dX6_blowsDown_102 ?_
                refine g_iload X dX6_blowsDown_103 rfl ?_
                refine g_iadd X dX6_blowsDown_105 ?_
                refine g_iconst X dX6_blowsDown_106 ?_
                refine g_isub X dX6_blowsDown_107 ?_
                refine g_iload X dX6_blowsDown_108 rfl ?_
                refine g_idiv X dX6_blowsDown_110 (by omega) (by omega) (by omega) (by omega) ?_
                rw [← hq]
                refine g_istore X (lw := [some (rv E (B)), some (iv (a)), some (iv (d)), some (iv (e)), some (iv (f)), some (iv (b)), some (iv (k)), some (iv (d)), some (iv (freeR r e (if ((k.toNat : Nat) : Int) < r 0 then r (7 + k.toNat) else 2000))), some (iv (q))]) dX6_blowsDown_111 (by decide) rfl rfl ?_
                refine g_iload X dX6_blowsDown_113 rfl ?_
                refine g_iload X dX6_blowsDown_115 rfl ?_
                refine g_iadd X dX6_blowsDown_117 ?_
                refine g_istore X (lw := [some (rv E (B)), some (iv (a)), some (iv (d)), some (iv (e)), some (iv (f)), some (iv (b + q)), some (iv (k)), some (iv (d)), some (iv (freeR r e (if ((k.toNat : Nat) : Int) < r 0 then r (7 + k.toNat) else 2000))), some (iv (q))]) dX6_blowsDown_118 (by decide) rfl rfl ?_
                refine g_iload X dX6_blowsDown_120 rfl ?_
                refine g_iload X dX6_blowsDown_122 rfl ?_
                refine g_iload X dX6_blowsDown_124 rfl ?_
                refine g_imul X dX6_blowsDown_126 ?_
                refine g_iadd X dX6_blowsDown_127 ?_
                refine g_istore X (lw := [some (rv E (B)), some (iv (a)), some (iv (d)), some (iv (e)), some (iv (f + (q * (freeR r e (if ((k.toNat : Nat) : Int) < r 0 then r (7 + k.toNat) else 2000))))), some (iv (b + q)), some (iv (k)), some (iv (d)), some (iv (freeR r e (if ((k.toNat : Nat) : Int) < r 0 then r (7 + k.toNat) else 2000))), some (iv (q))]) dX6_blowsDown_128 (by decide) rfl rfl ?_
                refine g_iinc X (lw := [some (rv E (B)), some (iv (a)), some (iv (d)), some (iv (e)), some (iv (f + (q * (freeR r e (if ((k.toNat : Nat) : Int) < r 0 then r (7 + k.toNat) else 2000))))), some (iv (b + q)), some (iv (k + 1)), some (iv (d)), some (iv (freeR r e (if ((k.toNat : Nat) : Int) < r 0 then r (7 + k.toNat) else 2000))), some (iv (q))]) dX6_blowsDown_130 rfl (by decide) rfl rfl ?_
                refine g_goto X (tgt := 16) dX6_blowsDown_133 (by decide) ?_
                refine g_kill X 7 (lw := [some (rv E (B)), some (iv (a)), some (iv (d)), some (iv (e)), some (iv (f + (q * (freeR r e (if ((k.toNat : Nat) : Int) < r 0 then r (7 + k.toNat) else 2000))))), some (iv (b + q)), some (iv (k + 1)), none, some (iv (freeR r e (if ((k.toNat : Nat) : Int) < r 0 then r (7 + k.toNat) else 2000))), some (iv (q))]) rfl ?_
                refine g_kill X 8 (lw := [some (rv E (B)), some (iv (a)), some (iv (d)), some (iv (e)), some (iv (f + (q * (freeR r e (if ((k.toNat : Nat) : Int) < r 0 then r (7 + k.toNat) else 2000))))), some (iv (b + q)), some (iv (k + 1)), none, none, some (iv (q))]) rfl ?_
                refine g_kill X 9 (lw := [some (rv E (B)), some (iv (a)), some (iv (d)), some (iv (e)), some (iv (f + (q * (freeR r e (if ((k.toNat : Nat) : Int) < r 0 then r (7 + k.toNat) else 2000))))), some (iv (b + q)), some (iv (k + 1)), none, none, none]) rfl ?_
                exact ih4 (fu0 - q.toNat) (f + (q * (freeR r e (if ((k.toNat : Nat) : Int) < r 0 then r (7 + k.toNat) else 2000)))) (b + q) (k + 1) (by omega) (by omega) (by omega) (by intro q1 q2; rw [show (k + 1).toNat = k.toNat + 1 by omega]; omega) (by omega) (by omega) (by rw [show fu0 - q.toNat = fu0 - q.toNat from rfl]; exact ⟨j7.1.trans fr.1, fun z => by have z1 := j7.2 z; have z2 := fr.2 (fun y => z (j7.1.mpr y)); omega⟩) (by omega)
              · skip
                refine g_bipush X dX6_blowsDown_95 (by decide) ?_
                exact R _ _ _ _ dX6_blowsDown_97 ⟨congrArg (fun z => some (iv z)) (by rw [j7.1.mpr (freeN_zero hR (k := k.toNat) (by omega) (by omega) (by omega) (by omega) (by omega) (by omega))]), rfl⟩
          · skip
            refine g_iload_n X dX6_blowsDown_46 rfl ?_
            refine g_aload_n X dX6_blowsDown_47 rfl ?_
            refine gf_X6_12 X hB dX6_blowsDown_48 ?_
            refine g_iload X dX6_blowsDown_51 rfl ?_
            refine g_iconst X dX6_blowsDown_53 ?_
            refine g_iadd X dX6_blowsDown_54 ?_
            refine cl_X6_158 X (cs_X1_topOf l E σ B r N hB hS hR (k + 1) (by omega) (by omega)) (st1 hB) ⟨Nat.le_of_ble_eq_true rfl, Nat.le_of_ble_eq_true rfl⟩ rfl (Nat.le_of_ble_eq_true rfl) dX6_blowsDown_55 rfl (fun v16 τ17 p18 => ?_)
            obtain ⟨rfl, rfl⟩ := p18
            have tb := sumT_bd (th := thR r) (M := 20000) (k + 1).toNat (fun j hj => hR.2.1 j (by omega))
            have te : sumT (thR r) (k + 1).toNat = sumT (thR r) (k.toNat + 1) := by rw [show (k + 1).toNat = k.toNat + 1 by omega]
            refine g_min X wL_X6_87 ⟨by omega, by omega⟩ ⟨by omega, by omega⟩ (Nat.le_of_ble_eq_true rfl) (Nat.le_of_ble_eq_true rfl) dX6_blowsDown_58 ?_
            refine g_goto X (tgt := 65) dX6_blowsDown_61 (by decide) ?_
            refine g_istore X (lw := [some (rv E (B)), some (iv (a)), some (iv (d)), some (iv (e)), some (iv (f)), some (iv (b)), some (iv (k)), some (iv (min d (sumT (thR r) (k + 1).toNat))), none, none]) dX6_blowsDown_65 (by decide) rfl rfl ?_
            refine g_iload X dX6_blowsDown_67 rfl ?_
            refine g_iload X dX6_blowsDown_69 rfl ?_
            refine g_icmp_ge X (tgt := 130) dX6_blowsDown_71 (by decide) ⟨by omega, by omega⟩ ⟨by omega, by omega⟩ (fun c19 => ?_) (fun c19 => ?_)
            · skip
              refine g_iinc X (lw := [some (rv E (B)), some (iv (a)), some (iv (d)), some (iv (e)), some (iv (f)), some (iv (b)), some (iv (k + 1)), some (iv (min d (sumT (thR r) (k + 1).toNat))), none, none]) dX6_blowsDown_130 rfl (by decide) rfl rfl ?_
              refine g_goto X (tgt := 16) dX6_blowsDown_133 (by decide) ?_
              refine g_kill X 7 (lw := [some (rv E (B)), some (iv (a)), some (iv (d)), some (iv (e)), some (iv (f)), some (iv (b)), some (iv (k + 1)), none, none, none]) rfl ?_
              exact ih4 fu0 f b (k + 1) (by omega) (by omega) (by omega) (by intro q1 q2; rw [show (k + 1).toNat = k.toNat + 1 by omega]; omega) (by omega) (by omega) (by exact j7) (by omega)
            · skip
              refine g_aload_n X dX6_blowsDown_74 rfl ?_
              refine g_iload_n X dX6_blowsDown_75 rfl ?_
              refine g_aload_n X dX6_blowsDown_76 rfl ?_
              refine gf_X6_12 X hB dX6_blowsDown_77 ?_
              refine g_iload X dX6_blowsDown_80 rfl ?_
              refine cl_X6_161 X (cs_X1_resistanceOf l E σ B r N hB hS hR k (by omega) ⟨by omega, by omega⟩) (st1 hB) ⟨Nat.le_of_ble_eq_true rfl, Nat.le_of_ble_eq_true rfl⟩ rfl (Nat.le_of_ble_eq_true rfl) dX6_blowsDown_82 rfl (fun v20 τ21 p22 => ?_)
              obtain ⟨rfl, rfl⟩ := p22
              have hbq : 1 ≤ (if ((k.toNat : Nat) : Int) < r 0 then r (7 + k.toNat) else 2000) ∧ (if ((k.toNat : Nat) : Int) < r 0 then r (7 + k.toNat) else 2000) ≤ 2000 := by split; (have q := hR.2.2.1 k.toNat (by omega); omega); omega
              refine cl_X6_93 X (c_X6_freeSet l E σ B r N hB hS hR e (if ((k.toNat : Nat) : Int) < r 0 then r (7 + k.toNat) else 2000)  (by omega) (by omega) (by omega) (by omega)) hB ⟨Nat.le_of_ble_eq_true rfl, Nat.le_of_ble_eq_true rfl⟩ rfl (Nat.le_of_ble_eq_true rfl) dX6_blowsDown_85 rfl (fun v23 τ24 p25 => ?_)
              obtain ⟨rfl, rfl⟩ := p25
              have fb85 := freeR_bd r e (if ((k.toNat : Nat) : Int) < r 0 then r (7 + k.toNat) else 2000)
              refine g_istore X (lw := [some (rv E (B)), some (iv (a)), some (iv (d)), some (iv (e)), some (iv (f)), some (iv (b)), some (iv (k)), some (iv (min d (sumT (thR r) (k + 1).toNat))), some (iv (freeR r e (if ((k.toNat : Nat) : Int) < r 0 then r (7 + k.toNat) else 2000))), none]) dX6_blowsDown_88 (by decide) rfl rfl ?_
              refine g_iload X dX6_blowsDown_90 rfl ?_
              refine g_if_gt X (tgt := 98) dX6_blowsDown_92 (by decide) ⟨by omega, by omega⟩ (fun c26 => ?_) (fun c26 => ?_)
              · skip
                have cs := ceil_spec (a := min d (sumT (thR r) (k + 1).toNat) - f) (z := (freeR r e (if ((k.toNat : Nat) : Int) < r 0 then r (7 + k.toNat) else 2000))) (by omega) (by omega)
                have ce : (min d (sumT (thR r) (k + 1).toNat) - f + (freeR r e (if ((k.toNat : Nat) : Int) < r 0 then r (7 + k.toNat) else 2000)) - 1) / (freeR r e (if ((k.toNat : Nat) : Int) < r 0 then r (7 + k.toNat) else 2000)) = (min d (sumT (thR r) (k + 1).toNat) - f + (freeR r e (if ((k.toNat : Nat) : Int) < r 0 then r (7 + k.toNat) else 2000)) - 1) / (freeR r e (if ((k.toNat : Nat) : Int) < r 0 then r (7 + k.toNat) else 2000)) := rfl
                obtain ⟨q, hq⟩ : ∃ q, q = (min d (sumT (thR r) (k + 1).toNat) - f + (freeR r e (if ((k.toNat : Nat) : Int) < r 0 then r (7 + k.toNat) else 2000)) - 1) / (freeR r e (if ((k.toNat : Nat) : Int) < r 0 then r (7 + k.toNat) else 2000)) := ⟨_, rfl⟩
                rw [← hq] at cs
                have fr := freeN_run (e := e) (d := d) (z := (freeR r e (if ((k.toNat : Nat) : Int) < r 0 then r (7 + k.toNat) else 2000))) (en := min d (sumT (thR r) (k + 1).toNat)) hR (k := k.toNat) (by omega) (by omega) rfl (by omega) (by omega) q.toNat fu0 f (by omega) (by rw [show ((q.toNat : Nat) : Int) = q by omega]; omega) (by omega)
                rw [show ((q.toNat : Nat) : Int) = q by omega] at fr
                refine g_iload X dX6_blowsDown_98 rfl ?_
                refine g_iload X dX6_blowsDown_100 rfl ?_
                refine g_isub X dX6_blowsDown_102 ?_
                refine g_iload X dX6_blowsDown_103 rfl ?_
                refine g_iadd X dX6_blowsDown_105 ?_
                refine g_iconst X dX6_blowsDown_106 ?_
                refine g_isub X dX6_blowsDown_107 ?_
                refine g_iload X dX6_blowsDown_108 rfl ?_
                refine g_idiv X dX6_blowsDown_110 (by omega) (by omega) (by omega) (by omega) ?_
                rw [← hq]
                refine g_istore X (lw := [some (rv E (B)), some (iv (a)), some (iv (d)), some (iv (e)), some (iv (f)), some (iv (b)), some (iv (k)), some (iv (min d (sumT (thR r) (k + 1).toNat))), some (iv (freeR r e (if ((k.toNat : Nat) : Int) < r 0 then r (7 + k.toNat) else 2000))), some (iv (q))]) dX6_blowsDown_111 (by decide) rfl rfl ?_
                refine g_iload X dX6_blowsDown_113 rfl ?_
                refine g_iload X dX6_blowsDown_115 rfl ?_
                refine g_iadd X dX6_blowsDown_117 ?_
                refine g_istore X (lw := [some (rv E (B)), some (iv (a)), some (iv (d)), some (iv (e)), some (iv (f)), some (iv (b + q)), some (iv (k)), some (iv (min d (sumT (thR r) (k + 1).toNat))), some (iv (freeR r e (if ((k.toNat : Nat) : Int) < r 0 then r (7 + k.toNat) else 2000))), some (iv (q))]) dX6_blowsDown_118 (by decide) rfl rfl ?_
                refine g_iload X dX6_blowsDown_120 rfl ?_
                refine g_iload X dX6_blowsDown_122 rfl ?_
                refine g_iload X dX6_blowsDown_124 rfl ?_
                refine g_imul X dX6_blowsDown_126 ?_
                refine g_iadd X dX6_blowsDown_127 ?_
                refine g_istore X (lw := [some (rv E (B)), some (iv (a)), some (iv (d)), some (iv (e)), some (iv (f + (q * (freeR r e (if ((k.toNat : Nat) : Int) < r 0 then r (7 + k.toNat) else 2000))))), some (iv (b + q)), some (iv (k)), some (iv (min d (sumT (thR r) (k + 1).toNat))), some (iv (freeR r e (if ((k.toNat : Nat) : Int) < r 0 then r (7 + k.toNat) else 2000))), some (iv (q))]) dX6_blowsDown_128 (by decide) rfl rfl ?_
                refine g_iinc X (lw := [some (rv E (B)), some (iv (a)), some (iv (d)), some (iv (e)), some (iv (f + (q * (freeR r e (if ((k.toNat : Nat) : Int) < r 0 then r (7 + k.toNat) else 2000))))), some (iv (b + q)), some (iv (k + 1)), some (iv (min d (sumT (thR r) (k + 1).toNat))), some (iv (freeR r e (if ((k.toNat : Nat) : Int) < r 0 then r (7 + k.toNat) else 2000))), some (iv (q))]) dX6_blowsDown_130 rfl (by decide) rfl rfl ?_
                refine g_goto X (tgt := 16) dX6_blowsDown_133 (by decide) ?_
                refine g_kill X 7 (lw := [some (rv E (B)), some (iv (a)), some (iv (d)), some (iv (e)), some (iv (f + (q * (freeR r e (if ((k.toNat : Nat) : Int) < r 0 then r (7 + k.toNat) else 2000))))), some (iv (b + q)), some (iv (k + 1)), none, some (iv (freeR r e (if ((k.toNat : Nat) : Int) < r 0 then r (7 + k.toNat) else 2000))), some (iv (q))]) rfl ?_
                refine g_kill X 8 (lw := [some (rv E (B)), some (iv (a)), some (iv (d)), some (iv (e)), some (iv (f + (q * (freeR r e (if ((k.toNat : Nat) : Int) < r 0 then r (7 + k.toNat) else 2000))))), some (iv (b + q)), some (iv (k + 1)), none, none, some (iv (q))]) rfl ?_
                refine g_kill X 9 (lw := [some (rv E (B)), some (iv (a)), some (iv (d)), some (iv (e)), some (iv (f + (q * (freeR r e (if ((k.toNat : Nat) : Int) < r 0 then r (7 + k.toNat) else 2000))))), some (iv (b + q)), some (iv (k + 1)), none, none, none]) rfl ?_
                exact ih4 (fu0 - q.toNat) (f + (q * (freeR r e (if ((k.toNat : Nat) : Int) < r 0 then r (7 + k.toNat) else 2000)))) (b + q) (k + 1) (by omega) (by omega) (by omega) (by intro q1 q2; rw [show (k + 1).toNat = k.toNat + 1 by omega]; omega) (by omega) (by omega) (by rw [show fu0 - q.toNat = fu0 - q.toNat from rfl]; exact ⟨j7.1.trans fr.1, fun z => by have z1 := j7.2 z; have z2 := fr.2 (fun y => z (j7.1.mpr y)); omega⟩) (by omega)
              · skip
                refine g_bipush X dX6_blowsDown_95 (by decide) ?_
                exact R _ _ _ _ dX6_blowsDown_97 ⟨congrArg (fun z => some (iv z)) (by rw [j7.1.mpr (freeN_zero hR (k := k.toNat) (by omega) (by omega) (by omega) (by omega) (by omega) (by omega))]), rfl⟩
  exact L4 _ 50000 a 0 (((layR r a : Nat) : Int)) (by omega) (by omega) (by omega) (by intro _ _; rw [Int.toNat_natCast]; exact (layR_spec hR (by omega)).1) (by omega) (by omega) (by exact ⟨Iff.rfl, fun _ => by omega⟩) (by exact Int.lt_toNat_succ _)
set_option maxHeartbeats 1000000 in
set_option maxRecDepth 100000 in
theorem c_X7_blowsTo (l : Launch) (E : wEnv) (σ : Mem) (s : St) (N : Int) (hC : CRep σ s N) (hN : N + 600 ≤ 400000) (p h d : Int) (hp : I32 p) (hh : I32 h) (hd : I32 d) : MetC l E yX7_blowsTo cX7_blowsTo 5 (some .int) 3 72 [rv E (0), iv (p), iv (h), iv (d)] σ (fun v σ' => v = some (iv (blowsToX s p h d)) ∧ σ = σ') := by
  refine MetC.of (own := RX7) (by decide) rfl (by simp [Value.category]) (Nat.le_of_ble_eq_true rfl) [some (rv E (0)), some (iv (p)), some (iv (h)), some (iv (d)), none] rfl (by simp) (fun K X R => ?_)
  have hS := hC.1
  have hR := hC.2.1
  have hH := hC.2.2.1
  have hI := hC.2.2.2.1
  have hT := hC.2.2.2.2
  have r19 := hR.2.2.2.2.1
  have r0 := hR.1
  have rN := hR.2.2.2.2.2.1
  refine g_aload_n X dX7_blowsTo_0 rfl ?_
  refine gf_X7_10 X fk0 dX7_blowsTo_1 ?_
  refine g_iload_n X dX7_blowsTo_4 rfl ?_
  refine cl_X7_151 X (c_X6_pileAt l E σ 25 s.1 N now_k hS hR p ⟨by omega, by omega⟩) now_k ⟨Nat.le_of_ble_eq_true rfl, Nat.le_of_ble_eq_true rfl⟩ rfl (Nat.le_of_ble_eq_true rfl) dX7_blowsTo_5 rfl (fun v1 τ2 p3 => ?_)
  obtain ⟨rfl, ⟨b4, rfl⟩ | ⟨b4, rfl⟩⟩ := p3
  · skip
    have hp5 := (hS.2.2.2.2.2.2 (p).toNat (by omega))
    have hf5 := hp5.f
    have hi5 := hR.2.2.2.2.2.2 (p).toNat (by omega)
    have hj5 := hi5.f
    refine g_astore X (lw := [some (rv E (0)), some (iv (p)), some (iv (h)), some (iv (d)), some (rv E ((25 + 5 + 1 + 3 * (p).toNat)))]) dX7_blowsTo_8 (by decide) rfl rfl ?_
    refine g_aload X dX7_blowsTo_10 rfl ?_
    refine g_ifnull X dX7_blowsTo_12 ?_
    refine g_iload_n X dX7_blowsTo_15 rfl ?_
    refine cl_X7_199 X (c_X7_isFall l E σ h ⟨by omega, by omega⟩) ⟨Nat.le_of_ble_eq_true rfl, Nat.le_of_ble_eq_true rfl⟩ rfl (Nat.le_of_ble_eq_true rfl) dX7_blowsTo_16 rfl (fun v5 τ6 p7 => ?_)
    obtain ⟨rfl, ⟨b8, rfl⟩ | ⟨b8, rfl⟩⟩ := p7
    · skip
      skip
      refine g_if_eq X (tgt := 32) dX7_blowsTo_19 (by decide) ⟨by decide, by decide⟩ (fun q => absurd q (by decide)) (fun _ => ?_)
      refine g_iload_n X dX7_blowsTo_22 rfl ?_
      refine g_iconst X dX7_blowsTo_23 ?_
      refine g_ldc X (n := 50000) dX7_blowsTo_24 wK_X7_142 (by decide) ?_
      refine cl_X7_54 X (c_X7_inRange l E σ d 0 50000 ⟨by omega, by omega⟩ ⟨by decide, by decide⟩ ⟨by decide, by decide⟩) ⟨Nat.le_of_ble_eq_true rfl, Nat.le_of_ble_eq_true rfl⟩ rfl (Nat.le_of_ble_eq_true rfl) dX7_blowsTo_26 rfl (fun v9 τ10 p11 => ?_)
      obtain ⟨rfl, ⟨b12, rfl⟩ | ⟨b12, rfl⟩⟩ := p11
      · skip
        skip
        refine g_if_ne X (tgt := 34) dX7_blowsTo_29 (by decide) ⟨by decide, by decide⟩ (fun _ => ?_) (fun q => absurd q (by decide))
        refine g_aload X dX7_blowsTo_34 rfl ?_
        refine gf_X7_163 X (stP now_k (p).toNat (by omega)) ((hS.2.2.2.2.2.2 (p).toNat (by omega)).f.2.2.2.1) dX7_blowsTo_36 ?_
        refine g_iload_n X dX7_blowsTo_39 rfl ?_
        refine g_icmp_ge X (tgt := 46) dX7_blowsTo_40 (by decide) ⟨by omega, by omega⟩ ⟨by omega, by omega⟩ (fun c13 => ?_) (fun c13 => ?_)
        · skip
          refine g_aload_n X dX7_blowsTo_46 rfl ?_
          refine gf_X7_10 X fk0 dX7_blowsTo_47 ?_
          refine g_aload X dX7_blowsTo_50 rfl ?_
          refine gf_X7_164 X (stP now_k (p).toNat (by omega)) ((hS.2.2.2.2.2.2 (p).toNat (by omega)).f.2.2.2.2.1) dX7_blowsTo_52 ?_
          refine g_iload_n X dX7_blowsTo_55 rfl ?_
          refine g_aload_n X dX7_blowsTo_56 rfl ?_
          refine gf_X7_10 X fk0 dX7_blowsTo_57 ?_
          refine g_iload_n X dX7_blowsTo_60 rfl ?_
          refine cl_X7_209 X (c_X6_energyOf l E σ 25 s.1 N now_k hS hR h  (by omega) (by omega)) now_k ⟨Nat.le_of_ble_eq_true rfl, Nat.le_of_ble_eq_true rfl⟩ rfl (Nat.le_of_ble_eq_true rfl) dX7_blowsTo_61 rfl (fun v14 τ15 p16 => ?_)
          obtain ⟨rfl, rfl⟩ := p16
          have eb61 := (energyR_bd hR (h := h) (by omega) (by omega)).2.2
          refine cl_X7_215 X (c_X6_blowsDown l E σ 25 s.1 N now_k hS hR (s.1 (24 + 91 * (p).toNat + 3)) d (energyR s.1 h)  (by omega) (by omega) (by omega)) now_k ⟨Nat.le_of_ble_eq_true rfl, Nat.le_of_ble_eq_true rfl⟩ rfl (Nat.le_of_ble_eq_true rfl) dX7_blowsTo_64 rfl (fun v17 τ18 p19 => ?_)
          obtain ⟨rfl, rfl⟩ := p19
          exact R _ _ _ _ dX7_blowsTo_67 ⟨congrArg (fun z => some (iv z)) (by first | (exfalso; omega) | (unfold blowsToX; rw [if_neg (by omega)]; done) | (unfold blowsToX; rw [if_pos (by omega)]; first | exact (blowsN_free (by omega) _ _).symm | exact (blowsN_short (by omega) _ _ (by omega)).symm)), rfl⟩
        · skip
          refine g_bipush X dX7_blowsTo_43 (by decide) ?_
          exact R _ _ _ _ dX7_blowsTo_45 ⟨congrArg (fun z => some (iv z)) (by first | (exfalso; omega) | (unfold blowsToX; rw [if_neg (by omega)]; done) | (unfold blowsToX; rw [if_pos (by omega)]; first | exact (blowsN_free (by omega) _ _).symm | exact (blowsN_short (by omega) _ _ (by omega)).symm)), rfl⟩
      · skip
        skip
        refine g_if_ne X (tgt := 34) dX7_blowsTo_29 (by decide) ⟨by decide, by decide⟩ (fun q => absurd q (by decide)) (fun _ => ?_)
        refine g_iconst X dX7_blowsTo_32 ?_
        exact R _ _ _ _ dX7_blowsTo_33 ⟨congrArg (fun z => some (iv z)) (by first | (exfalso; omega) | (unfold blowsToX; rw [if_neg (by omega)]; done) | (unfold blowsToX; rw [if_pos (by omega)]; first | exact (blowsN_free (by omega) _ _).symm | exact (blowsN_short (by omega) _ _ (by omega)).symm)), rfl⟩
    · skip
      skip
      refine g_if_eq X (tgt := 32) dX7_blowsTo_19 (by decide) ⟨by decide, by decide⟩ (fun _ => ?_) (fun q => absurd q (by decide))
      refine g_iconst X dX7_blowsTo_32 ?_
      exact R _ _ _ _ dX7_blowsTo_33 ⟨congrArg (fun z => some (iv z)) (by first | (exfalso; omega) | (unfold blowsToX; rw [if_neg (by omega)]; done) | (unfold blowsToX; rw [if_pos (by omega)]; first | exact (blowsN_free (by omega) _ _).symm | exact (blowsN_short (by omega) _ _ (by omega)).symm)), rfl⟩
  · skip
    refine g_astoreN X (lw := [some (rv E (0)), some (iv (p)), some (iv (h)), some (iv (d)), some (Value.null)]) dX7_blowsTo_8 (by decide) rfl rfl ?_
    refine g_aloadN X dX7_blowsTo_10 rfl ?_
    refine g_ifnullN X (tgt := 32) dX7_blowsTo_12 (by decide) ?_
    refine g_iconst X dX7_blowsTo_32 ?_
    exact R _ _ _ _ dX7_blowsTo_33 ⟨congrArg (fun z => some (iv z)) (by first | (exfalso; omega) | (unfold blowsToX; rw [if_neg (by omega)]; done) | (unfold blowsToX; rw [if_pos (by omega)]; first | exact (blowsN_free (by omega) _ _).symm | exact (blowsN_short (by omega) _ _ (by omega)).symm)), rfl⟩
