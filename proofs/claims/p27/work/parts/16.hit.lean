/-! ===== contracts: blows ===== -/
set_option maxHeartbeats 1000000 in
set_option maxRecDepth 100000 in
theorem c_X6_liftOthers (l : Launch) (E : wEnv) (σ : Mem) (B : Nat) (r : Row) (N : Int) (hB : isK 8 B) (hS : SRep σ B r) (hR : RInv r (N + 1)) (h22 : r 22 ≤ 2250 * N) (p : Nat) (z : Int) (hp : (p : Int) < r 19) (hz0 : 0 ≤ z) (hz1 : z ≤ 250) : MetC l E yX6_liftOthers cX6_liftOthers 6 none 2 44 [rv E (B), rv E ((B + 5 + 1 + 3 * p)), iv (z)] σ (fun v σ' => v = none ∧ SRep σ' B (liftsR r p z (r 19).toNat) ∧ frB σ σ' B) := by
  refine MetC.of (own := RX6) (by decide) rfl (by simp [Value.category]) (Nat.le_of_ble_eq_true rfl) [some (rv E (B)), some (rv E ((B + 5 + 1 + 3 * p))), some (iv (z)), none, none, none] rfl (by simp) (fun K X R => ?_)
  have r19 := hR.2.2.2.2.1
  refine g_iconst X dX6_liftOthers_0 ?_
  refine g_istore_n X (lw := [some (rv E (B)), some (rv E ((B + 5 + 1 + 3 * p))), some (iv (z)), some (iv (0)), none, none]) dX6_liftOthers_1 (by decide) rfl rfl ?_
  have L1 : ∀ (fu : Nat) (τ : Mem) (i : Int), (0 ≤ i) → (i ≤ r 19) → (SRep τ B (liftsR r p z i.toNat)) → (frB σ τ B) → r 19 - i < (fu : Int) → K τ 2 [some (rv E (B)), some (rv E ((B + 5 + 1 + 3 * p))), some (iv (z)), some (iv (i)), none, none] [] := by
    intro fu
    induction fu with
    | zero =>
      intro τ i j1 j2 j4 j5 hm
      exact absurd hm (by omega)
    | succ fu ih1 =>
      intro τ i j1 j2 j4 j5 hm
      have hl := lifts_inv hR h22 hp hz0 hz1 i.toNat (by omega)
      have hl19 := hl.2.1
      have hlq := hl.1.2.2.2.2.1
      have hpp := (hl.1.2.2.2.2.2.2 p (by omega)).f
      refine g_iload_n X dX6_liftOthers_2 rfl ?_
      refine g_aload_n X dX6_liftOthers_3 rfl ?_
      refine gf_X6_37 X hB (j4.2.2.2.2.1) dX6_liftOthers_4 ?_
      refine g_icmp_ge X (tgt := 72) dX6_liftOthers_7 (by decide) ⟨by omega, by omega⟩ ⟨by omega, by omega⟩ (fun c2 => ?_) (fun c2 => ?_)
      · skip
        exact R _ _ _ dX6_liftOthers_72 ⟨rfl, by rw [show (r 19).toNat = i.toNat by omega]; exact ⟨j4, j5⟩⟩
      · skip
        refine g_aload_n X dX6_liftOthers_10 rfl ?_
        refine g_iload_n X dX6_liftOthers_11 rfl ?_
        refine cl_X6_41 X (cs_X6_pileAt l E τ B (liftsR r p z i.toNat) (N + 1) hB j4 hl.1 i (by omega) (by omega)) hB ⟨Nat.le_of_ble_eq_true rfl, Nat.le_of_ble_eq_true rfl⟩ rfl (Nat.le_of_ble_eq_true rfl) dX6_liftOthers_12 rfl (fun v3 τ4 p5 => ?_)
        obtain ⟨rfl, rfl⟩ := p5
        have hp12 := (j4.2.2.2.2.2.2 (i).toNat (by omega))
        have hf12 := hp12.f
        have hi12 := hl.1.2.2.2.2.2.2 (i).toNat (by omega)
        have hj12 := hi12.f
        refine g_astore X (lw := [some (rv E (B)), some (rv E ((B + 5 + 1 + 3 * p))), some (iv (z)), some (iv (i)), some (rv E ((B + 5 + 1 + 3 * (i).toNat))), none]) dX6_liftOthers_15 (by decide) rfl rfl ?_
        refine g_aload X dX6_liftOthers_17 rfl ?_
        refine g_ifnull X dX6_liftOthers_19 ?_
        refine g_aload_n X dX6_liftOthers_22 rfl ?_
        refine g_aload_n X dX6_liftOthers_23 rfl ?_
        refine g_aload X dX6_liftOthers_24 rfl ?_
        refine cl_X6_77 X (c_X6_areNear l E τ B (liftsR r p z i.toNat) (N + 1) hB j4 hl.1 p ((i).toNat) (by omega) (by omega) ) hB ⟨Nat.le_of_ble_eq_true rfl, Nat.le_of_ble_eq_true rfl⟩ rfl (Nat.le_of_ble_eq_true rfl) dX6_liftOthers_26 rfl (fun v6 τ7 p8 => ?_)
        obtain ⟨rfl, ⟨b9, rfl⟩ | ⟨b9, rfl⟩⟩ := p8
        · skip
          skip
          refine g_if_eq X (tgt := 66) dX6_liftOthers_29 (by decide) ⟨by decide, by decide⟩ (fun q => absurd q (by decide)) (fun _ => ?_)
          refine g_aload X dX6_liftOthers_32 rfl ?_
          refine gf_X6_55 X (stP hB (i).toNat (by omega)) ((j4.2.2.2.2.2.2 (i).toNat (by omega)).f.2.2.2.2.1) dX6_liftOthers_34 ?_
          refine g_aload_n X dX6_liftOthers_37 rfl ?_
          refine gf_X6_55 X (stP hB p (by omega)) ((j4.2.2.2.2.2.2 p (by omega)).f.2.2.2.2.1) dX6_liftOthers_38 ?_
          refine g_iload_n X dX6_liftOthers_41 rfl ?_
          refine cl_X6_137 X (c_X7_liftOf l E τ ((liftsR r p z i.toNat) (24 + 91 * (i).toNat + 3)) ((liftsR r p z i.toNat) (24 + 91 * p + 3)) z ⟨by omega, by omega⟩ ⟨by omega, by omega⟩ ⟨by omega, by omega⟩) ⟨Nat.le_of_ble_eq_true rfl, Nat.le_of_ble_eq_true rfl⟩ rfl (Nat.le_of_ble_eq_true rfl) dX6_liftOthers_42 rfl (fun v10 τ11 p12 => ?_)
          obtain ⟨rfl, rfl⟩ := p12
          refine g_istore X (lw := [some (rv E (B)), some (rv E ((B + 5 + 1 + 3 * p))), some (iv (z)), some (iv (i)), some (rv E ((B + 5 + 1 + 3 * (i).toNat))), some (iv (if 0 < (liftsR r p z i.toNat) (24 + 91 * (i).toNat + 3) ∧ (liftsR r p z i.toNat) (24 + 91 * (i).toNat + 3) < (liftsR r p z i.toNat) (24 + 91 * p + 3) then min ((liftsR r p z i.toNat) (24 + 91 * (i).toNat + 3)) z else 0))]) dX6_liftOthers_45 (by decide) rfl rfl ?_
          refine g_aload X dX6_liftOthers_47 rfl ?_
          refine g_iload X dX6_liftOthers_49 rfl ?_
          refine cl_X6_140 X (c_X4_takeLift l E τ ((B + 5 + 1 + 3 * (i).toNat)) (if 0 < (liftsR r p z i.toNat) (24 + 91 * (i).toNat + 3) ∧ (liftsR r p z i.toNat) (24 + 91 * (i).toNat + 3) < (liftsR r p z i.toNat) (24 + 91 * p + 3) then min ((liftsR r p z i.toNat) (24 + 91 * (i).toNat + 3)) z else 0) (stP hB (i).toNat (by omega)) ⟨by omega, by omega⟩) (stP hB (i).toNat (by omega)) ⟨Nat.le_of_ble_eq_true rfl, Nat.le_of_ble_eq_true rfl⟩ rfl (Nat.le_of_ble_eq_true rfl) dX6_liftOthers_51 rfl (fun v13 τ14 p15 => ?_)
          obtain ⟨rfl, rfl⟩ := p15
          refine g_aload_n X dX6_liftOthers_54 rfl ?_
          refine g_dup X dX6_liftOthers_55 rfl ?_
          refine gf_X6_144 X hB (mLift_ne (by omega) (j4.2.2.2.2.2.1.2.2.2.2.1)) dX6_liftOthers_56 ?_
          refine g_iload X dX6_liftOthers_59 rfl ?_
          refine g_i2l X dX6_liftOthers_61 ⟨by omega, by omega⟩ ?_
          refine g_ladd X dX6_liftOthers_62 ?_
          refine pf_X6_144 X hB dX6_liftOthers_63 ?_
          refine g_iinc X (lw := [some (rv E (B)), some (rv E ((B + 5 + 1 + 3 * p))), some (iv (z)), some (iv (i + 1)), some (rv E ((B + 5 + 1 + 3 * (i).toNat))), some (iv (if 0 < (liftsR r p z i.toNat) (24 + 91 * (i).toNat + 3) ∧ (liftsR r p z i.toNat) (24 + 91 * (i).toNat + 3) < (liftsR r p z i.toNat) (24 + 91 * p + 3) then min ((liftsR r p z i.toNat) (24 + 91 * (i).toNat + 3)) z else 0))]) dX6_liftOthers_66 rfl (by decide) rfl rfl ?_
          refine g_goto X (tgt := 2) dX6_liftOthers_69 (by decide) ?_
          refine g_kill X 4 (lw := [some (rv E (B)), some (rv E ((B + 5 + 1 + 3 * p))), some (iv (z)), some (iv (i + 1)), none, some (iv (if 0 < (liftsR r p z i.toNat) (24 + 91 * (i).toNat + 3) ∧ (liftsR r p z i.toNat) (24 + 91 * (i).toNat + 3) < (liftsR r p z i.toNat) (24 + 91 * p + 3) then min ((liftsR r p z i.toNat) (24 + 91 * (i).toNat + 3)) z else 0))]) rfl ?_
          refine g_kill X 5 (lw := [some (rv E (B)), some (rv E ((B + 5 + 1 + 3 * p))), some (iv (z)), some (iv (i + 1)), none, none]) rfl ?_
          exact ih1 (up (mLift τ ((B + 5 + 1 + 3 * (i).toNat)) (if 0 < (liftsR r p z i.toNat) (24 + 91 * (i).toNat + 3) ∧ (liftsR r p z i.toNat) (24 + 91 * (i).toNat + 3) < (liftsR r p z i.toNat) (24 + 91 * p + 3) then min ((liftsR r p z i.toNat) (24 + 91 * (i).toNat + 3)) z else 0)) B 8 (((liftsR r p z i.toNat) 22) + (if 0 < (liftsR r p z i.toNat) (24 + 91 * (i).toNat + 3) ∧ (liftsR r p z i.toNat) (24 + 91 * (i).toNat + 3) < (liftsR r p z i.toNat) (24 + 91 * p + 3) then min ((liftsR r p z i.toNat) (24 + 91 * (i).toNat + 3)) z else 0)))  (i + 1) (by omega) (by omega) (by rw [show (i + 1).toNat = i.toNat + 1 by omega]; exact lifts_near (by assumption) j4 hl.1 (by omega) hz0) (by exact (j5.lift (by omega)).up (by omega) (by omega)) (by omega)
        · skip
          skip
          refine g_if_eq X (tgt := 66) dX6_liftOthers_29 (by decide) ⟨by decide, by decide⟩ (fun _ => ?_) (fun q => absurd q (by decide))
          refine g_iinc X (lw := [some (rv E (B)), some (rv E ((B + 5 + 1 + 3 * p))), some (iv (z)), some (iv (i + 1)), some (rv E ((B + 5 + 1 + 3 * (i).toNat))), none]) dX6_liftOthers_66 rfl (by decide) rfl rfl ?_
          refine g_goto X (tgt := 2) dX6_liftOthers_69 (by decide) ?_
          refine g_kill X 4 (lw := [some (rv E (B)), some (rv E ((B + 5 + 1 + 3 * p))), some (iv (z)), some (iv (i + 1)), none, none]) rfl ?_
          exact ih1 τ  (i + 1) (by omega) (by omega) (by rw [show (i + 1).toNat = i.toNat + 1 by omega]; rw [lifts_far (by assumption)]; exact j4) (by exact j5) (by omega)
  exact L1 _ σ  0 (by omega) (by omega) (by exact hS) (by exact frB.refl) (by exact Int.lt_toNat_succ _)
set_option maxHeartbeats 1000000 in
set_option maxRecDepth 100000 in
theorem c_X6_hit (l : Launch) (E : wEnv) (σ : Mem) (B : Nat) (r : Row) (N : Int) (hB : isK 8 B) (hS : SRep σ B r) (hR : RInv r N) (hN : N < 400000) (i : Nat) (h : Int) (hi : (i : Int) < r 19) (h0 : 0 ≤ h) (h1 : h ≤ 3000) : MetC l E yX6_hit cX6_hit 6 (some .int) 3 104 [rv E (B), rv E ((B + 5 + 1 + 3 * i)), iv (h)] σ (fun v σ' => v = some (iv (blowS r i h)) ∧ SRep σ' B (hitR r i h) ∧ frB σ σ' B) := by
  refine MetC.of (own := RX6) (by decide) rfl (by simp [Value.category]) (Nat.le_of_ble_eq_true rfl) [some (rv E (B)), some (rv E ((B + 5 + 1 + 3 * i))), some (iv (h)), none, none, none] rfl (by simp) (fun K X R => ?_)
  have s3 := hS.2.2.2.2.1
  have r19 := hR.2.2.2.2.1
  have r0 := hR.1
  have hpx := hS.2.2.2.2.2.2 i hi
  have hfx := hpx.f
  have hix := hR.2.2.2.2.2.2 i hi
  have hjx := hix.f
  refine g_aload_n X dX6_hit_0 rfl ?_
  refine g_iload_n X dX6_hit_1 rfl ?_
  refine cl_X6_100 X (c_X6_energyOf l E σ B r N hB hS hR h  (by omega) (by omega)) hB ⟨Nat.le_of_ble_eq_true rfl, Nat.le_of_ble_eq_true rfl⟩ rfl (Nat.le_of_ble_eq_true rfl) dX6_hit_2 rfl (fun v1 τ2 p3 => ?_)
  obtain ⟨rfl, rfl⟩ := p3
  have eb2 := (energyR_bd hR (h := h) (by omega) (by omega)).2.2
  refine g_istore_n X (lw := [some (rv E (B)), some (rv E ((B + 5 + 1 + 3 * i))), some (iv (h)), some (iv (energyR r h)), none, none]) dX6_hit_5 (by decide) rfl rfl ?_
  refine g_aload_n X dX6_hit_6 rfl ?_
  refine gf_X6_12 X hB dX6_hit_7 ?_
  refine g_aload_n X dX6_hit_10 rfl ?_
  refine gf_X6_55 X (stP hB i (by omega)) ((hS.2.2.2.2.2.2 i (by omega)).f.2.2.2.2.1) dX6_hit_11 ?_
  refine cl_X6_90 X (cs_X1_resistanceAt l E σ B r N hB hS hR (r (24 + 91 * i + 3)) ⟨by omega, by omega⟩) (st1 hB) ⟨Nat.le_of_ble_eq_true rfl, Nat.le_of_ble_eq_true rfl⟩ rfl (Nat.le_of_ble_eq_true rfl) dX6_hit_14 rfl (fun v4 τ5 p6 => ?_)
  obtain ⟨rfl, rfl⟩ := p6
  have hb14 := hardR_bd hR (r (24 + 91 * i + 3))
  refine g_istore X (lw := [some (rv E (B)), some (rv E ((B + 5 + 1 + 3 * i))), some (iv (h)), some (iv (energyR r h)), some (iv (hardR r (r (24 + 91 * i + 3)))), none]) dX6_hit_17 (by decide) rfl rfl ?_
  refine g_aload_n X dX6_hit_19 rfl ?_
  refine g_iload_n X dX6_hit_20 rfl ?_
  refine g_aload_n X dX6_hit_21 rfl ?_
  refine gf_X6_55 X (stP hB i (by omega)) ((hS.2.2.2.2.2.2 i (by omega)).f.2.2.2.2.1) dX6_hit_22 ?_
  refine g_aload_n X dX6_hit_25 rfl ?_
  refine gf_X6_103 X (stP hB i (by omega)) ((hS.2.2.2.2.2.2 i (by omega)).f.2.2.2.1) dX6_hit_26 ?_
  refine cl_X6_106 X (c_X6_setOf l E σ B r N hB hS hR (energyR r h) (r (24 + 91 * i + 3)) (r (24 + 91 * i + 2))  (by omega) (by omega) (by omega) (by omega) (by omega)) hB ⟨Nat.le_of_ble_eq_true rfl, Nat.le_of_ble_eq_true rfl⟩ rfl (Nat.le_of_ble_eq_true rfl) dX6_hit_29 rfl (fun v7 τ8 p9 => ?_)
  obtain ⟨rfl, rfl⟩ := p9
  have sb29 := setR_bd r (energyR r h) (r (24 + 91 * i + 3)) (r (24 + 91 * i + 2)) (by omega)
  refine g_istore X (lw := [some (rv E (B)), some (rv E ((B + 5 + 1 + 3 * i))), some (iv (h)), some (iv (energyR r h)), some (iv (hardR r (r (24 + 91 * i + 3)))), some (iv (setR r (energyR r h) (r (24 + 91 * i + 3)) (r (24 + 91 * i + 2))))]) dX6_hit_32 (by decide) rfl rfl ?_
  refine g_aload_n X dX6_hit_34 rfl ?_
  refine g_iload X dX6_hit_35 rfl ?_
  refine g_aload_n X dX6_hit_37 rfl ?_
  refine g_iload_n X dX6_hit_38 rfl ?_
  refine g_iload X dX6_hit_39 rfl ?_
  refine cl_X6_110 X (c_X6_loadOf l E σ B r N hB hS hR (energyR r h) (setR r (energyR r h) (r (24 + 91 * i + 3)) (r (24 + 91 * i + 2)))  (by omega) (by omega) (by omega) (by omega)) hB ⟨Nat.le_of_ble_eq_true rfl, Nat.le_of_ble_eq_true rfl⟩ rfl (Nat.le_of_ble_eq_true rfl) dX6_hit_41 rfl (fun v10 τ11 p12 => ?_)
  obtain ⟨rfl, rfl⟩ := p12
  refine cl_X6_113 X (c_X4_takeBlow l E σ ((B + 5 + 1 + 3 * i)) (setR r (energyR r h) (r (24 + 91 * i + 3)) (r (24 + 91 * i + 2))) (loadR r (energyR r h) (setR r (energyR r h) (r (24 + 91 * i + 3)) (r (24 + 91 * i + 2)))) (stP hB i (by omega)) (by rw [hfx.1]; omega) (by rw [hfx.1]; omega)) (stP hB i (by omega)) ⟨Nat.le_of_ble_eq_true rfl, Nat.le_of_ble_eq_true rfl⟩ rfl (Nat.le_of_ble_eq_true rfl) dX6_hit_44 rfl (fun v13 τ14 p15 => ?_)
  obtain ⟨rfl, rfl⟩ := p15
  refine g_aload_n X dX6_hit_47 rfl ?_
  refine g_dup X dX6_hit_48 rfl ?_
  refine gf_X6_117 X hB (mBlow_ne (by omega) (by omega) (by omega) (hS.2.2.2.2.2.1.1)) dX6_hit_49 ?_
  refine g_lconst X (z := 1) rfl dX6_hit_52 ?_
  refine g_ladd X dX6_hit_53 ?_
  refine pf_X6_117 X hB dX6_hit_54 ?_
  refine g_aload_n X dX6_hit_57 rfl ?_
  refine g_dup X dX6_hit_58 rfl ?_
  refine gf_X6_121 X hB (up_ne2 (by decide) (mBlow_ne (by omega) (by omega) (by omega) (hS.2.2.2.2.2.1.2.1))) dX6_hit_59 ?_
  refine g_iload_n X dX6_hit_62 rfl ?_
  refine g_i2l X dX6_hit_63 ⟨by omega, by omega⟩ ?_
  refine g_ladd X dX6_hit_64 ?_
  refine pf_X6_121 X hB dX6_hit_65 ?_
  refine g_aload_n X dX6_hit_68 rfl ?_
  refine g_dup X dX6_hit_69 rfl ?_
  refine gf_X6_124 X hB (up_ne2 (by decide) (up_ne2 (by decide) (mBlow_ne (by omega) (by omega) (by omega) (hS.2.2.2.2.2.1.2.2.1)))) dX6_hit_70 ?_
  refine g_iload X dX6_hit_73 rfl ?_
  refine g_i2l X dX6_hit_75 ⟨by omega, by omega⟩ ?_
  refine g_iload X dX6_hit_76 rfl ?_
  refine g_i2l X dX6_hit_78 ⟨by omega, by omega⟩ ?_
  refine g_lmul X dX6_hit_79 ?_
  refine g_ladd X dX6_hit_80 ?_
  refine pf_X6_124 X hB dX6_hit_81 ?_
  refine g_aload_n X dX6_hit_84 rfl ?_
  refine g_dup X dX6_hit_85 rfl ?_
  refine gf_X6_127 X hB (up_ne2 (by decide) (up_ne2 (by decide) (up_ne2 (by decide) (mBlow_ne (by omega) (by omega) (by omega) (hS.2.2.2.2.2.1.2.2.2.1))))) dX6_hit_86 ?_
  refine g_iload X dX6_hit_89 rfl ?_
  refine g_i2l X dX6_hit_91 ⟨by omega, by omega⟩ ?_
  refine g_ladd X dX6_hit_92 ?_
  refine pf_X6_127 X hB dX6_hit_93 ?_
  have hS5 := struck_rep2 hS hR hi (blowS r i h) (loadR r (energyR r h) (blowS r i h)) (energyR r h) (hardR r (r (24 + 91 * i + 3)))
  have h15 := hit1_inv hR hN hi h0 h1
  have h159 := h15.2.2.1
  have h15b := h15.2.2.2
  have fr5 : frB σ (up (up (up (up (mBlow σ ((B + 5 + 1 + 3 * i)) (setR r (energyR r h) (r (24 + 91 * i + 3)) (r (24 + 91 * i + 2))) (loadR r (energyR r h) (setR r (energyR r h) (r (24 + 91 * i + 3)) (r (24 + 91 * i + 2))))) B 4 ((r 20) + 1)) B 5 ((r 934) + (energyR r h))) B 6 ((r 935) + ((setR r (energyR r h) (r (24 + 91 * i + 3)) (r (24 + 91 * i + 2))) * (hardR r (r (24 + 91 * i + 3)))))) B 7 ((r 21) + (setR r (energyR r h) (r (24 + 91 * i + 3)) (r (24 + 91 * i + 2))))) B := ((((frB.refl.blow (by omega)).up (by omega) (by omega)).up (by omega) (by omega)).up (by omega) (by omega)).up (by omega) (by omega)
  refine g_aload_n X dX6_hit_96 rfl ?_
  refine g_aload_n X dX6_hit_97 rfl ?_
  refine g_aload_n X dX6_hit_98 rfl ?_
  refine g_iload X dX6_hit_99 rfl ?_
  refine cl_X6_130 X (c_X6_liftBy l E (up (up (up (up (mBlow σ ((B + 5 + 1 + 3 * i)) (setR r (energyR r h) (r (24 + 91 * i + 3)) (r (24 + 91 * i + 2))) (loadR r (energyR r h) (setR r (energyR r h) (r (24 + 91 * i + 3)) (r (24 + 91 * i + 2))))) B 4 ((r 20) + 1)) B 5 ((r 934) + (energyR r h))) B 6 ((r 935) + ((setR r (energyR r h) (r (24 + 91 * i + 3)) (r (24 + 91 * i + 2))) * (hardR r (r (24 + 91 * i + 3)))))) B 7 ((r 21) + (setR r (energyR r h) (r (24 + 91 * i + 3)) (r (24 + 91 * i + 2))))) B (hit1R r i h) (N + 1) hB hS5 h15.1 (setR r (energyR r h) (r (24 + 91 * i + 3)) (r (24 + 91 * i + 2)))  (by omega) (by omega)) hB ⟨Nat.le_of_ble_eq_true rfl, Nat.le_of_ble_eq_true rfl⟩ rfl (Nat.le_of_ble_eq_true rfl) dX6_hit_101 rfl (fun v16 τ17 p18 => ?_)
  obtain ⟨rfl, rfl⟩ := p18
  have bb101 := (byR_bd h15.1 (s := setR r (energyR r h) (r (24 + 91 * i + 3)) (r (24 + 91 * i + 2))) (by omega) (by omega)).2
  refine cl_X6_133 X (c_X6_liftOthers l E (up (up (up (up (mBlow σ ((B + 5 + 1 + 3 * i)) (setR r (energyR r h) (r (24 + 91 * i + 3)) (r (24 + 91 * i + 2))) (loadR r (energyR r h) (setR r (energyR r h) (r (24 + 91 * i + 3)) (r (24 + 91 * i + 2))))) B 4 ((r 20) + 1)) B 5 ((r 934) + (energyR r h))) B 6 ((r 935) + ((setR r (energyR r h) (r (24 + 91 * i + 3)) (r (24 + 91 * i + 2))) * (hardR r (r (24 + 91 * i + 3)))))) B 7 ((r 21) + (setR r (energyR r h) (r (24 + 91 * i + 3)) (r (24 + 91 * i + 2))))) B (hit1R r i h) N hB hS5 h15.1 h15.2.1 i (byR (hit1R r i h) (setR r (energyR r h) (r (24 + 91 * i + 3)) (r (24 + 91 * i + 2)))) (by omega) (by omega) (by omega)) hB ⟨Nat.le_of_ble_eq_true rfl, Nat.le_of_ble_eq_true rfl⟩ rfl (Nat.le_of_ble_eq_true rfl) dX6_hit_104 rfl (fun v19 τ20 p21 => ?_)
  obtain ⟨rfl, hS104, hF104⟩ := p21
  refine g_iload X dX6_hit_107 rfl ?_
  exact R _ _ _ _ dX6_hit_109 ⟨rfl, by rw [h159] at hS104; exact hS104, fr5.trans hF104⟩
set_option maxHeartbeats 1000000 in
set_option maxRecDepth 100000 in
theorem c_X6_hitSeveral (l : Launch) (E : wEnv) (σ : Mem) (B : Nat) (r : Row) (N : Int) (hB : isK 8 B) (hS : SRep σ B r) (hR : RInv r N) (n h t : Int) (hN : N + 40 < 400000) (hn0 : 0 ≤ n) (hn : n < r 19) (h0 : 0 ≤ h) (h1 : h ≤ 3000) (ht0 : 1 ≤ t) (ht : t ≤ 40) : MetC l E yX6_hitSeveral cX6_hitSeveral 6 (some .int) 4 129 [rv E (B), iv (n), iv (h), iv (t)] σ (fun v σ' => v = some (iv (hitsR n.toNat h t.toNat r).2) ∧ SRep σ' B (hitsR n.toNat h t.toNat r).1 ∧ frB σ σ' B ∧ ∃ m : Int, 0 ≤ m ∧ m ≤ t ∧ RInv (hitsR n.toNat h t.toNat r).1 (N + m) ∧ (hitsR n.toNat h t.toNat r).1 19 = r 19) := by
  refine MetC.of (own := RX6) (by decide) rfl (by simp [Value.category]) (Nat.le_of_ble_eq_true rfl) [some (rv E (B)), some (iv (n)), some (iv (h)), some (iv (t)), none, none] rfl (by simp) (fun K X R => ?_)
  have s3 := hS.2.2.2.2.1
  have r19 := hR.2.2.2.2.1
  have r0 := hR.1
  refine g_aload_n X dX6_hitSeveral_0 rfl ?_
  refine g_iload_n X dX6_hitSeveral_1 rfl ?_
  refine cl_X6_41 X (cs_X6_pileAt l E σ B r N hB hS hR n (by omega) (by omega)) hB ⟨Nat.le_of_ble_eq_true rfl, Nat.le_of_ble_eq_true rfl⟩ rfl (Nat.le_of_ble_eq_true rfl) dX6_hitSeveral_2 rfl (fun v1 τ2 p3 => ?_)
  obtain ⟨rfl, rfl⟩ := p3
  have hp2 := (hS.2.2.2.2.2.2 (n).toNat (by omega))
  have hf2 := hp2.f
  have hi2 := hR.2.2.2.2.2.2 (n).toNat (by omega)
  have hj2 := hi2.f
  refine g_astore X (lw := [some (rv E (B)), some (iv (n)), some (iv (h)), some (iv (t)), some (rv E ((B + 5 + 1 + 3 * (n).toNat))), none]) dX6_hitSeveral_5 (by decide) rfl rfl ?_
  refine g_aload X dX6_hitSeveral_7 rfl ?_
  refine g_ifnonnull X (tgt := 14) dX6_hitSeveral_9 (by decide) ?_
  refine g_iconst X dX6_hitSeveral_14 ?_
  refine g_istore X (lw := [some (rv E (B)), some (iv (n)), some (iv (h)), some (iv (t)), some (rv E ((B + 5 + 1 + 3 * (n).toNat))), some (iv (0))]) dX6_hitSeveral_15 (by decide) rfl rfl ?_
  have L4 : ∀ (fu : Nat) (τ : Mem) (ρ : Row) (m : Int), (0 ≤ m) → (m ≤ t) → (SRep τ B ρ) → (frB σ τ B) → (RInv ρ (N + m)) → (ρ 19 = r 19) → ((hitsR n.toNat h t.toNat r).1 = (hitsR n.toNat h (t - m).toNat ρ).1) → ((hitsR n.toNat h t.toNat r).2 = m + (hitsR n.toNat h (t - m).toNat ρ).2) → t - m < (fu : Int) → K τ 17 [some (rv E (B)), some (iv (n)), some (iv (h)), some (iv (t)), some (rv E ((B + 5 + 1 + 3 * (n).toNat))), some (iv (m))] [] := by
    intro fu
    induction fu with
    | zero =>
      intro τ ρ m j1 j2 j4 j5 j6 j9 j7 j8 hm
      exact absurd hm (by omega)
    | succ fu ih4 =>
      intro τ ρ m j1 j2 j4 j5 j6 j9 j7 j8 hm
      have hpi := (j6.2.2.2.2.2.2 n.toNat (by omega)).f
      refine g_iload X dX6_hitSeveral_17 rfl ?_
      refine g_iload_n X dX6_hitSeveral_19 rfl ?_
      refine g_icmp_ge X (tgt := 45) dX6_hitSeveral_20 (by decide) ⟨by omega, by omega⟩ ⟨by omega, by omega⟩ (fun c5 => ?_) (fun c5 => ?_)
      · skip
        refine g_iload X dX6_hitSeveral_45 rfl ?_
        exact R _ _ _ _ dX6_hitSeveral_47 ⟨congrArg (fun z => some (iv z)) (by first | (rw [j8]; rw [show (t - m).toNat = 0 by omega, hitsR]; simp) | (rw [j8]; obtain ⟨u, hu⟩ := Nat.exists_eq_succ_of_ne_zero (show (t - m).toNat ≠ 0 by omega); rw [hu, hitsR, if_neg (by omega)]; simp)), by rw [j7]; first | (rw [show (t - m).toNat = 0 by omega, hitsR]; exact j4) | (obtain ⟨u, hu⟩ := Nat.exists_eq_succ_of_ne_zero (show (t - m).toNat ≠ 0 by omega); rw [hu, hitsR, if_neg (by omega)]; exact j4), j5, by rw [j7]; first | (rw [show (t - m).toNat = 0 by omega, hitsR]; exact ⟨m, j1, j2, j6, j9⟩) | (obtain ⟨u, hu⟩ := Nat.exists_eq_succ_of_ne_zero (show (t - m).toNat ≠ 0 by omega); rw [hu, hitsR, if_neg (by omega)]; exact ⟨m, j1, j2, j6, j9⟩)⟩
      · skip
        refine g_aload X dX6_hitSeveral_23 rfl ?_
        refine cl_X6_147 X (c_X4_left l E τ ((B + 5 + 1 + 3 * (n).toNat)) (stP hB (n).toNat (by omega))) (stP hB (n).toNat (by omega)) ⟨Nat.le_of_ble_eq_true rfl, Nat.le_of_ble_eq_true rfl⟩ rfl (Nat.le_of_ble_eq_true rfl) dX6_hitSeveral_25 rfl (fun v6 τ7 p8 => ?_)
        obtain ⟨rfl, rfl⟩ := p8
        rw [show τ ((B + 5 + 1 + 3 * (n).toNat)) 5 = ρ (24 + 91 * (n).toNat + 2) from ((j4.2.2.2.2.2.2 (n).toNat (by omega)).f.2.2.2.1), show τ ((B + 5 + 1 + 3 * (n).toNat)) 6 = ρ (24 + 91 * (n).toNat + 3) from ((j4.2.2.2.2.2.2 (n).toNat (by omega)).f.2.2.2.2.1)]
        refine g_if_le X (tgt := 45) dX6_hitSeveral_28 (by decide) ⟨by omega, by omega⟩ (fun c9 => ?_) (fun c9 => ?_)
        · skip
          refine g_iload X dX6_hitSeveral_45 rfl ?_
          exact R _ _ _ _ dX6_hitSeveral_47 ⟨congrArg (fun z => some (iv z)) (by first | (rw [j8]; rw [show (t - m).toNat = 0 by omega, hitsR]; simp) | (rw [j8]; obtain ⟨u, hu⟩ := Nat.exists_eq_succ_of_ne_zero (show (t - m).toNat ≠ 0 by omega); rw [hu, hitsR, if_neg (by omega)]; simp)), by rw [j7]; first | (rw [show (t - m).toNat = 0 by omega, hitsR]; exact j4) | (obtain ⟨u, hu⟩ := Nat.exists_eq_succ_of_ne_zero (show (t - m).toNat ≠ 0 by omega); rw [hu, hitsR, if_neg (by omega)]; exact j4), j5, by rw [j7]; first | (rw [show (t - m).toNat = 0 by omega, hitsR]; exact ⟨m, j1, j2, j6, j9⟩) | (obtain ⟨u, hu⟩ := Nat.exists_eq_succ_of_ne_zero (show (t - m).toNat ≠ 0 by omega); rw [hu, hitsR, if_neg (by omega)]; exact ⟨m, j1, j2, j6, j9⟩)⟩
        · skip
          refine g_aload_n X dX6_hitSeveral_31 rfl ?_
          refine g_aload X dX6_hitSeveral_32 rfl ?_
          refine g_iload_n X dX6_hitSeveral_34 rfl ?_
          refine cl_X6_151 X (c_X6_hit l E τ B ρ (N + m) hB j4 j6 (by omega) ((n).toNat) h (by omega) (by omega) (by omega)) hB ⟨Nat.le_of_ble_eq_true rfl, Nat.le_of_ble_eq_true rfl⟩ rfl (Nat.le_of_ble_eq_true rfl) dX6_hitSeveral_35 rfl (fun v10 τ11 p12 => ?_)
          obtain ⟨rfl, hS35, hF35⟩ := p12
          have hi35 := hit_inv j6 (by omega) (i := (n).toNat) (h := h) (by omega) (by omega) (by omega)
          have hj35 := hi35.2
          have hk35 := (hi35.1.2.2.2.2.2.2 (n).toNat (by omega)).f
          have hb35 := (hit1_inv j6 (by omega) (i := (n).toNat) (h := h) (by omega) (by omega) (by omega)).2.2.2
          refine g_pop X dX6_hitSeveral_38 rfl ?_
          refine g_iinc X (lw := [some (rv E (B)), some (iv (n)), some (iv (h)), some (iv (t)), some (rv E ((B + 5 + 1 + 3 * (n).toNat))), some (iv (m + 1))]) dX6_hitSeveral_39 rfl (by decide) rfl rfl ?_
          refine g_goto X (tgt := 17) dX6_hitSeveral_42 (by decide) ?_
          exact ih4 τ11 (hitR ρ (n).toNat h) (m + 1) (by omega) (by omega) (by exact hS35) (by exact j5.trans hF35) (by rw [← Int.add_assoc]; exact hi35.1) (by rw [hj35, j9]) (by rw [j7, show (t - m).toNat = (t - (m + 1)).toNat + 1 by omega, hitsR, if_pos (by omega)]) (by rw [j8, show (t - m).toNat = (t - (m + 1)).toNat + 1 by omega, hitsR, if_pos (by omega)]; simp only []; omega) (by omega)
  exact L4 _ σ r 0 (by omega) (by omega) (by exact hS) (by exact frB.refl) (by simpa using hR) (by rfl) (by simp) (by simp) (by exact Int.lt_toNat_succ _)
set_option maxHeartbeats 1000000 in
set_option maxRecDepth 100000 in
theorem c_X6_loadWith (l : Launch) (E : wEnv) (σ : Mem) (B : Nat) (r : Row) (N : Int) (hB : isK 8 B) (hS : SRep σ B r) (hR : RInv r N) (i : Nat) (f : Int) (hi : (i : Int) < r 19) (h0 : 1 ≤ f) (h1 : f ≤ 100000) : MetC l E yX6_loadWith cX6_loadWith 5 (some .int) 2 44 [rv E (B), rv E ((B + 5 + 1 + 3 * i)), iv (f)] σ (fun v σ' => v = some (iv (if f ≤ heldR r i then 0 else pressZ r i f)) ∧ SRep σ' B (if f ≤ heldR r i then r else press1R r i (pressZ r i f)) ∧ frB σ σ' B) := by
  refine MetC.of (own := RX6) (by decide) rfl (by simp [Value.category]) (Nat.le_of_ble_eq_true rfl) [some (rv E (B)), some (rv E ((B + 5 + 1 + 3 * i))), some (iv (f)), none, none] rfl (by simp) (fun K X R => ?_)
  have s3 := hS.2.2.2.2.1
  have r19 := hR.2.2.2.2.1
  have r0 := hR.1
  have hpx := hS.2.2.2.2.2.2 i hi
  have hfx := hpx.f
  have hix := hR.2.2.2.2.2.2 i hi
  have hjx := hix.f
  have hbh := hardR_bd hR (r (24 + 91 * i + 3))
  refine g_aload_n X dX6_loadWith_0 rfl ?_
  refine gf_X6_12 X hB dX6_loadWith_1 ?_
  refine g_aload_n X dX6_loadWith_4 rfl ?_
  refine gf_X6_55 X (stP hB i (by omega)) ((hS.2.2.2.2.2.2 i (by omega)).f.2.2.2.2.1) dX6_loadWith_5 ?_
  refine cl_X6_90 X (cs_X1_resistanceAt l E σ B r N hB hS hR (r (24 + 91 * i + 3)) ⟨by omega, by omega⟩) (st1 hB) ⟨Nat.le_of_ble_eq_true rfl, Nat.le_of_ble_eq_true rfl⟩ rfl (Nat.le_of_ble_eq_true rfl) dX6_loadWith_8 rfl (fun v1 τ2 p3 => ?_)
  obtain ⟨rfl, rfl⟩ := p3
  have hb8 := hardR_bd hR (r (24 + 91 * i + 3))
  refine g_bipush X dX6_loadWith_11 (by decide) ?_
  refine g_imul X dX6_loadWith_13 ?_
  refine g_aload_n X dX6_loadWith_14 rfl ?_
  refine gf_X6_55 X (stP hB i (by omega)) ((hS.2.2.2.2.2.2 i (by omega)).f.2.2.2.2.1) dX6_loadWith_15 ?_
  refine g_bipush X dX6_loadWith_18 (by decide) ?_
  refine g_idiv X dX6_loadWith_20 (by omega) (by omega) (by decide) (by decide) ?_
  refine g_iadd X dX6_loadWith_21 ?_
  refine g_istore_n X (lw := [some (rv E (B)), some (rv E ((B + 5 + 1 + 3 * i))), some (iv (f)), some (iv ((hardR r (r (24 + 91 * i + 3))) * 10 + ((r (24 + 91 * i + 3)) / 100))), none]) dX6_loadWith_22 (by decide) rfl rfl ?_
  refine g_iload_n X dX6_loadWith_23 rfl ?_
  refine g_iload_n X dX6_loadWith_24 rfl ?_
  refine g_icmp_gt X (tgt := 30) dX6_loadWith_25 (by decide) ⟨by omega, by omega⟩ ⟨by omega, by omega⟩ (fun c4 => ?_) (fun c4 => ?_)
  · skip
    refine g_aload_n X dX6_loadWith_30 rfl ?_
    refine cl_X6_147 X (c_X4_left l E σ ((B + 5 + 1 + 3 * i)) (stP hB i (by omega))) (stP hB i (by omega)) ⟨Nat.le_of_ble_eq_true rfl, Nat.le_of_ble_eq_true rfl⟩ rfl (Nat.le_of_ble_eq_true rfl) dX6_loadWith_31 rfl (fun v5 τ6 p7 => ?_)
    obtain ⟨rfl, rfl⟩ := p7
    rw [show σ ((B + 5 + 1 + 3 * i)) 5 = r (24 + 91 * i + 2) from ((hS.2.2.2.2.2.2 i (by omega)).f.2.2.2.1), show σ ((B + 5 + 1 + 3 * i)) 6 = r (24 + 91 * i + 3) from ((hS.2.2.2.2.2.2 i (by omega)).f.2.2.2.2.1)]
    refine g_iload_n X dX6_loadWith_34 rfl ?_
    refine g_iload_n X dX6_loadWith_35 rfl ?_
    refine g_isub X dX6_loadWith_36 ?_
    refine g_bipush X dX6_loadWith_37 (by decide) ?_
    refine g_idiv X dX6_loadWith_39 (by omega) (by omega) (by decide) (by decide) ?_
    refine g_iconst X dX6_loadWith_40 ?_
    refine g_iadd X dX6_loadWith_41 ?_
    refine g_min X wL_X6_87 ⟨by omega, by omega⟩ ⟨by omega, by omega⟩ (Nat.le_of_ble_eq_true rfl) (Nat.le_of_ble_eq_true rfl) dX6_loadWith_42 ?_
    refine g_istore X (lw := [some (rv E (B)), some (rv E ((B + 5 + 1 + 3 * i))), some (iv (f)), some (iv ((hardR r (r (24 + 91 * i + 3))) * 10 + ((r (24 + 91 * i + 3)) / 100))), some (iv (min (r (24 + 91 * i + 2) - r (24 + 91 * i + 3)) ((f - ((hardR r (r (24 + 91 * i + 3))) * 10 + ((r (24 + 91 * i + 3)) / 100))) / 10 + 1)))]) dX6_loadWith_45 (by decide) rfl rfl ?_
    refine g_aload_n X dX6_loadWith_47 rfl ?_
    refine g_iload X dX6_loadWith_48 rfl ?_
    refine cl_X6_164 X (c_X4_takePress l E σ ((B + 5 + 1 + 3 * i)) (min (r (24 + 91 * i + 2) - r (24 + 91 * i + 3)) ((f - ((hardR r (r (24 + 91 * i + 3))) * 10 + ((r (24 + 91 * i + 3)) / 100))) / 10 + 1)) (stP hB i (by omega))) (stP hB i (by omega)) ⟨Nat.le_of_ble_eq_true rfl, Nat.le_of_ble_eq_true rfl⟩ rfl (Nat.le_of_ble_eq_true rfl) dX6_loadWith_50 rfl (fun v8 τ9 p10 => ?_)
    obtain ⟨rfl, rfl⟩ := p10
    refine g_aload_n X dX6_loadWith_53 rfl ?_
    refine g_dup X dX6_loadWith_54 rfl ?_
    refine gf_X6_167 X hB (mPress_ne (by omega) (hS.2.2.2.2.2.1.2.2.2.2.2)) dX6_loadWith_55 ?_
    refine g_iload X dX6_loadWith_58 rfl ?_
    refine g_i2l X dX6_loadWith_60 ⟨by omega, by omega⟩ ?_
    refine g_ladd X dX6_loadWith_61 ?_
    refine pf_X6_167 X hB dX6_loadWith_62 ?_
    refine g_iload X dX6_loadWith_65 rfl ?_
    exact R _ _ _ _ dX6_loadWith_67 ⟨by rw [if_neg (by unfold heldR; omega)]; rfl, by rw [if_neg (by unfold heldR; omega)]; exact press_rep hS hR hi _, (frB.refl.press (by omega)).up (by omega) (by omega)⟩
  · skip
    refine g_iconst X dX6_loadWith_28 ?_
    exact R _ _ _ _ dX6_loadWith_29 ⟨by rw [if_pos (by unfold heldR; omega)], by rw [if_pos (by unfold heldR; omega)]; exact hS, frB.refl⟩
