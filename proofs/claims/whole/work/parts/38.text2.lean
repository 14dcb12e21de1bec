/-! ===== contracts: the reference's blows to a depth, records ===== -/
set_option maxHeartbeats 1000000 in
set_option maxRecDepth 100000 in
theorem c_X8_blowsTo (l : Launch) (E : wEnv) (σ : Mem) (s : St) (N : Int) (hM : MRep σ s) (hR : RInv s.1 N) (hN : N + 600 ≤ 400000) (p h d : Int) (hp : I32 p) (hh : I32 h) (hd : I32 d) : MetC l E yX8_blowsTo cX8_blowsTo 7 (some .int) 3 69 [rv E (12), iv (p), iv (h), iv (d)] σ (fun v σ' => v = some (iv (blowsToX s p h d)) ∧ σ = σ') := by
  refine MetC.of (own := RX8) (by decide) rfl (by simp [Value.category]) (Nat.le_of_ble_eq_true rfl) [some (rv E (12)), some (iv (p)), some (iv (h)), some (iv (d)), none, none, none] rfl (by simp) (fun K X R => ?_)
  have hM1 := hM.1
  have hM2 := hM.2.1
  have hM3 := hM.2.2
  have r19 := hR.2.2.2.2.1
  have r0 := hR.1
  have rN := hR.2.2.2.2.2.1
  refine g_aload_n X dX8_blowsTo_0 rfl ?_
  refine g_iload_n X dX8_blowsTo_1 rfl ?_
  refine cl_X8_103 X (c_X8_isPile l E σ s.1 N hM1 hR p ⟨by omega, by omega⟩) fk12 ⟨Nat.le_of_ble_eq_true rfl, Nat.le_of_ble_eq_true rfl⟩ rfl (Nat.le_of_ble_eq_true rfl) dX8_blowsTo_2 rfl (fun v1 τ2 p3 => ?_)
  obtain ⟨rfl, ⟨b4, rfl⟩ | ⟨b4, rfl⟩⟩ := p3
  · skip
    have pi2 := (hR.2.2.2.2.2.2 p.toNat (by omega)).f
    refine g_if_eq X (tgt := 25) dX8_blowsTo_5 (by decide) ⟨by decide, by decide⟩ (fun q => absurd q (by decide)) (fun _ => ?_)
    refine g_iload_n X dX8_blowsTo_8 rfl ?_
    refine cl_X8_139 X (c_X8_isFall l E σ h ⟨by omega, by omega⟩) ⟨Nat.le_of_ble_eq_true rfl, Nat.le_of_ble_eq_true rfl⟩ rfl (Nat.le_of_ble_eq_true rfl) dX8_blowsTo_9 rfl (fun v5 τ6 p7 => ?_)
    obtain ⟨rfl, ⟨b8, rfl⟩ | ⟨b8, rfl⟩⟩ := p7
    · skip
      skip
      refine g_if_eq X (tgt := 25) dX8_blowsTo_12 (by decide) ⟨by decide, by decide⟩ (fun q => absurd q (by decide)) (fun _ => ?_)
      refine g_iload_n X dX8_blowsTo_15 rfl ?_
      refine g_iconst X dX8_blowsTo_16 ?_
      refine g_ldc X (n := 50000) dX8_blowsTo_17 wK_X8_89 (by decide) ?_
      refine cl_X8_51 X (c_X8_in l E σ d 0 50000 ⟨by omega, by omega⟩ ⟨by decide, by decide⟩ ⟨by decide, by decide⟩) ⟨Nat.le_of_ble_eq_true rfl, Nat.le_of_ble_eq_true rfl⟩ rfl (Nat.le_of_ble_eq_true rfl) dX8_blowsTo_19 rfl (fun v9 τ10 p11 => ?_)
      obtain ⟨rfl, ⟨b12, rfl⟩ | ⟨b12, rfl⟩⟩ := p11
      · skip
        skip
        refine g_if_ne X (tgt := 27) dX8_blowsTo_22 (by decide) ⟨by decide, by decide⟩ (fun _ => ?_) (fun q => absurd q (by decide))
        refine g_aload_n X dX8_blowsTo_27 rfl ?_
        refine g_iload_n X dX8_blowsTo_28 rfl ?_
        refine g_iconst X dX8_blowsTo_29 ?_
        refine cl_X8_62 X (c0_X8_of l E σ p 3 (24 + 91 * p.toNat + 3) (by omega) (by omega) (by omega)) fk12 ⟨Nat.le_of_ble_eq_true rfl, Nat.le_of_ble_eq_true rfl⟩ rfl (Nat.le_of_ble_eq_true rfl) dX8_blowsTo_30 rfl (fun v13 τ14 p15 => ?_)
        obtain ⟨rfl, rfl⟩ := p15
        rw [show σ 13 (24 + 91 * p.toNat + 3) = s.1 (24 + 91 * p.toNat + 3) from (hM1.at (n := (24 + 91 * p.toNat + 3)) (by omega) (by omega))]
        refine g_istore X (lw := [some (rv E (12)), some (iv (p)), some (iv (h)), some (iv (d)), some (iv (s.1 (24 + 91 * p.toNat + 3))), none, none]) dX8_blowsTo_33 (by decide) rfl rfl ?_
        refine g_iconst X dX8_blowsTo_35 ?_
        refine g_istore X (lw := [some (rv E (12)), some (iv (p)), some (iv (h)), some (iv (d)), some (iv (s.1 (24 + 91 * p.toNat + 3))), some (iv (0)), none]) dX8_blowsTo_36 (by decide) rfl rfl ?_
        have L16 : ∀ (fu : Nat) (fu0 : Nat) (f n : Int), (0 ≤ f ∧ f ≤ (s.1 (24 + 91 * p.toNat + 2))) → (d - f ≤ (fu0 : Int)) → ((blowsN s.1 (energyR s.1 h) (s.1 (24 + 91 * p.toNat + 2)) d 50000 (s.1 (24 + 91 * p.toNat + 3)) = -4 ↔ blowsN s.1 (energyR s.1 h) (s.1 (24 + 91 * p.toNat + 2)) d fu0 f = -4) ∧ (¬ blowsN s.1 (energyR s.1 h) (s.1 (24 + 91 * p.toNat + 2)) d 50000 (s.1 (24 + 91 * p.toNat + 3)) = -4 → blowsN s.1 (energyR s.1 h) (s.1 (24 + 91 * p.toNat + 2)) d 50000 (s.1 (24 + 91 * p.toNat + 3)) = blowsN s.1 (energyR s.1 h) (s.1 (24 + 91 * p.toNat + 2)) d fu0 f + n)) → (s.1 (24 + 91 * p.toNat + 2)) - f < (fu : Int) → K σ 38 [some (rv E (12)), some (iv (p)), some (iv (h)), some (iv (d)), some (iv (f)), some (iv (n)), none] [] := by
          intro fu
          induction fu with
          | zero =>
            intro fu0 f n j1 jf j7 hm
            exact absurd hm (by omega)
          | succ fu ih16 =>
            intro fu0 f n j1 jf j7 hm
            have pq := (hR.2.2.2.2.2.2 p.toNat (by omega)).f
            refine g_iload X dX8_blowsTo_38 rfl ?_
            refine g_iload_n X dX8_blowsTo_40 rfl ?_
            refine g_icmp_ge X (tgt := 75) dX8_blowsTo_41 (by decide) ⟨by omega, by omega⟩ ⟨by omega, by omega⟩ (fun c17 => ?_) (fun c17 => ?_)
            · skip
              refine g_iload X dX8_blowsTo_75 rfl ?_
              exact R _ _ _ _ dX8_blowsTo_77 ⟨congrArg (fun z => some (iv z)) (by have q := blowsN_done (r := s.1) (e := energyR s.1 h) (len := (s.1 (24 + 91 * p.toNat + 2))) (d := d) (f := f) (by omega) fu0; unfold blowsToX; rw [if_pos (by omega)]; have q2 := j7.2 (fun z => by have q3 := j7.1.mp z; omega); omega), rfl⟩
            · skip
              refine g_aload_n X dX8_blowsTo_44 rfl ?_
              refine g_iload_n X dX8_blowsTo_45 rfl ?_
              refine g_iload X dX8_blowsTo_46 rfl ?_
              refine g_iload_n X dX8_blowsTo_48 rfl ?_
              refine cl_X8_128 X (c_X8_setAt l E σ s.1 N hM1 hR p f h (by omega) (by omega) (by omega) (by omega) (by omega)) fk12 ⟨Nat.le_of_ble_eq_true rfl, Nat.le_of_ble_eq_true rfl⟩ rfl (Nat.le_of_ble_eq_true rfl) dX8_blowsTo_49 rfl (fun v18 τ19 p20 => ?_)
              obtain ⟨rfl, rfl⟩ := p20
              have sb49 := setR_bd s.1 (energyR s.1 h) f (s.1 (24 + 91 * p.toNat + 2)) (by omega)
              refine g_istore X (lw := [some (rv E (12)), some (iv (p)), some (iv (h)), some (iv (d)), some (iv (f)), some (iv (n)), some (iv (setR s.1 (energyR s.1 h) f (s.1 (24 + 91 * p.toNat + 2))))]) dX8_blowsTo_52 (by decide) rfl rfl ?_
              refine g_iload X dX8_blowsTo_54 rfl ?_
              refine g_if_ne X (tgt := 62) dX8_blowsTo_56 (by decide) ⟨by omega, by omega⟩ (fun c21 => ?_) (fun c21 => ?_)
              · skip
                refine g_iload X dX8_blowsTo_62 rfl ?_
                refine g_iload X dX8_blowsTo_64 rfl ?_
                refine g_iadd X dX8_blowsTo_66 ?_
                refine g_istore X (lw := [some (rv E (12)), some (iv (p)), some (iv (h)), some (iv (d)), some (iv (f + (setR s.1 (energyR s.1 h) f (s.1 (24 + 91 * p.toNat + 2))))), some (iv (n)), some (iv (setR s.1 (energyR s.1 h) f (s.1 (24 + 91 * p.toNat + 2))))]) dX8_blowsTo_67 (by decide) rfl rfl ?_
                refine g_iinc X (lw := [some (rv E (12)), some (iv (p)), some (iv (h)), some (iv (d)), some (iv (f + (setR s.1 (energyR s.1 h) f (s.1 (24 + 91 * p.toNat + 2))))), some (iv (n + 1)), some (iv (setR s.1 (energyR s.1 h) f (s.1 (24 + 91 * p.toNat + 2))))]) dX8_blowsTo_69 rfl (by decide) rfl rfl ?_
                refine g_goto X (tgt := 38) dX8_blowsTo_72 (by decide) ?_
                refine g_kill X 6 (lw := [some (rv E (12)), some (iv (p)), some (iv (h)), some (iv (d)), some (iv (f + (setR s.1 (energyR s.1 h) f (s.1 (24 + 91 * p.toNat + 2))))), some (iv (n + 1)), none]) rfl ?_
                exact ih16 (fu0 - 1) (f + (setR s.1 (energyR s.1 h) f (s.1 (24 + 91 * p.toNat + 2)))) (n + 1) (by omega) (by omega) (by exact blowsN_step (by omega) (by omega) (by omega) j7) (by omega)
              · skip
                refine g_bipush X dX8_blowsTo_59 (by decide) ?_
                exact R _ _ _ _ dX8_blowsTo_61 ⟨congrArg (fun z => some (iv z)) (by unfold blowsToX; rw [if_pos (by omega)]; exact (j7.1.mpr (by obtain ⟨q, rfl⟩ : ∃ q, fu0 = q + 1 := ⟨fu0 - 1, by omega⟩; rw [blowsN, if_pos (by omega), if_pos (by omega)])).symm), rfl⟩
        exact L16 _ 50000 (s.1 (24 + 91 * p.toNat + 3)) 0 (by omega) (by omega) (by exact ⟨Iff.rfl, fun _ => by omega⟩) (by exact Int.lt_toNat_succ _)
      · skip
        skip
        refine g_if_ne X (tgt := 27) dX8_blowsTo_22 (by decide) ⟨by decide, by decide⟩ (fun q => absurd q (by decide)) (fun _ => ?_)
        refine g_iconst X dX8_blowsTo_25 ?_
        exact R _ _ _ _ dX8_blowsTo_26 ⟨congrArg (fun z => some (iv z)) (by first | (exfalso; omega) | (unfold blowsToX; rw [if_neg (by omega)])), rfl⟩
    · skip
      skip
      refine g_if_eq X (tgt := 25) dX8_blowsTo_12 (by decide) ⟨by decide, by decide⟩ (fun _ => ?_) (fun q => absurd q (by decide))
      refine g_iconst X dX8_blowsTo_25 ?_
      exact R _ _ _ _ dX8_blowsTo_26 ⟨congrArg (fun z => some (iv z)) (by first | (exfalso; omega) | (unfold blowsToX; rw [if_neg (by omega)])), rfl⟩
  · skip
    skip
    refine g_if_eq X (tgt := 25) dX8_blowsTo_5 (by decide) ⟨by decide, by decide⟩ (fun _ => ?_) (fun q => absurd q (by decide))
    refine g_iconst X dX8_blowsTo_25 ?_
    exact R _ _ _ _ dX8_blowsTo_26 ⟨congrArg (fun z => some (iv z)) (by first | (exfalso; omega) | (unfold blowsToX; rw [if_neg (by omega)])), rfl⟩
set_option maxHeartbeats 1000000 in
set_option maxRecDepth 100000 in
theorem c_X8_isDigit (l : Launch) (E : wEnv) (σ : Mem) (L : Nat) (t : Nat → Int) (hB : CB (chT L t)) (hT : MT σ L t) (sp : Int) (hs : σ 12 17 = sp) (h0 : 0 ≤ sp) (h1 : sp ≤ L) : MetC l E yX8_isDigit cX8_isDigit 1 (some .boolean) 1 22 [rv E (12)] σ (fun v σ' => σ = σ' ∧ ((48 ≤ chT L t sp ∧ chT L t sp ≤ 57) ∧ v = some (iv 1) ∨ ¬ (48 ≤ chT L t sp ∧ chT L t sp ≤ 57) ∧ v = some (iv 0))) := by
  refine MetC.of (own := RX8) (by decide) rfl (by simp [Value.category]) (Nat.le_of_ble_eq_true rfl) [some (rv E (12))] rfl (by simp) (fun K X R => ?_)
  have hL := hT.1
  have cb := hB sp
  refine g_aload_n X dX8_isDigit_0 rfl ?_
  refine gf_X8_176 X fk12 (show σ 12 17 = sp from hs) dX8_isDigit_1 ?_
  refine g_aload_n X dX8_isDigit_4 rfl ?_
  refine gf_X8_81 X fk12 hT.2.1 dX8_isDigit_5 ?_
  refine g_icmp_ge X (tgt := 34) dX8_isDigit_8 (by decide) ⟨by omega, by omega⟩ ⟨by omega, by omega⟩ (fun c1 => ?_) (fun c1 => ?_)
  · skip
    refine g_iconst X dX8_isDigit_34 ?_
    exact R _ _ _ _ (Or.inl (by decide)) dX8_isDigit_35 ⟨rfl, Or.inr ⟨fun q => by first | omega | (rw [ch_out (show ¬ sp < L by omega)] at q; omega), rfl⟩⟩
  · skip
    refine g_aload_n X dX8_isDigit_11 rfl ?_
    refine gf_X8_23 X fk12 dX8_isDigit_12 ?_
    refine g_aload_n X dX8_isDigit_15 rfl ?_
    refine gf_X8_176 X fk12 (show σ 12 17 = sp from hs) dX8_isDigit_16 ?_
    refine g_iald X fk17 fl17 (by omega) (by omega) (by decide) (hT.ch (p := sp) (by omega) (by omega)) dX8_isDigit_19 ?_
    refine g_bipush X dX8_isDigit_20 (by decide) ?_
    refine g_bipush X dX8_isDigit_22 (by decide) ?_
    refine cl_X8_51 X (c_X8_in l E σ (chT L t sp) 48 57 ⟨by omega, by omega⟩ ⟨by decide, by decide⟩ ⟨by decide, by decide⟩) ⟨Nat.le_of_ble_eq_true rfl, Nat.le_of_ble_eq_true rfl⟩ rfl (Nat.le_of_ble_eq_true rfl) dX8_isDigit_24 rfl (fun v2 τ3 p4 => ?_)
    obtain ⟨rfl, ⟨b5, rfl⟩ | ⟨b5, rfl⟩⟩ := p4
    · skip
      skip
      refine g_if_eq X (tgt := 34) dX8_isDigit_27 (by decide) ⟨by decide, by decide⟩ (fun q => absurd q (by decide)) (fun _ => ?_)
      refine g_iconst X dX8_isDigit_30 ?_
      refine g_goto X (tgt := 35) dX8_isDigit_31 (by decide) ?_
      exact R _ _ _ _ (Or.inr (by decide)) dX8_isDigit_35 ⟨rfl, Or.inl ⟨by omega, rfl⟩⟩
    · skip
      skip
      refine g_if_eq X (tgt := 34) dX8_isDigit_27 (by decide) ⟨by decide, by decide⟩ (fun _ => ?_) (fun q => absurd q (by decide))
      refine g_iconst X dX8_isDigit_34 ?_
      exact R _ _ _ _ (Or.inl (by decide)) dX8_isDigit_35 ⟨rfl, Or.inr ⟨fun q => by first | omega | (rw [ch_out (show ¬ sp < L by omega)] at q; omega), rfl⟩⟩
set_option maxHeartbeats 1000000 in
set_option maxRecDepth 100000 in
theorem c_X8_digits (l : Launch) (E : wEnv) (σ : Mem) (L : Nat) (t : Nat → Int) (hB : CB (chT L t)) (hT : MT σ L t) (sp : Int) (hs : σ 12 17 = sp) (h0 : 0 ≤ sp) (h1 : sp ≤ L) (least most : Int) (hle : 1 ≤ least ∧ least ≤ most) (hmo : most ≤ 4) (mo : Nat) (hm : most = mo) : MetC l E yX8_digits cX8_digits 5 (some .int) 2 42 [rv E (12), iv (least), iv (most)] σ (fun v σ' => frD 17 σ σ' ∧ σ' 12 17 = sp + (dg (chT L t) mo sp) ∧ sp + (dg (chT L t) mo sp) ≤ L ∧ ((dg (chT L t) mo sp) < least ∧ v = some (iv (-1)) ∨ least ≤ (dg (chT L t) mo sp) ∧ v = some (iv (num (chT L t) sp (dg (chT L t) mo sp).toNat)))) := by
  refine MetC.of (own := RX8) (by decide) rfl (by simp [Value.category]) (Nat.le_of_ble_eq_true rfl) [some (rv E (12)), some (iv (least)), some (iv (most)), none, none] rfl (by simp) (fun K X R => ?_)
  have hL := hT.1
  have cb := hB sp
  refine g_iconst X dX8_digits_0 ?_
  refine g_istore_n X (lw := [some (rv E (12)), some (iv (least)), some (iv (most)), some (iv (0)), none]) dX8_digits_1 (by decide) rfl rfl ?_
  refine g_iconst X dX8_digits_2 ?_
  refine g_istore X (lw := [some (rv E (12)), some (iv (least)), some (iv (most)), some (iv (0)), some (iv (0))]) dX8_digits_3 (by decide) rfl rfl ?_
  have L1 : ∀ (fu : Nat) (τ : Mem) (v n : Int), (0 ≤ n) → (n ≤ most) → (τ 12 17 = sp + n) → (sp + n ≤ L) → (frD 17 σ τ) → (v = num (chT L t) sp n.toNat) → (dg (chT L t) mo sp = n + dg (chT L t) (most - n).toNat (sp + n)) → most - n < (fu : Int) → K τ 5 [some (rv E (12)), some (iv (least)), some (iv (most)), some (iv (v)), some (iv (n))] [] := by
    intro fu
    induction fu with
    | zero =>
      intro τ v n j1 j2 js jl jf jv j3 hm
      exact absurd hm (by omega)
    | succ fu ih1 =>
      intro τ v n j1 j2 js jl jf jv j3 hm
      have cc := chT_in (L := L) (t := t) (p := sp + n)
      refine g_iload X dX8_digits_5 rfl ?_
      refine g_iload_n X dX8_digits_7 rfl ?_
      refine g_icmp_ge X (tgt := 52) dX8_digits_8 (by decide) ⟨by omega, by omega⟩ ⟨by omega, by omega⟩ (fun c2 => ?_) (fun c2 => ?_)
      · skip
        refine g_iload X dX8_digits_52 rfl ?_
        refine g_iload_n X dX8_digits_54 rfl ?_
        refine g_icmp_ge X (tgt := 62) dX8_digits_55 (by decide) ⟨by omega, by omega⟩ ⟨by omega, by omega⟩ (fun c3 => ?_) (fun c3 => ?_)
        · skip
          refine g_iload_n X dX8_digits_62 rfl ?_
          exact R _ _ _ _ dX8_digits_63 (by have e : (dg (chT L t) mo sp) = n := by { first | (rw [j3, show (most - n).toNat = 0 by omega, dg]; omega) | (rw [j3, show (most - n).toNat = (most - n - 1).toNat + 1 by omega, dg, if_neg (by assumption)]; omega) }; rw [e]; exact ⟨jf, js, by omega, Or.inr ⟨by omega, congrArg (fun z => some (iv z)) jv⟩⟩)
        · skip
          refine g_iconst X dX8_digits_58 ?_
          refine g_goto X (tgt := 63) dX8_digits_59 (by decide) ?_
          exact R _ _ _ _ dX8_digits_63 (by have e : (dg (chT L t) mo sp) = n := by { first | (rw [j3, show (most - n).toNat = 0 by omega, dg]; omega) | (rw [j3, show (most - n).toNat = (most - n - 1).toNat + 1 by omega, dg, if_neg (by assumption)]; omega) }; rw [e]; exact ⟨jf, js, by omega, Or.inl ⟨by omega, rfl⟩⟩)
      · skip
        refine g_aload_n X dX8_digits_11 rfl ?_
        refine cl_X8_179 X (c_X8_isDigit l E τ L t hB (hT.fD jf) (sp + n) js (by omega) (by omega)  ) fk12 ⟨Nat.le_of_ble_eq_true rfl, Nat.le_of_ble_eq_true rfl⟩ rfl (Nat.le_of_ble_eq_true rfl) dX8_digits_12 rfl (fun v4 τ5 p6 => ?_)
        obtain ⟨rfl, ⟨b7, rfl⟩ | ⟨b7, rfl⟩⟩ := p6
        · skip
          skip
          refine g_if_eq X (tgt := 52) dX8_digits_15 (by decide) ⟨by decide, by decide⟩ (fun q => absurd q (by decide)) (fun _ => ?_)
          refine g_bipush X dX8_digits_18 (by decide) ?_
          refine g_iload_n X dX8_digits_20 rfl ?_
          refine g_imul X dX8_digits_21 ?_
          refine g_aload_n X dX8_digits_22 rfl ?_
          refine gf_X8_23 X fk12 dX8_digits_23 ?_
          refine g_aload_n X dX8_digits_26 rfl ?_
          refine gf_X8_176 X fk12 (show τ 12 17 = sp + n from js) dX8_digits_27 ?_
          refine g_iald X fk17 fl17 (by omega) (by omega) (by decide) ((hT.fD jf).ch (p := sp + n) (by omega) (by omega)) dX8_digits_30 ?_
          refine g_iadd X dX8_digits_31 ?_
          refine g_bipush X dX8_digits_32 (by decide) ?_
          refine g_isub X dX8_digits_34 ?_
          refine g_istore_n X (lw := [some (rv E (12)), some (iv (least)), some (iv (most)), some (iv (10 * v + (chT L t (sp + n)) - 48)), some (iv (n))]) dX8_digits_35 (by decide) rfl rfl ?_
          refine g_iinc X (lw := [some (rv E (12)), some (iv (least)), some (iv (most)), some (iv (10 * v + (chT L t (sp + n)) - 48)), some (iv (n + 1))]) dX8_digits_36 rfl (by decide) rfl rfl ?_
          refine g_aload_n X dX8_digits_39 rfl ?_
          refine g_dup X dX8_digits_40 rfl ?_
          refine gf_X8_176 X fk12 (show τ 12 17 = sp + n from js) dX8_digits_41 ?_
          refine g_iconst X dX8_digits_44 ?_
          refine g_iadd X dX8_digits_45 ?_
          refine pf_X8_176 X fk12 dX8_digits_46 ?_
          refine g_goto X (tgt := 5) dX8_digits_49 (by decide) ?_
          exact ih1 (up τ 12 17 (sp + n + 1))  (10 * v + (chT L t (sp + n)) - 48) (n + 1) (by omega) (by omega) (by rw [up_same]; omega) (by have q := chT_in (L := L) (t := t) (p := sp + n) (by omega); omega) (by exact jf.up (by decide)) (by rw [show (n + 1).toNat = n.toNat + 1 by omega, num, ← jv, show ((n.toNat : Nat) : Int) = n by omega]; omega) (by rw [j3, show (most - n).toNat = (most - (n + 1)).toNat + 1 by omega, dg, if_pos (by assumption), show sp + (n + 1) = sp + n + 1 by omega]; omega) (by omega)
        · skip
          skip
          refine g_if_eq X (tgt := 52) dX8_digits_15 (by decide) ⟨by decide, by decide⟩ (fun _ => ?_) (fun q => absurd q (by decide))
          refine g_iload X dX8_digits_52 rfl ?_
          refine g_iload_n X dX8_digits_54 rfl ?_
          refine g_icmp_ge X (tgt := 62) dX8_digits_55 (by decide) ⟨by omega, by omega⟩ ⟨by omega, by omega⟩ (fun c8 => ?_) (fun c8 => ?_)
          · skip
            refine g_iload_n X dX8_digits_62 rfl ?_
            exact R _ _ _ _ dX8_digits_63 (by have e : (dg (chT L t) mo sp) = n := by { first | (rw [j3, show (most - n).toNat = 0 by omega, dg]; omega) | (rw [j3, show (most - n).toNat = (most - n - 1).toNat + 1 by omega, dg, if_neg (by assumption)]; omega) }; rw [e]; exact ⟨jf, js, by omega, Or.inr ⟨by omega, congrArg (fun z => some (iv z)) jv⟩⟩)
          · skip
            refine g_iconst X dX8_digits_58 ?_
            refine g_goto X (tgt := 63) dX8_digits_59 (by decide) ?_
            exact R _ _ _ _ dX8_digits_63 (by have e : (dg (chT L t) mo sp) = n := by { first | (rw [j3, show (most - n).toNat = 0 by omega, dg]; omega) | (rw [j3, show (most - n).toNat = (most - n - 1).toNat + 1 by omega, dg, if_neg (by assumption)]; omega) }; rw [e]; exact ⟨jf, js, by omega, Or.inl ⟨by omega, rfl⟩⟩)
  exact L1 _ σ  0 0 (by omega) (by omega) (by rw [hs]; omega) (by omega) (by exact frD.refl) (by rfl) (by rw [show sp + 0 = sp by omega, show (most - 0).toNat = mo by omega]; omega) (by exact Int.lt_toNat_succ _)
set_option maxHeartbeats 1000000 in
set_option maxRecDepth 100000 in
theorem c_X8_takes (l : Launch) (E : wEnv) (σ : Mem) (L : Nat) (t : Nat → Int) (hB : CB (chT L t)) (hT : MT σ L t) (sp : Int) (hs : σ 12 17 = sp) (h0 : 0 ≤ sp) (h1 : sp ≤ L) (c : Int) (hc : 1 ≤ c ∧ c ≤ 1000) : MetC l E yX8_takes cX8_takes 3 (some .boolean) 0 0 [rv E (12), iv (c)] σ (fun v σ' => frD 17 σ σ' ∧ (chT L t sp = c ∧ v = some (iv 1) ∧ sp + 1 ≤ L ∧ σ' 12 17 = sp + 1 ∨ ¬ chT L t sp = c ∧ v = some (iv 0) ∧ sp ≤ L ∧ σ' 12 17 = sp)) := by
  refine MetC.of (own := RX8) (by decide) rfl (by simp [Value.category]) (Nat.le_of_ble_eq_true rfl) [some (rv E (12)), some (iv (c)), none] rfl (by simp) (fun K X R => ?_)
  have hL := hT.1
  have cb := hB sp
  refine g_aload_n X dX8_takes_0 rfl ?_
  refine gf_X8_176 X fk12 (show σ 12 17 = sp from hs) dX8_takes_1 ?_
  refine g_aload_n X dX8_takes_4 rfl ?_
  refine gf_X8_81 X fk12 hT.2.1 dX8_takes_5 ?_
  refine g_icmp_ge X (tgt := 28) dX8_takes_8 (by decide) ⟨by omega, by omega⟩ ⟨by omega, by omega⟩ (fun c1 => ?_) (fun c1 => ?_)
  · skip
    refine g_iconst X dX8_takes_28 ?_
    refine g_istore_n X (lw := [some (rv E (12)), some (iv (c)), some (iv (0))]) dX8_takes_29 (by decide) rfl rfl ?_
    refine g_aload_n X dX8_takes_30 rfl ?_
    refine g_dup X dX8_takes_31 rfl ?_
    refine gf_X8_176 X fk12 (show σ 12 17 = sp from hs) dX8_takes_32 ?_
    refine g_iload_n X dX8_takes_35 rfl ?_
    refine g_if_eq X (tgt := 43) dX8_takes_36 (by decide) ⟨by decide, by decide⟩ (fun _ => ?_) (fun q => absurd q (by decide))
    refine g_iconst X dX8_takes_43 ?_
    refine g_iadd X dX8_takes_44 ?_
    refine pf_X8_176 X fk12 dX8_takes_45 ?_
    refine g_iload_n X dX8_takes_48 rfl ?_
    exact R _ _ _ _ (Or.inl (by decide)) dX8_takes_49 ⟨frD.refl.up (by decide), Or.inr ⟨fun q => by first | omega | (rw [ch_out (show ¬ sp < L by omega)] at q; omega), rfl, by omega, (up_same _ _ _ _).trans (by omega)⟩⟩
  · skip
    refine g_aload_n X dX8_takes_11 rfl ?_
    refine gf_X8_23 X fk12 dX8_takes_12 ?_
    refine g_aload_n X dX8_takes_15 rfl ?_
    refine gf_X8_176 X fk12 (show σ 12 17 = sp from hs) dX8_takes_16 ?_
    refine g_iald X fk17 fl17 (by omega) (by omega) (by decide) (hT.ch (p := sp) (by omega) (by omega)) dX8_takes_19 ?_
    refine g_iload_n X dX8_takes_20 rfl ?_
    refine g_icmp_ne X (tgt := 28) dX8_takes_21 (by decide) ⟨by omega, by omega⟩ ⟨by omega, by omega⟩ (fun c2 => ?_) (fun c2 => ?_)
    · skip
      refine g_iconst X dX8_takes_28 ?_
      refine g_istore_n X (lw := [some (rv E (12)), some (iv (c)), some (iv (0))]) dX8_takes_29 (by decide) rfl rfl ?_
      refine g_aload_n X dX8_takes_30 rfl ?_
      refine g_dup X dX8_takes_31 rfl ?_
      refine gf_X8_176 X fk12 (show σ 12 17 = sp from hs) dX8_takes_32 ?_
      refine g_iload_n X dX8_takes_35 rfl ?_
      refine g_if_eq X (tgt := 43) dX8_takes_36 (by decide) ⟨by decide, by decide⟩ (fun _ => ?_) (fun q => absurd q (by decide))
      refine g_iconst X dX8_takes_43 ?_
      refine g_iadd X dX8_takes_44 ?_
      refine pf_X8_176 X fk12 dX8_takes_45 ?_
      refine g_iload_n X dX8_takes_48 rfl ?_
      exact R _ _ _ _ (Or.inl (by decide)) dX8_takes_49 ⟨frD.refl.up (by decide), Or.inr ⟨fun q => by first | omega | (rw [ch_out (show ¬ sp < L by omega)] at q; omega), rfl, by omega, (up_same _ _ _ _).trans (by omega)⟩⟩
    · skip
      refine g_iconst X dX8_takes_24 ?_
      refine g_goto X (tgt := 29) dX8_takes_25 (by decide) ?_
      refine g_istore_n X (lw := [some (rv E (12)), some (iv (c)), some (iv (1))]) dX8_takes_29 (by decide) rfl rfl ?_
      refine g_aload_n X dX8_takes_30 rfl ?_
      refine g_dup X dX8_takes_31 rfl ?_
      refine gf_X8_176 X fk12 (show σ 12 17 = sp from hs) dX8_takes_32 ?_
      refine g_iload_n X dX8_takes_35 rfl ?_
      refine g_if_eq X (tgt := 43) dX8_takes_36 (by decide) ⟨by decide, by decide⟩ (fun q => absurd q (by decide)) (fun _ => ?_)
      refine g_iconst X dX8_takes_39 ?_
      refine g_goto X (tgt := 44) dX8_takes_40 (by decide) ?_
      refine g_iadd X dX8_takes_44 ?_
      refine pf_X8_176 X fk12 dX8_takes_45 ?_
      refine g_iload_n X dX8_takes_48 rfl ?_
      exact R _ _ _ _ (Or.inr (by decide)) dX8_takes_49 ⟨frD.refl.up (by decide), Or.inl ⟨by omega, rfl, by omega, up_same _ _ _ _⟩⟩
set_option maxHeartbeats 1000000 in
set_option maxRecDepth 100000 in
theorem c_X8_isFormed (l : Launch) (E : wEnv) (σ : Mem) (L : Nat) (t : Nat → Int) (hB : CB (chT L t)) (hT : MT σ L t) (sp : Int) (hs : σ 12 17 = sp) (h0 : 0 ≤ sp) (h1 : sp ≤ L) : MetC l E yX8_isFormed cX8_isFormed 1 (some .boolean) 3 66 [rv E (12)] σ (fun v σ' => frD 20 σ σ' ∧ (0 ≤ σ' 12 17 ∧ σ' 12 17 ≤ L) ∧ (pF (chT L t) sp ∧ v = some (iv 1) ∧ σ' 12 18 = pP (chT L t) sp ∧ σ' 12 19 = pH (chT L t) sp ∧ σ' 12 20 = pT (chT L t) sp ∧ σ' 12 17 = pE (chT L t) sp ∨ ¬ pF (chT L t) sp ∧ v = some (iv 0))) := by
  refine MetC.of (own := RX8) (by decide) rfl (by simp [Value.category]) (Nat.le_of_ble_eq_true rfl) [some (rv E (12))] rfl (by simp) (fun K X R => ?_)
  have hL := hT.1
  have cb := hB sp
  refine g_aload_n X dX8_isFormed_0 rfl ?_
  refine g_aload_n X dX8_isFormed_1 rfl ?_
  refine g_iconst X dX8_isFormed_2 ?_
  refine g_iconst X dX8_isFormed_3 ?_
  refine cl_X8_183 X (c_X8_digits l E σ L t hB hT sp hs (by omega) (by omega) 1 1 (by omega) (by omega) 1 rfl) fk12 ⟨Nat.le_of_ble_eq_true rfl, Nat.le_of_ble_eq_true rfl⟩ rfl (Nat.le_of_ble_eq_true rfl) dX8_isFormed_4 rfl (fun v1 τ2 p3 => ?_)
  obtain ⟨hf4, hr4, hl4, ⟨hd4, rfl⟩ | ⟨hd4, rfl⟩⟩ := p3
  · skip
    replace hr4 : τ2 12 17 = sp + dg (chT L t) 1 sp := hr4
    replace hl4 : sp + dg (chT L t) 1 sp ≤ L := hl4
    have db4 := dg_bd (chT L t) 1 sp
    replace hd4 : dg (chT L t) 1 sp < 1 := hd4
    refine pf_X8_186 X fk12 dX8_isFormed_7 ?_
    refine g_aload_n X dX8_isFormed_10 rfl ?_
    refine gf_X8_186 X fk12 (up_same _ _ _ _) dX8_isFormed_11 ?_
    refine g_if_lt X (tgt := 26) dX8_isFormed_14 (by decide) ⟨by decide, by decide⟩ (fun _ => ?_) (fun q => absurd q (by decide))
    refine g_iconst X dX8_isFormed_26 ?_
    exact R _ _ _ _ (Or.inl (by decide)) dX8_isFormed_27 ⟨((frD.refl.trans (hf4.mono (by decide))).up (j := 18) (by decide)), (by have q : (up τ2 12 18 (-1)) 12 17 = sp + dg (chT L t) 1 sp := (up_ne2 (by decide) hr4); omega), Or.inr ⟨fun q => by have q2 := qF_iff.mpr q; unfold qF rB rA at q2; omega, rfl⟩⟩
  · skip
    replace hr4 : τ2 12 17 = sp + dg (chT L t) 1 sp := hr4
    replace hl4 : sp + dg (chT L t) 1 sp ≤ L := hl4
    have db4 := dg_bd (chT L t) 1 sp
    replace hd4 : 1 ≤ dg (chT L t) 1 sp := hd4
    have hs4 : τ2 12 17 = sp + 1 := by omega
    have hn4 := num_bd hB sp (dg (chT L t) 1 sp).toNat (by omega)
    have hk4 := num_nn (C := chT L t) (p := sp) (dg (chT L t) 1 sp).toNat (fun k b c => dg_at (chT L t) 1 sp k b (by omega))
    refine pf_X8_186 X fk12 dX8_isFormed_7 ?_
    refine g_aload_n X dX8_isFormed_10 rfl ?_
    refine gf_X8_186 X fk12 (up_same _ _ _ _) dX8_isFormed_11 ?_
    refine g_if_lt X (tgt := 26) dX8_isFormed_14 (by decide) ⟨by omega, by omega⟩ (fun c4 => ?_) (fun c4 => ?_)
    · skip
      refine g_iconst X dX8_isFormed_26 ?_
      exact R _ _ _ _ (Or.inl (by decide)) dX8_isFormed_27 ⟨((frD.refl.trans (hf4.mono (by decide))).up (j := 18) (by decide)), (by have q : (up τ2 12 18 (num (chT L t) sp (dg (chT L t) 1 sp).toNat)) 12 17 = sp + 1 := (up_ne2 (by decide) hs4); omega), Or.inr ⟨fun q => by have q2 := qF_iff.mpr q; unfold qF rB rA at q2; omega, rfl⟩⟩
    · skip
      refine g_aload_n X dX8_isFormed_17 rfl ?_
      refine g_bipush X dX8_isFormed_18 (by decide) ?_
      refine cl_X8_189 X (c_X8_takes l E (up τ2 12 18 (num (chT L t) sp (dg (chT L t) 1 sp).toNat)) L t hB ((hT.fD hf4).fD (b := 21) (frD.refl.up (j := 18) (by decide))) (sp + 1) (up_ne2 (by decide) hs4) (by omega) (by omega) 58 (by omega)) fk12 ⟨Nat.le_of_ble_eq_true rfl, Nat.le_of_ble_eq_true rfl⟩ rfl (Nat.le_of_ble_eq_true rfl) dX8_isFormed_20 rfl (fun v5 τ6 p7 => ?_)
      obtain ⟨hf20, ⟨hc20, rfl, hl20, hr20⟩ | ⟨hc20, rfl, hl20, hr20⟩⟩ := p7
      · skip
        have hs20 : τ6 12 17 = sp + 2 := by omega
        refine g_if_ne X (tgt := 28) dX8_isFormed_23 (by decide) ⟨by decide, by decide⟩ (fun _ => ?_) (fun q => absurd q (by decide))
        refine g_aload_n X dX8_isFormed_28 rfl ?_
        refine g_aload_n X dX8_isFormed_29 rfl ?_
        refine g_iconst X dX8_isFormed_30 ?_
        refine g_iconst X dX8_isFormed_31 ?_
        refine cl_X8_183 X (c_X8_digits l E τ6 L t hB (((hT.fD hf4).fD (b := 21) (frD.refl.up (j := 18) (by decide))).fD hf20) (sp + 2) hs20 (by omega) (by omega) 3 4 (by omega) (by omega) 4 rfl) fk12 ⟨Nat.le_of_ble_eq_true rfl, Nat.le_of_ble_eq_true rfl⟩ rfl (Nat.le_of_ble_eq_true rfl) dX8_isFormed_32 rfl (fun v8 τ9 p10 => ?_)
        obtain ⟨hf32, hr32, hl32, ⟨hd32, rfl⟩ | ⟨hd32, rfl⟩⟩ := p10
        · skip
          replace hr32 : τ9 12 17 = sp + 2 + dg (chT L t) 4 (sp + 2) := hr32
          replace hl32 : sp + 2 + dg (chT L t) 4 (sp + 2) ≤ L := hl32
          have db32 := dg_bd (chT L t) 4 (sp + 2)
          replace hd32 : dg (chT L t) 4 (sp + 2) < 3 := hd32
          refine pf_X8_192 X fk12 dX8_isFormed_35 ?_
          refine g_aload_n X dX8_isFormed_38 rfl ?_
          refine gf_X8_192 X fk12 (up_same _ _ _ _) dX8_isFormed_39 ?_
          refine g_if_ge X (tgt := 47) dX8_isFormed_42 (by decide) ⟨by decide, by decide⟩ (fun q => absurd q (by decide)) (fun _ => ?_)
          refine g_iconst X dX8_isFormed_45 ?_
          exact R _ _ _ _ (Or.inl (by decide)) dX8_isFormed_46 ⟨(((((frD.refl.trans (hf4.mono (by decide))).up (j := 18) (by decide)).trans (hf20.mono (by decide))).trans (hf32.mono (by decide))).up (j := 19) (by decide)), (by have q : (up τ9 12 19 (-1)) 12 17 = sp + 2 + dg (chT L t) 4 (sp + 2) := (up_ne2 (by decide) hr32); omega), Or.inr ⟨fun q => by have q2 := qF_iff.mpr q; unfold qF rB rA at q2; omega, rfl⟩⟩
        · skip
          replace hr32 : τ9 12 17 = sp + 2 + dg (chT L t) 4 (sp + 2) := hr32
          replace hl32 : sp + 2 + dg (chT L t) 4 (sp + 2) ≤ L := hl32
          have db32 := dg_bd (chT L t) 4 (sp + 2)
          replace hd32 : 3 ≤ dg (chT L t) 4 (sp + 2) := hd32
          have hs32 : τ9 12 17 = sp + 2 + dg (chT L t) 4 (sp + 2) := by omega
          have hn32 := num_bd hB (sp + 2) (dg (chT L t) 4 (sp + 2)).toNat (by omega)
          have hk32 := num_nn (C := chT L t) (p := sp + 2) (dg (chT L t) 4 (sp + 2)).toNat (fun k b c => dg_at (chT L t) 4 (sp + 2) k b (by omega))
          refine pf_X8_192 X fk12 dX8_isFormed_35 ?_
          refine g_aload_n X dX8_isFormed_38 rfl ?_
          refine gf_X8_192 X fk12 (up_same _ _ _ _) dX8_isFormed_39 ?_
          refine g_if_ge X (tgt := 47) dX8_isFormed_42 (by decide) ⟨by omega, by omega⟩ (fun c11 => ?_) (fun c11 => ?_)
          · skip
            refine g_aload_n X dX8_isFormed_47 rfl ?_
            refine g_aload_n X dX8_isFormed_48 rfl ?_
            refine g_bipush X dX8_isFormed_49 (by decide) ?_
            refine cl_X8_189 X (c_X8_takes l E (up τ9 12 19 (num (chT L t) (sp + 2) (dg (chT L t) 4 (sp + 2)).toNat)) L t hB (((((hT.fD hf4).fD (b := 21) (frD.refl.up (j := 18) (by decide))).fD hf20).fD hf32).fD (b := 21) (frD.refl.up (j := 19) (by decide))) (sp + 2 + dg (chT L t) 4 (sp + 2)) (up_ne2 (by decide) hs32) (by omega) (by omega) 42 (by omega)) fk12 ⟨Nat.le_of_ble_eq_true rfl, Nat.le_of_ble_eq_true rfl⟩ rfl (Nat.le_of_ble_eq_true rfl) dX8_isFormed_51 rfl (fun v12 τ13 p14 => ?_)
            obtain ⟨hf51, ⟨hc51, rfl, hl51, hr51⟩ | ⟨hc51, rfl, hl51, hr51⟩⟩ := p14
            · skip
              have hs51 : τ13 12 17 = sp + 2 + dg (chT L t) 4 (sp + 2) + 1 := by omega
              refine g_if_eq X (tgt := 66) dX8_isFormed_54 (by decide) ⟨by decide, by decide⟩ (fun q => absurd q (by decide)) (fun _ => ?_)
              refine g_aload_n X dX8_isFormed_57 rfl ?_
              refine g_iconst X dX8_isFormed_58 ?_
              refine g_iconst X dX8_isFormed_59 ?_
              refine cl_X8_183 X (c_X8_digits l E τ13 L t hB ((((((hT.fD hf4).fD (b := 21) (frD.refl.up (j := 18) (by decide))).fD hf20).fD hf32).fD (b := 21) (frD.refl.up (j := 19) (by decide))).fD hf51) (sp + 2 + dg (chT L t) 4 (sp + 2) + 1) hs51 (by omega) (by omega) 1 2 (by omega) (by omega) 2 rfl) fk12 ⟨Nat.le_of_ble_eq_true rfl, Nat.le_of_ble_eq_true rfl⟩ rfl (Nat.le_of_ble_eq_true rfl) dX8_isFormed_60 rfl (fun v15 τ16 p17 => ?_)
              obtain ⟨hf60, hr60, hl60, ⟨hd60, rfl⟩ | ⟨hd60, rfl⟩⟩ := p17
              · skip
                replace hr60 : τ16 12 17 = sp + 2 + dg (chT L t) 4 (sp + 2) + 1 + dg (chT L t) 2 (sp + 2 + dg (chT L t) 4 (sp + 2) + 1) := hr60
                replace hl60 : sp + 2 + dg (chT L t) 4 (sp + 2) + 1 + dg (chT L t) 2 (sp + 2 + dg (chT L t) 4 (sp + 2) + 1) ≤ L := hl60
                have db60 := dg_bd (chT L t) 2 (sp + 2 + dg (chT L t) 4 (sp + 2) + 1)
                replace hd60 : dg (chT L t) 2 (sp + 2 + dg (chT L t) 4 (sp + 2) + 1) < 1 := hd60
                refine g_goto X (tgt := 67) dX8_isFormed_63 (by decide) ?_
                refine pf_X8_195 X fk12 dX8_isFormed_67 ?_
                refine g_aload_n X dX8_isFormed_70 rfl ?_
                refine gf_X8_195 X fk12 (up_same _ _ _ _) dX8_isFormed_71 ?_
                refine g_if_lt X (tgt := 90) dX8_isFormed_74 (by decide) ⟨by decide, by decide⟩ (fun _ => ?_) (fun q => absurd q (by decide))
                refine g_iconst X dX8_isFormed_90 ?_
                exact R _ _ _ _ (Or.inl (by decide)) dX8_isFormed_91 ⟨((((((((frD.refl.trans (hf4.mono (by decide))).up (j := 18) (by decide)).trans (hf20.mono (by decide))).trans (hf32.mono (by decide))).up (j := 19) (by decide)).trans (hf51.mono (by decide))).trans (hf60.mono (by decide))).up (j := 20) (by decide)), (by have q : (up τ16 12 20 (-1)) 12 17 = sp + 2 + dg (chT L t) 4 (sp + 2) + 1 + dg (chT L t) 2 (sp + 2 + dg (chT L t) 4 (sp + 2) + 1) := (up_ne2 (by decide) hr60); omega), Or.inr ⟨fun q => by have q2 := qF_iff.mpr q; unfold qF rB rA at q2; omega, rfl⟩⟩
              · skip
                replace hr60 : τ16 12 17 = sp + 2 + dg (chT L t) 4 (sp + 2) + 1 + dg (chT L t) 2 (sp + 2 + dg (chT L t) 4 (sp + 2) + 1) := hr60
                replace hl60 : sp + 2 + dg (chT L t) 4 (sp + 2) + 1 + dg (chT L t) 2 (sp + 2 + dg (chT L t) 4 (sp + 2) + 1) ≤ L := hl60
                have db60 := dg_bd (chT L t) 2 (sp + 2 + dg (chT L t) 4 (sp + 2) + 1)
                replace hd60 : 1 ≤ dg (chT L t) 2 (sp + 2 + dg (chT L t) 4 (sp + 2) + 1) := hd60
                have hs60 : τ16 12 17 = sp + 2 + dg (chT L t) 4 (sp + 2) + 1 + dg (chT L t) 2 (sp + 2 + dg (chT L t) 4 (sp + 2) + 1) := by omega
                have hn60 := num_bd hB (sp + 2 + dg (chT L t) 4 (sp + 2) + 1) (dg (chT L t) 2 (sp + 2 + dg (chT L t) 4 (sp + 2) + 1)).toNat (by omega)
                have hk60 := num_nn (C := chT L t) (p := sp + 2 + dg (chT L t) 4 (sp + 2) + 1) (dg (chT L t) 2 (sp + 2 + dg (chT L t) 4 (sp + 2) + 1)).toNat (fun k b c => dg_at (chT L t) 2 (sp + 2 + dg (chT L t) 4 (sp + 2) + 1) k b (by omega))
                refine g_goto X (tgt := 67) dX8_isFormed_63 (by decide) ?_
                refine pf_X8_195 X fk12 dX8_isFormed_67 ?_
                refine g_aload_n X dX8_isFormed_70 rfl ?_
                refine gf_X8_195 X fk12 (up_same _ _ _ _) dX8_isFormed_71 ?_
                refine g_if_lt X (tgt := 90) dX8_isFormed_74 (by decide) ⟨by omega, by omega⟩ (fun c18 => ?_) (fun c18 => ?_)
                · skip
                  refine g_iconst X dX8_isFormed_90 ?_
                  exact R _ _ _ _ (Or.inl (by decide)) dX8_isFormed_91 ⟨((((((((frD.refl.trans (hf4.mono (by decide))).up (j := 18) (by decide)).trans (hf20.mono (by decide))).trans (hf32.mono (by decide))).up (j := 19) (by decide)).trans (hf51.mono (by decide))).trans (hf60.mono (by decide))).up (j := 20) (by decide)), (by have q : (up τ16 12 20 (num (chT L t) (sp + 2 + dg (chT L t) 4 (sp + 2) + 1) (dg (chT L t) 2 (sp + 2 + dg (chT L t) 4 (sp + 2) + 1)).toNat)) 12 17 = sp + 2 + dg (chT L t) 4 (sp + 2) + 1 + dg (chT L t) 2 (sp + 2 + dg (chT L t) 4 (sp + 2) + 1) := (up_ne2 (by decide) hs60); omega), Or.inr ⟨fun q => by have q2 := qF_iff.mpr q; unfold qF rB rA at q2; omega, rfl⟩⟩
                · skip
                  refine g_aload_n X dX8_isFormed_77 rfl ?_
                  refine g_bipush X dX8_isFormed_78 (by decide) ?_
                  refine cl_X8_189 X (c_X8_takes l E (up τ16 12 20 (num (chT L t) (sp + 2 + dg (chT L t) 4 (sp + 2) + 1) (dg (chT L t) 2 (sp + 2 + dg (chT L t) 4 (sp + 2) + 1)).toNat)) L t hB ((((((((hT.fD hf4).fD (b := 21) (frD.refl.up (j := 18) (by decide))).fD hf20).fD hf32).fD (b := 21) (frD.refl.up (j := 19) (by decide))).fD hf51).fD hf60).fD (b := 21) (frD.refl.up (j := 20) (by decide))) (sp + 2 + dg (chT L t) 4 (sp + 2) + 1 + dg (chT L t) 2 (sp + 2 + dg (chT L t) 4 (sp + 2) + 1)) (up_ne2 (by decide) hs60) (by omega) (by omega) 59 (by omega)) fk12 ⟨Nat.le_of_ble_eq_true rfl, Nat.le_of_ble_eq_true rfl⟩ rfl (Nat.le_of_ble_eq_true rfl) dX8_isFormed_80 rfl (fun v19 τ20 p21 => ?_)
                  obtain ⟨hf80, ⟨hc80, rfl, hl80, hr80⟩ | ⟨hc80, rfl, hl80, hr80⟩⟩ := p21
                  · skip
                    have hs80 : τ20 12 17 = sp + 2 + dg (chT L t) 4 (sp + 2) + 1 + dg (chT L t) 2 (sp + 2 + dg (chT L t) 4 (sp + 2) + 1) + 1 := by omega
                    refine g_if_eq X (tgt := 90) dX8_isFormed_83 (by decide) ⟨by decide, by decide⟩ (fun q => absurd q (by decide)) (fun _ => ?_)
                    refine g_iconst X dX8_isFormed_86 ?_
                    refine g_goto X (tgt := 91) dX8_isFormed_87 (by decide) ?_
                    exact R _ _ _ _ (Or.inr (by decide)) dX8_isFormed_91 (by have hq : qF (chT L t) sp := (by unfold qF rB rA; omega); have hv := hq.v; exact ⟨(((((((((frD.refl.trans (hf4.mono (by decide))).up (j := 18) (by decide)).trans (hf20.mono (by decide))).trans (hf32.mono (by decide))).up (j := 19) (by decide)).trans (hf51.mono (by decide))).trans (hf60.mono (by decide))).up (j := 20) (by decide)).trans (hf80.mono (by decide))), (by have q : τ20 12 17 = sp + 2 + dg (chT L t) 4 (sp + 2) + 1 + dg (chT L t) 2 (sp + 2 + dg (chT L t) 4 (sp + 2) + 1) + 1 := hs80; omega), Or.inl ⟨qF_iff.mp hq, rfl, (show τ20 12 18 = num (chT L t) sp (dg (chT L t) 1 sp).toNat from (show τ20 12 18 = num (chT L t) sp (dg (chT L t) 1 sp).toNat from (hf80 12 18 (by omega)).trans (up_ne2 (by decide) (show τ16 12 18 = num (chT L t) sp (dg (chT L t) 1 sp).toNat from (hf60 12 18 (by omega)).trans (show τ13 12 18 = num (chT L t) sp (dg (chT L t) 1 sp).toNat from (hf51 12 18 (by omega)).trans (up_ne2 (by decide) (show τ9 12 18 = num (chT L t) sp (dg (chT L t) 1 sp).toNat from (hf32 12 18 (by omega)).trans (show τ6 12 18 = num (chT L t) sp (dg (chT L t) 1 sp).toNat from (hf20 12 18 (by omega)).trans (up_same _ _ _ _))))))))).trans (congrArg (num (chT L t) sp) (by omega)), (show τ20 12 19 = num (chT L t) (sp + 2) (dg (chT L t) 4 (sp + 2)).toNat from (show τ20 12 19 = num (chT L t) (sp + 2) (dg (chT L t) 4 (sp + 2)).toNat from (hf80 12 19 (by omega)).trans (up_ne2 (by decide) (show τ16 12 19 = num (chT L t) (sp + 2) (dg (chT L t) 4 (sp + 2)).toNat from (hf60 12 19 (by omega)).trans (show τ13 12 19 = num (chT L t) (sp + 2) (dg (chT L t) 4 (sp + 2)).toNat from (hf51 12 19 (by omega)).trans (up_same _ _ _ _)))))).trans hv.1.symm, (show τ20 12 20 = num (chT L t) (sp + 2 + dg (chT L t) 4 (sp + 2) + 1) (dg (chT L t) 2 (sp + 2 + dg (chT L t) 4 (sp + 2) + 1)).toNat from (show τ20 12 20 = num (chT L t) (sp + 2 + dg (chT L t) 4 (sp + 2) + 1) (dg (chT L t) 2 (sp + 2 + dg (chT L t) 4 (sp + 2) + 1)).toNat from (hf80 12 20 (by omega)).trans (up_same _ _ _ _))).trans (by first | exact (hv.2.1 (by omega)).1.symm | exact (hv.2.2 (by omega)).1.symm), (show τ20 12 17 = sp + 2 + dg (chT L t) 4 (sp + 2) + 1 + dg (chT L t) 2 (sp + 2 + dg (chT L t) 4 (sp + 2) + 1) + 1 from hs80).trans (by first | exact (hv.2.1 (by omega)).2.symm | exact (hv.2.2 (by omega)).2.symm)⟩⟩)
                  · skip
                    refine g_if_eq X (tgt := 90) dX8_isFormed_83 (by decide) ⟨by decide, by decide⟩ (fun _ => ?_) (fun q => absurd q (by decide))
                    refine g_iconst X dX8_isFormed_90 ?_
                    exact R _ _ _ _ (Or.inl (by decide)) dX8_isFormed_91 ⟨(((((((((frD.refl.trans (hf4.mono (by decide))).up (j := 18) (by decide)).trans (hf20.mono (by decide))).trans (hf32.mono (by decide))).up (j := 19) (by decide)).trans (hf51.mono (by decide))).trans (hf60.mono (by decide))).up (j := 20) (by decide)).trans (hf80.mono (by decide))), (by have q : τ20 12 17 = sp + 2 + dg (chT L t) 4 (sp + 2) + 1 + dg (chT L t) 2 (sp + 2 + dg (chT L t) 4 (sp + 2) + 1) := hr80; omega), Or.inr ⟨fun q => by have q2 := qF_iff.mpr q; unfold qF rB rA at q2; omega, rfl⟩⟩
            · skip
              refine g_if_eq X (tgt := 66) dX8_isFormed_54 (by decide) ⟨by decide, by decide⟩ (fun _ => ?_) (fun q => absurd q (by decide))
              refine g_iconst X dX8_isFormed_66 ?_
              refine pf_X8_195 X fk12 dX8_isFormed_67 ?_
              refine g_aload_n X dX8_isFormed_70 rfl ?_
              refine gf_X8_195 X fk12 (up_same _ _ _ _) dX8_isFormed_71 ?_
              refine g_if_lt X (tgt := 90) dX8_isFormed_74 (by decide) ⟨by decide, by decide⟩ (fun q => absurd q (by decide)) (fun _ => ?_)
              refine g_aload_n X dX8_isFormed_77 rfl ?_
              refine g_bipush X dX8_isFormed_78 (by decide) ?_
              refine cl_X8_189 X (c_X8_takes l E (up τ13 12 20 (1)) L t hB (((((((hT.fD hf4).fD (b := 21) (frD.refl.up (j := 18) (by decide))).fD hf20).fD hf32).fD (b := 21) (frD.refl.up (j := 19) (by decide))).fD hf51).fD (b := 21) (frD.refl.up (j := 20) (by decide))) (sp + 2 + dg (chT L t) 4 (sp + 2)) (up_ne2 (by decide) hr51) (by omega) (by omega) 59 (by omega)) fk12 ⟨Nat.le_of_ble_eq_true rfl, Nat.le_of_ble_eq_true rfl⟩ rfl (Nat.le_of_ble_eq_true rfl) dX8_isFormed_80 rfl (fun v22 τ23 p24 => ?_)
              obtain ⟨hf80, ⟨hc80, rfl, hl80, hr80⟩ | ⟨hc80, rfl, hl80, hr80⟩⟩ := p24
              · skip
                have hs80 : τ23 12 17 = sp + 2 + dg (chT L t) 4 (sp + 2) + 1 := by omega
                refine g_if_eq X (tgt := 90) dX8_isFormed_83 (by decide) ⟨by decide, by decide⟩ (fun q => absurd q (by decide)) (fun _ => ?_)
                refine g_iconst X dX8_isFormed_86 ?_
                refine g_goto X (tgt := 91) dX8_isFormed_87 (by decide) ?_
                exact R _ _ _ _ (Or.inr (by decide)) dX8_isFormed_91 (by have hq : qF (chT L t) sp := (by unfold qF rB rA; omega); have hv := hq.v; exact ⟨((((((((frD.refl.trans (hf4.mono (by decide))).up (j := 18) (by decide)).trans (hf20.mono (by decide))).trans (hf32.mono (by decide))).up (j := 19) (by decide)).trans (hf51.mono (by decide))).up (j := 20) (by decide)).trans (hf80.mono (by decide))), (by have q : τ23 12 17 = sp + 2 + dg (chT L t) 4 (sp + 2) + 1 := hs80; omega), Or.inl ⟨qF_iff.mp hq, rfl, (show τ23 12 18 = num (chT L t) sp (dg (chT L t) 1 sp).toNat from (show τ23 12 18 = num (chT L t) sp (dg (chT L t) 1 sp).toNat from (hf80 12 18 (by omega)).trans (up_ne2 (by decide) (show τ13 12 18 = num (chT L t) sp (dg (chT L t) 1 sp).toNat from (hf51 12 18 (by omega)).trans (up_ne2 (by decide) (show τ9 12 18 = num (chT L t) sp (dg (chT L t) 1 sp).toNat from (hf32 12 18 (by omega)).trans (show τ6 12 18 = num (chT L t) sp (dg (chT L t) 1 sp).toNat from (hf20 12 18 (by omega)).trans (up_same _ _ _ _)))))))).trans (congrArg (num (chT L t) sp) (by omega)), (show τ23 12 19 = num (chT L t) (sp + 2) (dg (chT L t) 4 (sp + 2)).toNat from (show τ23 12 19 = num (chT L t) (sp + 2) (dg (chT L t) 4 (sp + 2)).toNat from (hf80 12 19 (by omega)).trans (up_ne2 (by decide) (show τ13 12 19 = num (chT L t) (sp + 2) (dg (chT L t) 4 (sp + 2)).toNat from (hf51 12 19 (by omega)).trans (up_same _ _ _ _))))).trans hv.1.symm, (show τ23 12 20 = 1 from (show τ23 12 20 = 1 from (hf80 12 20 (by omega)).trans (up_same _ _ _ _))).trans (by first | exact (hv.2.1 (by omega)).1.symm | exact (hv.2.2 (by omega)).1.symm), (show τ23 12 17 = sp + 2 + dg (chT L t) 4 (sp + 2) + 1 from hs80).trans (by first | exact (hv.2.1 (by omega)).2.symm | exact (hv.2.2 (by omega)).2.symm)⟩⟩)
              · skip
                refine g_if_eq X (tgt := 90) dX8_isFormed_83 (by decide) ⟨by decide, by decide⟩ (fun _ => ?_) (fun q => absurd q (by decide))
                refine g_iconst X dX8_isFormed_90 ?_
                exact R _ _ _ _ (Or.inl (by decide)) dX8_isFormed_91 ⟨((((((((frD.refl.trans (hf4.mono (by decide))).up (j := 18) (by decide)).trans (hf20.mono (by decide))).trans (hf32.mono (by decide))).up (j := 19) (by decide)).trans (hf51.mono (by decide))).up (j := 20) (by decide)).trans (hf80.mono (by decide))), (by have q : τ23 12 17 = sp + 2 + dg (chT L t) 4 (sp + 2) := hr80; omega), Or.inr ⟨fun q => by have q2 := qF_iff.mpr q; unfold qF rB rA at q2; omega, rfl⟩⟩
          · skip
            refine g_iconst X dX8_isFormed_45 ?_
            exact R _ _ _ _ (Or.inl (by decide)) dX8_isFormed_46 ⟨(((((frD.refl.trans (hf4.mono (by decide))).up (j := 18) (by decide)).trans (hf20.mono (by decide))).trans (hf32.mono (by decide))).up (j := 19) (by decide)), (by have q : (up τ9 12 19 (num (chT L t) (sp + 2) (dg (chT L t) 4 (sp + 2)).toNat)) 12 17 = sp + 2 + dg (chT L t) 4 (sp + 2) := (up_ne2 (by decide) hs32); omega), Or.inr ⟨fun q => by have q2 := qF_iff.mpr q; unfold qF rB rA at q2; omega, rfl⟩⟩
      · skip
        refine g_if_ne X (tgt := 28) dX8_isFormed_23 (by decide) ⟨by decide, by decide⟩ (fun q => absurd q (by decide)) (fun _ => ?_)
        refine g_iconst X dX8_isFormed_26 ?_
        exact R _ _ _ _ (Or.inl (by decide)) dX8_isFormed_27 ⟨(((frD.refl.trans (hf4.mono (by decide))).up (j := 18) (by decide)).trans (hf20.mono (by decide))), (by have q : τ6 12 17 = sp + 1 := hr20; omega), Or.inr ⟨fun q => by have q2 := qF_iff.mpr q; unfold qF rB rA at q2; omega, rfl⟩⟩
set_option maxHeartbeats 1000000 in
set_option maxRecDepth 100000 in
theorem c_X8_reason (l : Launch) (E : wEnv) (σ : Mem) (L : Nat) (t : Nat → Int) (hB : CB (chT L t)) (hT : MT σ L t) (sp : Int) (hs : σ 12 17 = sp) (h0 : 0 ≤ sp) (h1 : sp ≤ L) (r : Row) (N : Int) (hM : RR σ r) (hR : RInv r N) : MetC l E yX8_reason cX8_reason 1 (some .int) 4 86 [rv E (12)] σ (fun v σ' => v = some (iv (rsn (chT L t) sp (r 19))) ∧ frD 20 σ σ' ∧ (0 ≤ σ' 12 17 ∧ σ' 12 17 ≤ L) ∧ (rsn (chT L t) sp (r 19) = 0 → σ' 12 18 = pP (chT L t) sp ∧ σ' 12 19 = pH (chT L t) sp ∧ σ' 12 20 = pT (chT L t) sp ∧ σ' 12 17 = pE (chT L t) sp)) := by
  refine MetC.of (own := RX8) (by decide) rfl (by simp [Value.category]) (Nat.le_of_ble_eq_true rfl) [some (rv E (12))] rfl (by simp) (fun K X R => ?_)
  have hL := hT.1
  have cb := hB sp
  have r19 := hR.2.2.2.2.1
  refine g_aload_n X dX8_reason_0 rfl ?_
  refine cl_X8_198 X (c_X8_isFormed l E σ L t hB hT sp hs (by omega) (by omega)  ) fk12 ⟨Nat.le_of_ble_eq_true rfl, Nat.le_of_ble_eq_true rfl⟩ rfl (Nat.le_of_ble_eq_true rfl) dX8_reason_1 rfl (fun v1 τ2 p3 => ?_)
  obtain ⟨hf1, hb1, ⟨hF1, rfl, e1_18, e1_19, e1_20, e1_17⟩ | ⟨hF1, rfl⟩⟩ := p3
  · skip
    have pb1 := hF1.b
    have ph1 := hF1.hi hB
    have pl1 := hF1.lt
    refine g_if_ne X (tgt := 9) dX8_reason_4 (by decide) ⟨by decide, by decide⟩ (fun _ => ?_) (fun q => absurd q (by decide))
    refine g_aload_n X dX8_reason_9 rfl ?_
    refine g_aload_n X dX8_reason_10 rfl ?_
    refine gf_X8_186 X fk12 (show τ2 12 18 = pP (chT L t) sp from e1_18) dX8_reason_11 ?_
    refine cl_X8_103 X (c_X8_isPile l E τ2 r N (hM.fD hf1) hR (pP (chT L t) sp) ⟨by omega, by omega⟩) fk12 ⟨Nat.le_of_ble_eq_true rfl, Nat.le_of_ble_eq_true rfl⟩ rfl (Nat.le_of_ble_eq_true rfl) dX8_reason_14 rfl (fun v4 τ5 p6 => ?_)
    obtain ⟨rfl, ⟨b7, rfl⟩ | ⟨b7, rfl⟩⟩ := p6
    · skip
      have pi14 := (hR.2.2.2.2.2.2 (pP (chT L t) sp).toNat (by omega)).f
      refine g_if_ne X (tgt := 22) dX8_reason_17 (by decide) ⟨by decide, by decide⟩ (fun _ => ?_) (fun q => absurd q (by decide))
      refine g_aload_n X dX8_reason_22 rfl ?_
      refine gf_X8_192 X fk12 (show τ2 12 19 = pH (chT L t) sp from e1_19) dX8_reason_23 ?_
      refine cl_X8_139 X (c_X8_isFall l E τ2 (pH (chT L t) sp) ⟨by omega, by omega⟩) ⟨Nat.le_of_ble_eq_true rfl, Nat.le_of_ble_eq_true rfl⟩ rfl (Nat.le_of_ble_eq_true rfl) dX8_reason_26 rfl (fun v8 τ9 p10 => ?_)
      obtain ⟨rfl, ⟨b11, rfl⟩ | ⟨b11, rfl⟩⟩ := p10
      · skip
        skip
        refine g_if_eq X (tgt := 49) dX8_reason_29 (by decide) ⟨by decide, by decide⟩ (fun q => absurd q (by decide)) (fun _ => ?_)
        refine g_aload_n X dX8_reason_32 rfl ?_
        refine gf_X8_195 X fk12 (show τ2 12 20 = pT (chT L t) sp from e1_20) dX8_reason_33 ?_
        refine g_iconst X dX8_reason_36 ?_
        refine g_bipush X dX8_reason_37 (by decide) ?_
        refine cl_X8_51 X (c_X8_in l E τ2 (pT (chT L t) sp) 1 40 ⟨by omega, by omega⟩ ⟨by decide, by decide⟩ ⟨by decide, by decide⟩) ⟨Nat.le_of_ble_eq_true rfl, Nat.le_of_ble_eq_true rfl⟩ rfl (Nat.le_of_ble_eq_true rfl) dX8_reason_39 rfl (fun v12 τ13 p14 => ?_)
        obtain ⟨rfl, ⟨b15, rfl⟩ | ⟨b15, rfl⟩⟩ := p14
        · skip
          skip
          refine g_if_eq X (tgt := 49) dX8_reason_42 (by decide) ⟨by decide, by decide⟩ (fun q => absurd q (by decide)) (fun _ => ?_)
          refine g_iconst X dX8_reason_45 ?_
          refine g_goto X (tgt := 50) dX8_reason_46 (by decide) ?_
          exact R _ _ _ _ dX8_reason_50 ⟨congrArg (fun z => some (iv z)) (rsn_4 hF1 (by omega) (by omega)).symm, hf1, hb1, fun _ => ⟨e1_18, e1_19, e1_20, e1_17⟩⟩
        · skip
          skip
          refine g_if_eq X (tgt := 49) dX8_reason_42 (by decide) ⟨by decide, by decide⟩ (fun _ => ?_) (fun q => absurd q (by decide))
          refine g_iconst X dX8_reason_49 ?_
          exact R _ _ _ _ dX8_reason_50 ⟨congrArg (fun z => some (iv z)) (rsn_3 hF1 (by omega) (by omega)).symm, hf1, hb1, fun q => absurd ((rsn_3 hF1 (by omega) (by omega)).symm.trans q) (by decide)⟩
      · skip
        skip
        refine g_if_eq X (tgt := 49) dX8_reason_29 (by decide) ⟨by decide, by decide⟩ (fun _ => ?_) (fun q => absurd q (by decide))
        refine g_iconst X dX8_reason_49 ?_
        exact R _ _ _ _ dX8_reason_50 ⟨congrArg (fun z => some (iv z)) (rsn_3 hF1 (by omega) (by omega)).symm, hf1, hb1, fun q => absurd ((rsn_3 hF1 (by omega) (by omega)).symm.trans q) (by decide)⟩
    · skip
      skip
      refine g_if_ne X (tgt := 22) dX8_reason_17 (by decide) ⟨by decide, by decide⟩ (fun q => absurd q (by decide)) (fun _ => ?_)
      refine g_iconst X dX8_reason_20 ?_
      exact R _ _ _ _ dX8_reason_21 ⟨congrArg (fun z => some (iv z)) (rsn_2 hF1 (by omega)).symm, hf1, hb1, fun q => absurd ((rsn_2 hF1 (by omega)).symm.trans q) (by decide)⟩
  · skip
    refine g_if_ne X (tgt := 9) dX8_reason_4 (by decide) ⟨by decide, by decide⟩ (fun q => absurd q (by decide)) (fun _ => ?_)
    refine g_iconst X dX8_reason_7 ?_
    exact R _ _ _ _ dX8_reason_8 ⟨congrArg (fun z => some (iv z)) (rsn_no hF1).symm, hf1, hb1, fun q => absurd ((rsn_no hF1).symm.trans q) (by decide)⟩
set_option maxHeartbeats 1000000 in
set_option maxRecDepth 100000 in
theorem c_X8_reasonOfText (l : Launch) (E : wEnv) (σ : Mem) (L : Nat) (t : Nat → Int) (hB : CB (chT L t)) (hT : MT σ L t) (r : Row) (N : Int) (hM : RR σ r) (hR : RInv r N) : MetC l E yX8_reasonOfText cX8_reasonOfText 2 (some .int) 5 106 [rv E (12)] σ (fun v σ' => v = some (iv (fltT (chT L t) L (r 19) 80 0).1) ∧ frD 21 σ σ' ∧ (¬ (fltT (chT L t) L (r 19) 80 0).1 = 0 → σ' 12 21 = (fltT (chT L t) L (r 19) 80 0).2)) := by
  refine MetC.of (own := RX8) (by decide) rfl (by simp [Value.category]) (Nat.le_of_ble_eq_true rfl) [some (rv E (12)), none] rfl (by simp) (fun K X R => ?_)
  have hL := hT.1
  refine g_aload_n X dX8_reasonOfText_0 rfl ?_
  refine g_iconst X dX8_reasonOfText_1 ?_
  refine pf_X8_176 X fk12 dX8_reasonOfText_2 ?_
  refine g_iconst X dX8_reasonOfText_5 ?_
  refine g_istore_n X (lw := [some (rv E (12)), some (iv (0))]) dX8_reasonOfText_6 (by decide) rfl rfl ?_
  have L1 : ∀ (fu : Nat) (τ : Mem) (q : Int) (fu0 : Nat) (g : Int), (0 ≤ g ∧ g ≤ 3) → (0 ≤ q ∧ q ≤ L) → (frD 21 σ τ) → (τ 12 17 = q) → ((g = 0 → (fltT (chT L t) L (r 19) 80 0) = fltT (chT L t) L (r 19) fu0 q ∧ (L : Int) - q ≤ fu0) ∧ (¬ g = 0 → (fltT (chT L t) L (r 19) 80 0) = (g, τ 12 21))) → (if g = 0 then (L : Int) - q + 1 else 0) < (fu : Int) → K τ 7 [some (rv E (12)), some (iv (g))] [] := by
    intro fu
    induction fu with
    | zero =>
      intro τ q fu0 g jg jq jf js j3 hm
      exact absurd hm (by omega)
    | succ fu ih1 =>
      intro τ q fu0 g jg jq jf js j3 hm
      refine g_aload_n X dX8_reasonOfText_7 rfl ?_
      refine gf_X8_176 X fk12 (show τ 12 17 = q from js) dX8_reasonOfText_8 ?_
      refine g_aload_n X dX8_reasonOfText_11 rfl ?_
      refine gf_X8_81 X fk12 (hT.fD jf).2.1 dX8_reasonOfText_12 ?_
      refine g_icmp_ge X (tgt := 38) dX8_reasonOfText_15 (by decide) ⟨by omega, by omega⟩ ⟨by omega, by omega⟩ (fun c2 => ?_) (fun c2 => ?_)
      · skip
        refine g_iload_n X dX8_reasonOfText_38 rfl ?_
        exact R _ _ _ _ dX8_reasonOfText_39 (by have e : (fltT (chT L t) L (r 19) 80 0).1 = g ∧ (¬ g = 0 → τ 12 21 = (fltT (chT L t) L (r 19) 80 0).2) := by { by_cases z : g = 0; (have q := j3.1 z; rw [q.1, fltT_done (by omega)]; exact ⟨z.symm, fun y => absurd z y⟩); (have q := j3.2 z; rw [q]; exact ⟨rfl, fun _ => rfl⟩) }; rw [e.1]; exact ⟨rfl, jf, fun y => e.2 y⟩)
      · skip
        refine g_iload_n X dX8_reasonOfText_18 rfl ?_
        refine g_if_ne X (tgt := 38) dX8_reasonOfText_19 (by decide) ⟨by omega, by omega⟩ (fun c3 => ?_) (fun c3 => ?_)
        · skip
          refine g_iload_n X dX8_reasonOfText_38 rfl ?_
          exact R _ _ _ _ dX8_reasonOfText_39 (by have e : (fltT (chT L t) L (r 19) 80 0).1 = g ∧ (¬ g = 0 → τ 12 21 = (fltT (chT L t) L (r 19) 80 0).2) := by { by_cases z : g = 0; (have q := j3.1 z; rw [q.1, fltT_done (by omega)]; exact ⟨z.symm, fun y => absurd z y⟩); (have q := j3.2 z; rw [q]; exact ⟨rfl, fun _ => rfl⟩) }; rw [e.1]; exact ⟨rfl, jf, fun y => e.2 y⟩)
        · skip
          refine g_aload_n X dX8_reasonOfText_22 rfl ?_
          refine g_aload_n X dX8_reasonOfText_23 rfl ?_
          refine gf_X8_176 X fk12 (show τ 12 17 = q from js) dX8_reasonOfText_24 ?_
          refine pf_X8_201 X fk12 dX8_reasonOfText_27 ?_
          refine g_aload_n X dX8_reasonOfText_30 rfl ?_
          refine cl_X8_204 X (c_X8_reason l E (up τ 12 21 (q)) L t hB ((hT.fD jf).fD (b := 21) (frD.refl.up (j := 21) (by decide))) q (up_ne2 (by decide) js) (by omega) (by omega) r N ((hM.fD jf).fD (b := 21) (frD.refl.up (j := 21) (by decide))) hR) fk12 ⟨Nat.le_of_ble_eq_true rfl, Nat.le_of_ble_eq_true rfl⟩ rfl (Nat.le_of_ble_eq_true rfl) dX8_reasonOfText_31 rfl (fun v4 τ5 p6 => ?_)
          obtain ⟨rfl, hf31, hb31, hv31⟩ := p6
          have rb31 := rsn_bd (chT L t) q (r 19)
          refine g_istore_n X (lw := [some (rv E (12)), some (iv (rsn (chT L t) q (r 19)))]) dX8_reasonOfText_34 (by decide) rfl rfl ?_
          refine g_goto X (tgt := 7) dX8_reasonOfText_35 (by decide) ?_
          exact ih1 τ5 ((τ5 12 17)) (fu0 - 1) (rsn (chT L t) q (r 19)) (by omega) (by exact hb31) (by exact (jf.up (by decide)).trans (hf31.mono (by decide))) (by rfl) (by obtain ⟨q3, q4⟩ := j3.1 (by omega); obtain ⟨k, rfl⟩ : ∃ k, fu0 = k + 1 := ⟨fu0 - 1, by omega⟩; rw [show fltT (chT L t) L (r 19) (k + 1) q = (if rsn (chT L t) q (r 19) = 0 then fltT (chT L t) L (r 19) k (pE (chT L t) q) else (rsn (chT L t) q (r 19), q)) from (by rw [fltT, if_pos (by omega)])] at q3; exact ⟨fun y => by have q5 := hv31 y; have q6 := (rsn_0 y).1.b; rw [if_pos y] at q3; rw [q3, Nat.add_sub_cancel, q5.2.2.2]; exact ⟨rfl, by omega⟩, fun y => by rw [if_neg y] at q3; rw [q3, hf31 12 21 (by omega), up_same]⟩) (by have q6 : rsn (chT L t) q (r 19) = 0 → q + 6 ≤ τ5 12 17 := (fun y => by rw [(hv31 y).2.2.2]; exact (rsn_0 y).1.b.2.2.2.2.1); omega)
  exact L1 _ (up σ 12 17 (0)) 0 80 0 (by omega) (by omega) (by exact frD.refl.up (by decide)) (by exact up_same _ _ _ _) (by exact ⟨fun _ => ⟨rfl, by omega⟩, fun y => absurd rfl y⟩) (by exact Int.lt_toNat_succ _)
set_option maxHeartbeats 1000000 in
set_option maxRecDepth 100000 in
theorem c_X8_fault (l : Launch) (E : wEnv) (σ : Mem) (s : St) (N : Int) (hM : MRep σ s) (hR : RInv s.1 N) (hN : N + 600 ≤ 400000) (hB : CB (chT s.2.2.2.1 s.2.2.2.2)) (w : Int) (hw : I32 w) : MetC l E yX8_fault cX8_fault 3 (some .int) 6 127 [rv E (12), iv (w)] σ (fun v σ' => v = some (iv (faultX s w)) ∧ MRep σ' s ∧ frC σ σ') := by
  refine MetC.of (own := RX8) (by decide) rfl (by simp [Value.category]) (Nat.le_of_ble_eq_true rfl) [some (rv E (12)), some (iv (w)), none] rfl (by simp) (fun K X R => ?_)
  have hM1 := hM.1
  have hM2 := hM.2.1
  have hM3 := hM.2.2
  have r19 := hR.2.2.2.2.1
  have r0 := hR.1
  have rN := hR.2.2.2.2.2.1
  refine g_iload_n X dX8_fault_0 rfl ?_
  refine g_iconst X dX8_fault_1 ?_
  refine g_iconst X dX8_fault_2 ?_
  refine cl_X8_51 X (c_X8_in l E σ w 0 1 ⟨by omega, by omega⟩ ⟨by decide, by decide⟩ ⟨by decide, by decide⟩) ⟨Nat.le_of_ble_eq_true rfl, Nat.le_of_ble_eq_true rfl⟩ rfl (Nat.le_of_ble_eq_true rfl) dX8_fault_3 rfl (fun v1 τ2 p3 => ?_)
  obtain ⟨rfl, ⟨b4, rfl⟩ | ⟨b4, rfl⟩⟩ := p3
  · skip
    skip
    refine g_if_ne X (tgt := 11) dX8_fault_6 (by decide) ⟨by decide, by decide⟩ (fun _ => ?_) (fun q => absurd q (by decide))
    refine g_aload_n X dX8_fault_11 rfl ?_
    refine cl_X8_207 X (c_X8_reasonOfText l E σ s.2.2.2.1 s.2.2.2.2 hB hM3 s.1 N hM1 hR) fk12 ⟨Nat.le_of_ble_eq_true rfl, Nat.le_of_ble_eq_true rfl⟩ rfl (Nat.le_of_ble_eq_true rfl) dX8_fault_12 rfl (fun v5 τ6 p7 => ?_)
    obtain ⟨rfl, hf, hv⟩ := p7
    have fb := fltT_bd (chT s.2.2.2.1 s.2.2.2.2) s.2.2.2.1 (s.1 19) 80 0
    refine g_istore_n X (lw := [some (rv E (12)), some (iv (w)), some (iv ((fltT (chT s.2.2.2.1 s.2.2.2.2) s.2.2.2.1 (s.1 19) 80 0).1))]) dX8_fault_15 (by decide) rfl rfl ?_
    refine g_iload_n X dX8_fault_16 rfl ?_
    refine g_if_ne X (tgt := 25) dX8_fault_17 (by decide) ⟨by omega, by omega⟩ (fun c8 => ?_) (fun c8 => ?_)
    · skip
      refine g_iload_n X dX8_fault_25 rfl ?_
      refine g_if_ne X (tgt := 36) dX8_fault_26 (by decide) ⟨by omega, by omega⟩ (fun c9 => ?_) (fun c9 => ?_)
      · skip
        refine g_iload_n X dX8_fault_36 rfl ?_
        exact R _ _ _ _ dX8_fault_37 (by unfold faultX; (repeat (first | rw [if_pos (by omega)] | rw [if_neg (by omega)])); exact ⟨rfl, hM.fD hf, hf.C⟩)
      · skip
        refine g_aload_n X dX8_fault_29 rfl ?_
        refine gf_X8_201 X fk12 (show τ6 12 21 = (fltT (chT s.2.2.2.1 s.2.2.2.2) s.2.2.2.1 (s.1 19) 80 0).2 from (hv (by omega))) dX8_fault_30 ?_
        refine g_goto X (tgt := 37) dX8_fault_33 (by decide) ?_
        exact R _ _ _ _ dX8_fault_37 (by unfold faultX; (repeat (first | rw [if_pos (by omega)] | rw [if_neg (by omega)])); exact ⟨rfl, hM.fD hf, hf.C⟩)
    · skip
      refine g_bipush X dX8_fault_20 (by decide) ?_
      refine g_goto X (tgt := 37) dX8_fault_22 (by decide) ?_
      exact R _ _ _ _ dX8_fault_37 (by unfold faultX; (repeat (first | rw [if_pos (by omega)] | rw [if_neg (by omega)])); exact ⟨rfl, hM.fD hf, hf.C⟩)
  · skip
    skip
    refine g_if_ne X (tgt := 11) dX8_fault_6 (by decide) ⟨by decide, by decide⟩ (fun q => absurd q (by decide)) (fun _ => ?_)
    refine g_iconst X dX8_fault_9 ?_
    exact R _ _ _ _ dX8_fault_10 (by unfold faultX; rw [if_neg (by omega)]; exact ⟨rfl, hM, frC.refl⟩)
set_option maxHeartbeats 1000000 in
set_option maxRecDepth 100000 in
theorem c_X8_carry (l : Launch) (E : wEnv) (σ : Mem) (s : St) (N : Int) (hM : MRep σ s) (hR : RInv s.1 N) (hN : N + 600 ≤ 400000) (hB : CB (chT s.2.2.2.1 s.2.2.2.2)) : MetC l E yX8_carry cX8_carry 4 (some .int) 6 127 [rv E (12)] σ (fun v σ' => v = some (iv (carryX s).1) ∧ MRep σ' (carryX s).2 ∧ frC σ σ') := by
  refine MetC.of (own := RX8) (by decide) rfl (by simp [Value.category]) (Nat.le_of_ble_eq_true rfl) [some (rv E (12)), none, none, none] rfl (by simp) (fun K X R => ?_)
  have hM1 := hM.1
  have hM2 := hM.2.1
  have hM3 := hM.2.2
  have r19 := hR.2.2.2.2.1
  have r0 := hR.1
  have rN := hR.2.2.2.2.2.1
  have hL := hM3.1
  refine g_aload_n X dX8_carry_0 rfl ?_
  refine cl_X8_207 X (c_X8_reasonOfText l E σ s.2.2.2.1 s.2.2.2.2 hB hM3 s.1 N hM1 hR) fk12 ⟨Nat.le_of_ble_eq_true rfl, Nat.le_of_ble_eq_true rfl⟩ rfl (Nat.le_of_ble_eq_true rfl) dX8_carry_1 rfl (fun v1 τ2 p3 => ?_)
  obtain ⟨rfl, hf, hv⟩ := p3
  have fb := fltT_bd (chT s.2.2.2.1 s.2.2.2.2) s.2.2.2.1 (s.1 19) 80 0
  refine g_if_eq X (tgt := 10) dX8_carry_4 (by decide) ⟨by omega, by omega⟩ (fun c4 => ?_) (fun c4 => ?_)
  · skip
    refine g_aload_n X dX8_carry_10 rfl ?_
    refine cl_X8_55 X (c_X8_records l E τ2 s.2.1 s.2.2.1 s.1 (hM1.fD hf) (hM2.fD hf)) fk12 ⟨Nat.le_of_ble_eq_true rfl, Nat.le_of_ble_eq_true rfl⟩ rfl (Nat.le_of_ble_eq_true rfl) dX8_carry_11 rfl (fun v5 τ6 p7 => ?_)
    obtain ⟨rfl, hH11, hF11, hG11⟩ := p7
    have hM11 := (hM1.fD hf).fr (hF11 13 (by decide) (by decide) (by decide)) (hF11 15 (by decide) (by decide) (by decide))
    have hT11 : MT τ6 s.2.2.2.1 s.2.2.2.2 := ⟨hM3.1, by rw [hG11 6 (by decide), hf 12 6 (by omega)]; exact hM3.2.1, fun j hj => by rw [hF11 17 (by decide) (by decide) (by decide), hf 17 j (by omega)]; exact hM3.2.2 j hj⟩
    obtain ⟨μ0, hμ0⟩ : ∃ z, z = τ6 := ⟨_, rfl⟩
    rw [← hμ0]
    rw [← hμ0] at hH11 hF11 hG11 hM11 hT11
    refine g_aload_n X dX8_carry_14 rfl ?_
    refine g_iconst X dX8_carry_15 ?_
    refine pf_X8_176 X fk12 dX8_carry_16 ?_
    refine g_iconst X dX8_carry_19 ?_
    refine g_istore_n X (lw := [some (rv E (12)), some (iv (0)), none, none]) dX8_carry_20 (by decide) rfl rfl ?_
    have L8 : ∀ (fu : Nat) (χ : Mem) (ρ : Row) (q : Int) (kk : Int) (n : Int), (0 ≤ kk) → (6 * kk ≤ q ∧ q ≤ s.2.2.2.1) → (χ 12 17 = q) → (RR χ ρ) → (∀ x j, x ≠ 13 → x ≠ 15 → ¬ (x = 12 ∧ 17 ≤ j ∧ j ≤ 20) → χ x j = μ0 x j) → (RInv ρ (N + 40 * kk)) → (ρ 19 = s.1 19) → ((fltT (chT s.2.2.2.1 s.2.2.2.2) s.2.2.2.1 (s.1 19) (80 - kk).toNat q).1 = 0) → (carR (chT s.2.2.2.1 s.2.2.2.2) s.2.2.2.1 80 0 s.1 = ((carR (chT s.2.2.2.1 s.2.2.2.2) s.2.2.2.1 (80 - kk).toNat q ρ).1, n + (carR (chT s.2.2.2.1 s.2.2.2.2) s.2.2.2.1 (80 - kk).toNat q ρ).2)) → (s.2.2.2.1 : Int) - q + 1 < (fu : Int) → K χ 21 [some (rv E (12)), some (iv (n)), none, none] [] := by
      intro fu
      induction fu with
      | zero =>
        intro χ ρ q kk n jk jq js j4 j5 j6 j9 j7 j8 hm
        exact absurd hm (by omega)
      | succ fu ih8 =>
        intro χ ρ q kk n jk jq js j4 j5 j6 j9 j7 j8 hm
        have jT : MT χ s.2.2.2.1 s.2.2.2.2 := ⟨hT11.1, by rw [j5 12 6 (by decide) (by decide) (by omega)]; exact hT11.2.1, fun j hj => by rw [j5 17 j (by decide) (by decide) (by omega)]; exact hT11.2.2 j hj⟩
        refine g_aload_n X dX8_carry_21 rfl ?_
        refine gf_X8_176 X fk12 (show χ 12 17 = q from js) dX8_carry_22 ?_
        refine g_aload_n X dX8_carry_25 rfl ?_
        refine gf_X8_81 X fk12 jT.2.1 dX8_carry_26 ?_
        refine g_icmp_ge X (tgt := 85) dX8_carry_29 (by decide) ⟨by omega, by omega⟩ ⟨by omega, by omega⟩ (fun c9 => ?_) (fun c9 => ?_)
        · skip
          refine g_iload_n X dX8_carry_85 rfl ?_
          exact R _ _ _ _ dX8_carry_86 (by have hs2 : ¬ q < s.2.2.2.1 := (fun y => by have y2 := (fltT_0 (C := (chT s.2.2.2.1 s.2.2.2.2)) (L := s.2.2.2.1) (n := s.1 19) (s := q) (k := (80 - (kk + 1)).toNat) (by rw [show (80 - (kk + 1)).toNat + 1 = (80 - kk).toNat by omega]; exact j7) y).1; omega); rw [carR_done hs2] at j8; unfold carryX; rw [if_pos (by omega), j8]; exact ⟨congrArg (fun z => some (iv z)) (by simp), mcarry_fin hM hf hH11 hF11 hG11 j4 j5 frD.refl⟩)
        · skip
          refine g_aload_n X dX8_carry_32 rfl ?_
          refine cl_X8_204 X (c_X8_reason l E χ s.2.2.2.1 s.2.2.2.2 hB jT q js (by omega) (by omega) ρ (N + 40 * kk) j4 j6) fk12 ⟨Nat.le_of_ble_eq_true rfl, Nat.le_of_ble_eq_true rfl⟩ rfl (Nat.le_of_ble_eq_true rfl) dX8_carry_33 rfl (fun v10 τ11 p12 => ?_)
          obtain ⟨rfl, hf33, hb33, hv33⟩ := p12
          rw [j9] at hv33
          rw [j9]
          have rb33 := rsn_bd (chT s.2.2.2.1 s.2.2.2.2) q (s.1 19)
          refine g_if_ne X (tgt := 85) dX8_carry_36 (by decide) ⟨by omega, by omega⟩ (fun c13 => ?_) (fun c13 => ?_)
          · skip
            refine g_iload_n X dX8_carry_85 rfl ?_
            exact R _ _ _ _ dX8_carry_86 (by have hs2 : ¬ q < s.2.2.2.1 := (fun y => by have y2 := (fltT_0 (C := (chT s.2.2.2.1 s.2.2.2.2)) (L := s.2.2.2.1) (n := s.1 19) (s := q) (k := (80 - (kk + 1)).toNat) (by rw [show (80 - (kk + 1)).toNat + 1 = (80 - kk).toNat by omega]; exact j7) y).1; omega); rw [carR_done hs2] at j8; unfold carryX; rw [if_pos (by omega), j8]; exact ⟨congrArg (fun z => some (iv z)) (by simp), mcarry_fin hM hf hH11 hF11 hG11 j4 j5 hf33⟩)
          · skip
            have hz := fltT_0 (C := (chT s.2.2.2.1 s.2.2.2.2)) (L := s.2.2.2.1) (n := s.1 19) (s := q) (k := (80 - (kk + 1)).toNat) (by rw [show (80 - (kk + 1)).toNat + 1 = (80 - kk).toNat by omega]; exact j7) (by omega)
            skip
            have hz2 := rsn_0 hz.1
            have hpl := hz2.1.lt
            have hpb := hz2.1.b
            have hvv := hv33 (by omega)
            refine g_iconst X dX8_carry_39 ?_
            refine g_istore_n X (lw := [some (rv E (12)), some (iv (n)), some (iv (0)), none]) dX8_carry_40 (by decide) rfl rfl ?_
            have L14 : ∀ (fu : Nat) (ζ : Mem) (ρ1 : Row) (n1 k : Int), (0 ≤ k) → (k ≤ pT (chT s.2.2.2.1 s.2.2.2.2) q) → (n1 = n + k) → (RR ζ ρ1) → (frR τ11 ζ) → (RInv ρ1 (N + 40 * kk + k)) → (ρ1 19 = ρ 19) → (hitsR (pP (chT s.2.2.2.1 s.2.2.2.2) q).toNat (pH (chT s.2.2.2.1 s.2.2.2.2) q) (pT (chT s.2.2.2.1 s.2.2.2.2) q).toNat ρ = ((hitsR (pP (chT s.2.2.2.1 s.2.2.2.2) q).toNat (pH (chT s.2.2.2.1 s.2.2.2.2) q) (pT (chT s.2.2.2.1 s.2.2.2.2) q - k).toNat ρ1).1, k + (hitsR (pP (chT s.2.2.2.1 s.2.2.2.2) q).toNat (pH (chT s.2.2.2.1 s.2.2.2.2) q) (pT (chT s.2.2.2.1 s.2.2.2.2) q - k).toNat ρ1).2)) → pT (chT s.2.2.2.1 s.2.2.2.2) q - k < (fu : Int) → K ζ 41 [some (rv E (12)), some (iv (n1)), some (iv (k)), none] [] := by
              intro fu
              induction fu with
              | zero =>
                intro ζ ρ1 n1 k k1 k2 kn k4 k5 k6 k9 k7 hm
                exact absurd hm (by omega)
              | succ fu ih14 =>
                intro ζ ρ1 n1 k k1 k2 kn k4 k5 k6 k9 k7 hm
                have kpi := (k6.2.2.2.2.2.2 (pP (chT s.2.2.2.1 s.2.2.2.2) q).toNat (by omega)).f
                refine g_iload_n X dX8_carry_41 rfl ?_
                refine g_aload_n X dX8_carry_42 rfl ?_
                refine gf_X8_195 X fk12 (show ζ 12 20 = pT (chT s.2.2.2.1 s.2.2.2.2) q from ((congrFun (k5 12 (by decide) (by decide)) 20).trans hvv.2.2.1)) dX8_carry_43 ?_
                refine g_icmp_ge X (tgt := 82) dX8_carry_46 (by decide) ⟨by omega, by omega⟩ ⟨by omega, by omega⟩ (fun c15 => ?_) (fun c15 => ?_)
                · skip
                  refine g_goto X (tgt := 21) dX8_carry_82 (by decide) ?_
                  refine g_kill X 2 (lw := [some (rv E (12)), some (iv (n1)), none, none]) rfl ?_
                  exact ih8 ζ ρ1 ((pE (chT s.2.2.2.1 s.2.2.2.2) q)) ((kk + 1)) n1 (by omega) (by omega) (by exact (congrFun (k5 12 (by decide) (by decide)) 17).trans hvv.2.2.2) (by exact k4) (by intro x j h1 h2 h3; rw [k5 x h1 h2, hf33 x j h3]; exact j5 x j h1 h2 h3) (by exact k6.mono (by omega) (by omega)) (by rw [k9]; exact j9) (by exact hz.2) (by have eh : hitsR (pP (chT s.2.2.2.1 s.2.2.2.2) q).toNat (pH (chT s.2.2.2.1 s.2.2.2.2) q) (pT (chT s.2.2.2.1 s.2.2.2.2) q).toNat ρ = (ρ1, k) := by { rw [k7]; first | (rw [show (pT (chT s.2.2.2.1 s.2.2.2.2) q - k).toNat = 0 by omega, hitsR]; simp) | (rw [show (pT (chT s.2.2.2.1 s.2.2.2.2) q - k).toNat = (pT (chT s.2.2.2.1 s.2.2.2.2) q - k - 1).toNat + 1 by omega, hitsR, if_neg (by omega)]; simp) }; rw [j8, show (80 - kk).toNat = (80 - (kk + 1)).toNat + 1 by omega, carR, if_pos (by omega), eh]; exact Prod.ext rfl (by simp only []; omega)) (by omega)
                · skip
                  refine g_aload_n X dX8_carry_49 rfl ?_
                  refine g_aload_n X dX8_carry_50 rfl ?_
                  refine gf_X8_186 X fk12 (show ζ 12 18 = pP (chT s.2.2.2.1 s.2.2.2.2) q from ((congrFun (k5 12 (by decide) (by decide)) 18).trans hvv.1)) dX8_carry_51 ?_
                  refine cl_X8_142 X (c_X8_isDown l E ζ ρ1 (N + 40 * kk + k) k4 k6 (pP (chT s.2.2.2.1 s.2.2.2.2) q) (by omega)) fk12 ⟨Nat.le_of_ble_eq_true rfl, Nat.le_of_ble_eq_true rfl⟩ rfl (Nat.le_of_ble_eq_true rfl) dX8_carry_54 rfl (fun v16 τ17 p18 => ?_)
                  obtain ⟨rfl, ⟨b19, rfl⟩ | ⟨b19, rfl⟩⟩ := p18
                  · skip
                    skip
                    refine g_if_ne X (tgt := 82) dX8_carry_57 (by decide) ⟨by decide, by decide⟩ (fun _ => ?_) (fun q => absurd q (by decide))
                    refine g_goto X (tgt := 21) dX8_carry_82 (by decide) ?_
                    refine g_kill X 2 (lw := [some (rv E (12)), some (iv (n1)), none, none]) rfl ?_
                    exact ih8 ζ ρ1 ((pE (chT s.2.2.2.1 s.2.2.2.2) q)) ((kk + 1)) n1 (by omega) (by omega) (by exact (congrFun (k5 12 (by decide) (by decide)) 17).trans hvv.2.2.2) (by exact k4) (by intro x j h1 h2 h3; rw [k5 x h1 h2, hf33 x j h3]; exact j5 x j h1 h2 h3) (by exact k6.mono (by omega) (by omega)) (by rw [k9]; exact j9) (by exact hz.2) (by have eh : hitsR (pP (chT s.2.2.2.1 s.2.2.2.2) q).toNat (pH (chT s.2.2.2.1 s.2.2.2.2) q) (pT (chT s.2.2.2.1 s.2.2.2.2) q).toNat ρ = (ρ1, k) := by { rw [k7]; first | (rw [show (pT (chT s.2.2.2.1 s.2.2.2.2) q - k).toNat = 0 by omega, hitsR]; simp) | (rw [show (pT (chT s.2.2.2.1 s.2.2.2.2) q - k).toNat = (pT (chT s.2.2.2.1 s.2.2.2.2) q - k - 1).toNat + 1 by omega, hitsR, if_neg (by omega)]; simp) }; rw [j8, show (80 - kk).toNat = (80 - (kk + 1)).toNat + 1 by omega, carR, if_pos (by omega), eh]; exact Prod.ext rfl (by simp only []; omega)) (by omega)
                  · skip
                    skip
                    refine g_if_ne X (tgt := 82) dX8_carry_57 (by decide) ⟨by decide, by decide⟩ (fun q => absurd q (by decide)) (fun _ => ?_)
                    refine g_aload_n X dX8_carry_60 rfl ?_
                    refine g_aload_n X dX8_carry_61 rfl ?_
                    refine gf_X8_186 X fk12 (show ζ 12 18 = pP (chT s.2.2.2.1 s.2.2.2.2) q from ((congrFun (k5 12 (by decide) (by decide)) 18).trans hvv.1)) dX8_carry_62 ?_
                    refine g_aload_n X dX8_carry_65 rfl ?_
                    refine gf_X8_192 X fk12 (show ζ 12 19 = pH (chT s.2.2.2.1 s.2.2.2.2) q from ((congrFun (k5 12 (by decide) (by decide)) 19).trans hvv.2.1)) dX8_carry_66 ?_
                    refine cl_X8_145 X (c_X8_strikes l E ζ ρ1 (N + 40 * kk + k) k4 k6 (by omega) (pP (chT s.2.2.2.1 s.2.2.2.2) q) (pH (chT s.2.2.2.1 s.2.2.2.2) q) (by omega) (by omega) (by omega)) fk12 ⟨Nat.le_of_ble_eq_true rfl, Nat.le_of_ble_eq_true rfl⟩ rfl (Nat.le_of_ble_eq_true rfl) dX8_carry_69 rfl (fun v20 τ21 p22 => ?_)
                    obtain ⟨rfl, hM69, hF69⟩ := p22
                    have hi69 := hit_inv k6 (by omega) (i := (pP (chT s.2.2.2.1 s.2.2.2.2) q).toNat) (h := pH (chT s.2.2.2.1 s.2.2.2.2) q) (by omega) (by omega) (by omega)
                    have hj69 := hi69.2
                    have hk69 := (hi69.1.2.2.2.2.2.2 (pP (chT s.2.2.2.1 s.2.2.2.2) q).toNat (by omega)).f
                    have hb69 := (hit1_inv k6 (by omega) (i := (pP (chT s.2.2.2.1 s.2.2.2.2) q).toNat) (h := pH (chT s.2.2.2.1 s.2.2.2.2) q) (by omega) (by omega) (by omega)).2.2.2
                    refine g_istore_n X (lw := [some (rv E (12)), some (iv (n1)), some (iv (k)), some (iv (blowS ρ1 (pP (chT s.2.2.2.1 s.2.2.2.2) q).toNat (pH (chT s.2.2.2.1 s.2.2.2.2) q)))]) dX8_carry_72 (by decide) rfl rfl ?_
                    refine g_iinc X (lw := [some (rv E (12)), some (iv (n1 + 1)), some (iv (k)), some (iv (blowS ρ1 (pP (chT s.2.2.2.1 s.2.2.2.2) q).toNat (pH (chT s.2.2.2.1 s.2.2.2.2) q)))]) dX8_carry_73 rfl (by decide) rfl rfl ?_
                    refine g_iinc X (lw := [some (rv E (12)), some (iv (n1 + 1)), some (iv (k + 1)), some (iv (blowS ρ1 (pP (chT s.2.2.2.1 s.2.2.2.2) q).toNat (pH (chT s.2.2.2.1 s.2.2.2.2) q)))]) dX8_carry_76 rfl (by decide) rfl rfl ?_
                    refine g_goto X (tgt := 41) dX8_carry_79 (by decide) ?_
                    refine g_kill X 3 (lw := [some (rv E (12)), some (iv (n1 + 1)), some (iv (k + 1)), none]) rfl ?_
                    exact ih14 τ21 (hitR ρ1 (pP (chT s.2.2.2.1 s.2.2.2.2) q).toNat (pH (chT s.2.2.2.1 s.2.2.2.2) q)) (n1 + 1) (k + 1) (by omega) (by omega) (by omega) (by exact hM69) (by exact k5.trans hF69) (by rw [← Int.add_assoc]; exact hi69.1) (by rw [hj69, k9]) (by rw [k7, show (pT (chT s.2.2.2.1 s.2.2.2.2) q - k).toNat = (pT (chT s.2.2.2.1 s.2.2.2.2) q - (k + 1)).toNat + 1 by omega, hitsR, if_pos (by omega)]; exact Prod.ext rfl (by simp only []; omega)) (by omega)
            exact L14 _ τ11 ρ n 0 (by omega) (by omega) (by omega) (by exact j4.fD hf33) (by exact frR.refl) (by simpa using j6) (by rfl) (by simp) (by exact Int.lt_toNat_succ _)
    exact L8 _ (up μ0 12 17 (0)) s.1 0 0 0 (by omega) (by omega) (by exact up_same _ _ _ _) (by exact hM11.fD (b := 21) (frD.refl.up (j := 17) (by decide))) (by intro x j h1 h2 h3; exact (frD.refl (b := 20)).up (j := 17) (by decide) x j h3) (by simpa using hR) (by rfl) (by show (fltT (chT s.2.2.2.1 s.2.2.2.2) s.2.2.2.1 (s.1 19) 80 0).1 = 0; omega) (by simp) (by exact Int.lt_toNat_succ _)
  · skip
    refine g_bipush X dX8_carry_7 (by decide) ?_
    exact R _ _ _ _ dX8_carry_9 (by unfold carryX; rw [if_neg (by omega)]; exact ⟨rfl, hM.fD hf, hf.C⟩)
