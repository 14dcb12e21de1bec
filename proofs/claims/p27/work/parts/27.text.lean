/-! ===== contracts: records, of the class ===== -/
set_option maxHeartbeats 1000000 in
set_option maxRecDepth 100000 in
theorem c_X0_characterAt (l : Launch) (E : wEnv) (σ : Mem) (L : Nat) (t : Nat → Int) (hT : TRep σ L t) (p : Int) (hp : I32 p) : MetC l E yX0_characterAt cX0_characterAt 2 (some .char) 0 0 [rv E (3), iv (p)] σ (fun v σ' => v = some (iv (chT L t p)) ∧ σ = σ') := by
  refine MetC.of (own := RX0) (by decide) rfl (by simp [Value.category]) (Nat.le_of_ble_eq_true rfl) [some (rv E (3)), some (iv (p))] rfl (by simp) (fun K X R => ?_)
  have hL := hT.1
  have hq : 0 ≤ p ∧ p < L → σ 4 p.toNat = t p.toNat ∧ 32 ≤ t p.toNat ∧ t p.toNat ≤ 126 := fun q => hT.2.2 p.toNat (by omega)
  refine g_iload_n X dX0_characterAt_0 rfl ?_
  refine g_if_lt X (tgt := 30) dX0_characterAt_1 (by decide) ⟨by omega, by omega⟩ (fun c1 => ?_) (fun c1 => ?_)
  · skip
    refine g_iconst X dX0_characterAt_30 ?_
    exact R _ _ _ _ (nar_char (by omega) (by omega)) dX0_characterAt_31 ⟨congrArg (fun z => some (iv z)) (by unfold chT; first | (rw [if_neg (by omega)]; done) | (rw [if_pos (by omega)]; omega)), rfl⟩
  · skip
    refine g_iload_n X dX0_characterAt_4 rfl ?_
    refine g_aload_n X dX0_characterAt_5 rfl ?_
    refine gf_X0_15 X fk3 hT.2.1 dX0_characterAt_6 ?_
    refine g_icmp_ge X (tgt := 30) dX0_characterAt_9 (by decide) ⟨by omega, by omega⟩ ⟨by omega, by omega⟩ (fun c2 => ?_) (fun c2 => ?_)
    · skip
      refine g_iconst X dX0_characterAt_30 ?_
      exact R _ _ _ _ (nar_char (by omega) (by omega)) dX0_characterAt_31 ⟨congrArg (fun z => some (iv z)) (by unfold chT; first | (rw [if_neg (by omega)]; done) | (rw [if_pos (by omega)]; omega)), rfl⟩
    · skip
      refine g_iload_n X dX0_characterAt_12 rfl ?_
      refine g_aload_n X dX0_characterAt_13 rfl ?_
      refine gf_X0_9 X fk3 dX0_characterAt_14 ?_
      refine g_alen4 X fk4 fl4 dX0_characterAt_17 ?_
      refine g_icmp_ge X (tgt := 30) dX0_characterAt_18 (by decide) ⟨by omega, by omega⟩ ⟨by decide, by decide⟩ (fun c3 => ?_) (fun c3 => ?_)
      · skip
        refine g_iconst X dX0_characterAt_30 ?_
        exact R _ _ _ _ (nar_char (by omega) (by omega)) dX0_characterAt_31 ⟨congrArg (fun z => some (iv z)) (by unfold chT; first | (rw [if_neg (by omega)]; done) | (rw [if_pos (by omega)]; omega)), rfl⟩
      · skip
        refine g_aload_n X dX0_characterAt_21 rfl ?_
        refine gf_X0_9 X fk3 dX0_characterAt_22 ?_
        refine g_iload_n X dX0_characterAt_25 rfl ?_
        refine g_cald X fk4 fl4 (by omega) (by omega) (by decide) rfl dX0_characterAt_26 ?_
        refine g_goto X (tgt := 31) dX0_characterAt_27 (by decide) ?_
        exact R _ _ _ _ (nar_char (by omega) (by omega)) dX0_characterAt_31 ⟨congrArg (fun z => some (iv z)) (by unfold chT; first | (rw [if_neg (by omega)]; done) | (rw [if_pos (by omega)]; omega)), rfl⟩
set_option maxHeartbeats 1000000 in
set_option maxRecDepth 100000 in
theorem c_X0_isDigit (l : Launch) (E : wEnv) (σ : Mem) (a : Int) (ha : I32 a) : MetC l E yX0_isDigit cX0_isDigit 2 (some .boolean) 0 0 [rv E (3), iv (a)] σ (fun v σ' => σ = σ' ∧ ((48 ≤ a ∧ a ≤ 57) ∧ v = some (iv 1) ∨ ¬ (48 ≤ a ∧ a ≤ 57) ∧ v = some (iv 0))) := by
  refine MetC.of (own := RX0) (by decide) rfl (by simp [Value.category]) (Nat.le_of_ble_eq_true rfl) [some (rv E (3)), some (iv (a))] rfl (by simp) (fun K X R => ?_)
  refine g_iload_n X dX0_isDigit_0 rfl ?_
  refine g_bipush X dX0_isDigit_1 (by decide) ?_
  refine g_icmp_lt X (tgt := 16) dX0_isDigit_3 (by decide) ⟨by omega, by omega⟩ ⟨by decide, by decide⟩ (fun c1 => ?_) (fun c1 => ?_)
  · skip
    refine g_iconst X dX0_isDigit_16 ?_
    exact R _ _ _ _ (Or.inl (by decide)) dX0_isDigit_17 ⟨rfl, Or.inr ⟨by omega, rfl⟩⟩
  · skip
    refine g_iload_n X dX0_isDigit_6 rfl ?_
    refine g_bipush X dX0_isDigit_7 (by decide) ?_
    refine g_icmp_gt X (tgt := 16) dX0_isDigit_9 (by decide) ⟨by omega, by omega⟩ ⟨by decide, by decide⟩ (fun c2 => ?_) (fun c2 => ?_)
    · skip
      refine g_iconst X dX0_isDigit_16 ?_
      exact R _ _ _ _ (Or.inl (by decide)) dX0_isDigit_17 ⟨rfl, Or.inr ⟨by omega, rfl⟩⟩
    · skip
      refine g_iconst X dX0_isDigit_12 ?_
      refine g_goto X (tgt := 17) dX0_isDigit_13 (by decide) ?_
      exact R _ _ _ _ (Or.inr (by decide)) dX0_isDigit_17 ⟨rfl, Or.inl ⟨by omega, rfl⟩⟩
set_option maxHeartbeats 1000000 in
set_option maxRecDepth 100000 in
theorem c_X0_digitsFrom (l : Launch) (E : wEnv) (σ : Mem) (L : Nat) (t : Nat → Int) (hT : TRep σ L t) (p : Int) (h0 : 0 ≤ p) (h1 : p ≤ 300) : MetC l E yX0_digitsFrom cX0_digitsFrom 3 (some .int) 1 21 [rv E (3), iv (p)] σ (fun v σ' => v = some (iv (dg (chT L t) 80 p)) ∧ σ = σ') := by
  refine MetC.of (own := RX0) (by decide) rfl (by simp [Value.category]) (Nat.le_of_ble_eq_true rfl) [some (rv E (3)), some (iv (p)), none] rfl (by simp) (fun K X R => ?_)
  refine g_iconst X dX0_digitsFrom_0 ?_
  refine g_istore_n X (lw := [some (rv E (3)), some (iv (p)), some (iv (0))]) dX0_digitsFrom_1 (by decide) rfl rfl ?_
  have L1 : ∀ (fu : Nat) (n : Int), (0 ≤ n) → (n ≤ 80) → (dg (chT L t) 80 p = n + dg (chT L t) (80 - n).toNat (p + n)) → 80 - n < (fu : Int) → K σ 2 [some (rv E (3)), some (iv (p)), some (iv (n))] [] := by
    intro fu
    induction fu with
    | zero =>
      intro n j1 j2 j3 hm
      exact absurd hm (by omega)
    | succ fu ih1 =>
      intro n j1 j2 j3 hm
      refine g_iload_n X dX0_digitsFrom_2 rfl ?_
      refine g_bipush X dX0_digitsFrom_3 (by decide) ?_
      refine g_icmp_ge X (tgt := 28) dX0_digitsFrom_5 (by decide) ⟨by omega, by omega⟩ ⟨by decide, by decide⟩ (fun c2 => ?_) (fun c2 => ?_)
      · skip
        refine g_iload_n X dX0_digitsFrom_28 rfl ?_
        exact R _ _ _ _ dX0_digitsFrom_29 ⟨congrArg (fun z => some (iv z)) (by first | (rw [j3, show (80 - n).toNat = 0 by omega, dg]; omega) | (rw [j3, show (80 - n).toNat = (80 - n - 1).toNat + 1 by omega, dg, if_neg (by assumption)]; omega)), rfl⟩
      · skip
        refine g_aload_n X dX0_digitsFrom_8 rfl ?_
        refine g_aload_n X dX0_digitsFrom_9 rfl ?_
        refine g_iload_n X dX0_digitsFrom_10 rfl ?_
        refine g_iload_n X dX0_digitsFrom_11 rfl ?_
        refine g_iadd X dX0_digitsFrom_12 ?_
        refine cl_X0_53 X (c_X0_characterAt l E σ L t hT (p + n) ⟨by omega, by omega⟩) fk3 ⟨Nat.le_of_ble_eq_true rfl, Nat.le_of_ble_eq_true rfl⟩ rfl (Nat.le_of_ble_eq_true rfl) dX0_digitsFrom_13 rfl (fun v3 τ4 p5 => ?_)
        obtain ⟨rfl, rfl⟩ := p5
        have cb13 := hT.cb (p + n)
        refine cl_X0_60 X (c_X0_isDigit l E σ (chT L t (p + n)) ⟨by omega, by omega⟩) fk3 ⟨Nat.le_of_ble_eq_true rfl, Nat.le_of_ble_eq_true rfl⟩ rfl (Nat.le_of_ble_eq_true rfl) dX0_digitsFrom_16 rfl (fun v6 τ7 p8 => ?_)
        obtain ⟨rfl, ⟨b9, rfl⟩ | ⟨b9, rfl⟩⟩ := p8
        · skip
          skip
          refine g_if_eq X (tgt := 28) dX0_digitsFrom_19 (by decide) ⟨by decide, by decide⟩ (fun q => absurd q (by decide)) (fun _ => ?_)
          refine g_iinc X (lw := [some (rv E (3)), some (iv (p)), some (iv (n + 1))]) dX0_digitsFrom_22 rfl (by decide) rfl rfl ?_
          refine g_goto X (tgt := 2) dX0_digitsFrom_25 (by decide) ?_
          exact ih1  (n + 1) (by omega) (by omega) (by rw [j3, show (80 - n).toNat = (80 - (n + 1)).toNat + 1 by omega, dg, if_pos (by assumption), show p + (n + 1) = p + n + 1 by omega]; omega) (by omega)
        · skip
          skip
          refine g_if_eq X (tgt := 28) dX0_digitsFrom_19 (by decide) ⟨by decide, by decide⟩ (fun _ => ?_) (fun q => absurd q (by decide))
          refine g_iload_n X dX0_digitsFrom_28 rfl ?_
          exact R _ _ _ _ dX0_digitsFrom_29 ⟨congrArg (fun z => some (iv z)) (by first | (rw [j3, show (80 - n).toNat = 0 by omega, dg]; omega) | (rw [j3, show (80 - n).toNat = (80 - n - 1).toNat + 1 by omega, dg, if_neg (by assumption)]; omega)), rfl⟩
  exact L1 _  0 (by omega) (by omega) (by rw [show p + 0 = p by omega]; show _ = 0 + dg (chT L t) 80 p; omega) (by exact Int.lt_toNat_succ _)
set_option maxHeartbeats 1000000 in
set_option maxRecDepth 100000 in
theorem c_X0_numberIn (l : Launch) (E : wEnv) (σ : Mem) (L : Nat) (t : Nat → Int) (hT : TRep σ L t) (p k : Int) (h0 : 0 ≤ p) (h1 : p ≤ 300) (k0 : 0 ≤ k) (k1 : k ≤ 4) : MetC l E yX0_numberIn cX0_numberIn 5 (some .int) 1 21 [rv E (3), iv (p), iv (k)] σ (fun v σ' => v = some (iv (num (chT L t) p k.toNat)) ∧ σ = σ') := by
  refine MetC.of (own := RX0) (by decide) rfl (by simp [Value.category]) (Nat.le_of_ble_eq_true rfl) [some (rv E (3)), some (iv (p)), some (iv (k)), none, none] rfl (by simp) (fun K X R => ?_)
  refine g_iconst X dX0_numberIn_0 ?_
  refine g_istore_n X (lw := [some (rv E (3)), some (iv (p)), some (iv (k)), some (iv (0)), none]) dX0_numberIn_1 (by decide) rfl rfl ?_
  refine g_iconst X dX0_numberIn_2 ?_
  refine g_istore X (lw := [some (rv E (3)), some (iv (p)), some (iv (k)), some (iv (0)), some (iv (0))]) dX0_numberIn_3 (by decide) rfl rfl ?_
  have L1 : ∀ (fu : Nat) (n i : Int), (0 ≤ i) → (i ≤ k) → (n = num (chT L t) p i.toNat) → k - i < (fu : Int) → K σ 5 [some (rv E (3)), some (iv (p)), some (iv (k)), some (iv (n)), some (iv (i))] [] := by
    intro fu
    induction fu with
    | zero =>
      intro n i j1 j2 j3 hm
      exact absurd hm (by omega)
    | succ fu ih1 =>
      intro n i j1 j2 j3 hm
      refine g_iload X dX0_numberIn_5 rfl ?_
      refine g_iload_n X dX0_numberIn_7 rfl ?_
      refine g_icmp_ge X (tgt := 34) dX0_numberIn_8 (by decide) ⟨by omega, by omega⟩ ⟨by omega, by omega⟩ (fun c2 => ?_) (fun c2 => ?_)
      · skip
        refine g_iload_n X dX0_numberIn_34 rfl ?_
        exact R _ _ _ _ dX0_numberIn_35 ⟨congrArg (fun z => some (iv z)) (by rw [j3, show k.toNat = i.toNat by omega]), rfl⟩
      · skip
        refine g_iload_n X dX0_numberIn_11 rfl ?_
        refine g_bipush X dX0_numberIn_12 (by decide) ?_
        refine g_imul X dX0_numberIn_14 ?_
        refine g_aload_n X dX0_numberIn_15 rfl ?_
        refine g_iload_n X dX0_numberIn_16 rfl ?_
        refine g_iload X dX0_numberIn_17 rfl ?_
        refine g_iadd X dX0_numberIn_19 ?_
        refine cl_X0_53 X (c_X0_characterAt l E σ L t hT (p + i) ⟨by omega, by omega⟩) fk3 ⟨Nat.le_of_ble_eq_true rfl, Nat.le_of_ble_eq_true rfl⟩ rfl (Nat.le_of_ble_eq_true rfl) dX0_numberIn_20 rfl (fun v3 τ4 p5 => ?_)
        obtain ⟨rfl, rfl⟩ := p5
        have cb20 := hT.cb (p + i)
        refine g_iadd X dX0_numberIn_23 ?_
        refine g_bipush X dX0_numberIn_24 (by decide) ?_
        refine g_isub X dX0_numberIn_26 ?_
        refine g_istore_n X (lw := [some (rv E (3)), some (iv (p)), some (iv (k)), some (iv (n * 10 + (chT L t (p + i)) - 48)), some (iv (i))]) dX0_numberIn_27 (by decide) rfl rfl ?_
        refine g_iinc X (lw := [some (rv E (3)), some (iv (p)), some (iv (k)), some (iv (n * 10 + (chT L t (p + i)) - 48)), some (iv (i + 1))]) dX0_numberIn_28 rfl (by decide) rfl rfl ?_
        refine g_goto X (tgt := 5) dX0_numberIn_31 (by decide) ?_
        exact ih1  (n * 10 + (chT L t (p + i)) - 48) (i + 1) (by omega) (by omega) (by rw [show (i + 1).toNat = i.toNat + 1 by omega, num, ← j3, show ((i.toNat : Nat) : Int) = i by omega]) (by omega)
  exact L1 _  0 0 (by omega) (by omega) (by rfl) (by exact Int.lt_toNat_succ _)
set_option maxHeartbeats 1000000 in
set_option maxRecDepth 100000 in
theorem c_X0_readPart (l : Launch) (E : wEnv) (σ : Mem) (L : Nat) (t : Nat → Int) (hT : TRep σ L t) (s : Int) (h0 : 0 ≤ s) (h1 : s ≤ 100) : MetC l E yX0_readPart cX0_readPart 4 (some .boolean) 2 45 [rv E (3), iv (s)] σ (fun v σ' => fr3 σ σ' ∧ (pF (chT L t) s ∧ v = some (iv 1) ∧ σ' 3 2 = pP (chT L t) s ∧ σ' 3 3 = pH (chT L t) s ∧ σ' 3 4 = pT (chT L t) s ∧ σ' 3 5 = pE (chT L t) s ∨ ¬ pF (chT L t) s ∧ v = some (iv 0))) := by
  refine MetC.of (own := RX0) (by decide) rfl (by simp [Value.category]) (Nat.le_of_ble_eq_true rfl) [some (rv E (3)), some (iv (s)), none, none] rfl (by simp) (fun K X R => ?_)
  have hL := hT.1
  refine g_aload_n X dX0_readPart_0 rfl ?_
  refine g_iload_n X dX0_readPart_1 rfl ?_
  refine cl_X0_49 X (c_X0_digitsFrom l E σ L t hT s (by omega) (by omega)) fk3 ⟨Nat.le_of_ble_eq_true rfl, Nat.le_of_ble_eq_true rfl⟩ rfl (Nat.le_of_ble_eq_true rfl) dX0_readPart_2 rfl (fun v1 τ2 p3 => ?_)
  obtain ⟨rfl, rfl⟩ := p3
  have db2 := dg_bd (chT L t) 80 s
  refine g_iconst X dX0_readPart_5 ?_
  refine g_icmp_ne X (tgt := 21) dX0_readPart_6 (by decide) ⟨by omega, by omega⟩ ⟨by decide, by decide⟩ (fun c4 => ?_) (fun c4 => ?_)
  · skip
    refine g_iconst X dX0_readPart_21 ?_
    exact R _ _ _ _ (Or.inl (by decide)) dX0_readPart_22 ⟨fr3.refl, Or.inr ⟨fun q => by unfold pF dB dA at q; omega, rfl⟩⟩
  · skip
    refine g_aload_n X dX0_readPart_9 rfl ?_
    refine g_iload_n X dX0_readPart_10 rfl ?_
    refine g_iconst X dX0_readPart_11 ?_
    refine g_iadd X dX0_readPart_12 ?_
    refine cl_X0_53 X (c_X0_characterAt l E σ L t hT (s + 1) ⟨by omega, by omega⟩) fk3 ⟨Nat.le_of_ble_eq_true rfl, Nat.le_of_ble_eq_true rfl⟩ rfl (Nat.le_of_ble_eq_true rfl) dX0_readPart_13 rfl (fun v5 τ6 p7 => ?_)
    obtain ⟨rfl, rfl⟩ := p7
    have cb13 := hT.cb (s + 1)
    refine g_bipush X dX0_readPart_16 (by decide) ?_
    refine g_icmp_eq X (tgt := 23) dX0_readPart_18 (by decide) ⟨by omega, by omega⟩ ⟨by decide, by decide⟩ (fun c8 => ?_) (fun c8 => ?_)
    · skip
      refine g_aload_n X dX0_readPart_23 rfl ?_
      refine g_aload_n X dX0_readPart_24 rfl ?_
      refine g_iload_n X dX0_readPart_25 rfl ?_
      refine g_iconst X dX0_readPart_26 ?_
      refine cl_X0_57 X (c_X0_numberIn l E σ L t hT s 1 (by omega) (by omega) (by omega) (by omega)) fk3 ⟨Nat.le_of_ble_eq_true rfl, Nat.le_of_ble_eq_true rfl⟩ rfl (Nat.le_of_ble_eq_true rfl) dX0_readPart_27 rfl (fun v9 τ10 p11 => ?_)
      obtain ⟨rfl, rfl⟩ := p11
      refine pf_X0_33 X fk3 dX0_readPart_30 ?_
      refine g_iload_n X dX0_readPart_33 rfl ?_
      refine g_iconst X dX0_readPart_34 ?_
      refine g_iadd X dX0_readPart_35 ?_
      refine g_istore_n X (lw := [some (rv E (3)), some (iv (s)), some (iv (s + 2)), none]) dX0_readPart_36 (by decide) rfl rfl ?_
      refine g_aload_n X dX0_readPart_37 rfl ?_
      refine g_iload_n X dX0_readPart_38 rfl ?_
      refine cl_X0_49 X (c_X0_digitsFrom l E (up σ 3 2 (num (chT L t) s (1 : Int).toNat)) L t (hT.up3 (j := 2) (by decide)) (s + 2) (by omega) (by omega)) fk3 ⟨Nat.le_of_ble_eq_true rfl, Nat.le_of_ble_eq_true rfl⟩ rfl (Nat.le_of_ble_eq_true rfl) dX0_readPart_39 rfl (fun v12 τ13 p14 => ?_)
      obtain ⟨rfl, rfl⟩ := p14
      have db39 := dg_bd (chT L t) 80 (s + 2)
      refine g_istore_n X (lw := [some (rv E (3)), some (iv (s)), some (iv (s + 2)), some (iv (dg (chT L t) 80 (s + 2)))]) dX0_readPart_42 (by decide) rfl rfl ?_
      refine g_iload_n X dX0_readPart_43 rfl ?_
      refine g_iconst X dX0_readPart_44 ?_
      refine g_iconst X dX0_readPart_45 ?_
      refine cl_X0_45 X (c_X7_inRange l E (up σ 3 2 (num (chT L t) s (1 : Int).toNat)) (dg (chT L t) 80 (s + 2)) 3 4 ⟨by omega, by omega⟩ ⟨by decide, by decide⟩ ⟨by decide, by decide⟩) ⟨Nat.le_of_ble_eq_true rfl, Nat.le_of_ble_eq_true rfl⟩ rfl (Nat.le_of_ble_eq_true rfl) dX0_readPart_46 rfl (fun v15 τ16 p17 => ?_)
      obtain ⟨rfl, ⟨b18, rfl⟩ | ⟨b18, rfl⟩⟩ := p17
      · skip
        skip
        refine g_if_ne X (tgt := 54) dX0_readPart_49 (by decide) ⟨by decide, by decide⟩ (fun _ => ?_) (fun q => absurd q (by decide))
        refine g_aload_n X dX0_readPart_54 rfl ?_
        refine g_aload_n X dX0_readPart_55 rfl ?_
        refine g_iload_n X dX0_readPart_56 rfl ?_
        refine g_iload_n X dX0_readPart_57 rfl ?_
        refine cl_X0_57 X (c_X0_numberIn l E (up σ 3 2 (num (chT L t) s (1 : Int).toNat)) L t (hT.up3 (j := 2) (by decide)) (s + 2) (dg (chT L t) 80 (s + 2)) (by omega) (by omega) (by omega) (by omega)) fk3 ⟨Nat.le_of_ble_eq_true rfl, Nat.le_of_ble_eq_true rfl⟩ rfl (Nat.le_of_ble_eq_true rfl) dX0_readPart_58 rfl (fun v19 τ20 p21 => ?_)
        obtain ⟨rfl, rfl⟩ := p21
        refine pf_X0_36 X fk3 dX0_readPart_61 ?_
        refine g_iload_n X dX0_readPart_64 rfl ?_
        refine g_iload_n X dX0_readPart_65 rfl ?_
        refine g_iadd X dX0_readPart_66 ?_
        refine g_istore_n X (lw := [some (rv E (3)), some (iv (s)), some (iv (s + 2 + (dg (chT L t) 80 (s + 2)))), some (iv (dg (chT L t) 80 (s + 2)))]) dX0_readPart_67 (by decide) rfl rfl ?_
        refine g_aload_n X dX0_readPart_68 rfl ?_
        refine g_iconst X dX0_readPart_69 ?_
        refine pf_X0_42 X fk3 dX0_readPart_70 ?_
        refine g_aload_n X dX0_readPart_73 rfl ?_
        refine g_iload_n X dX0_readPart_74 rfl ?_
        refine cl_X0_53 X (c_X0_characterAt l E (up (up (up σ 3 2 (num (chT L t) s (1 : Int).toNat)) 3 3 (num (chT L t) (s + 2) (dg (chT L t) 80 (s + 2)).toNat)) 3 4 (1)) L t (((hT.up3 (j := 2) (by decide)).up3 (j := 3) (by decide)).up3 (j := 4) (by decide)) (s + 2 + (dg (chT L t) 80 (s + 2))) ⟨by omega, by omega⟩) fk3 ⟨Nat.le_of_ble_eq_true rfl, Nat.le_of_ble_eq_true rfl⟩ rfl (Nat.le_of_ble_eq_true rfl) dX0_readPart_75 rfl (fun v22 τ23 p24 => ?_)
        obtain ⟨rfl, rfl⟩ := p24
        have cb75 := hT.cb (s + 2 + (dg (chT L t) 80 (s + 2)))
        refine g_bipush X dX0_readPart_78 (by decide) ?_
        refine g_icmp_ne X (tgt := 117) dX0_readPart_80 (by decide) ⟨by omega, by omega⟩ ⟨by decide, by decide⟩ (fun c25 => ?_) (fun c25 => ?_)
        · skip
          refine g_aload_n X dX0_readPart_117 rfl ?_
          refine g_iload_n X dX0_readPart_118 rfl ?_
          refine g_iconst X dX0_readPart_119 ?_
          refine g_iadd X dX0_readPart_120 ?_
          refine pf_X0_26 X fk3 dX0_readPart_121 ?_
          refine g_aload_n X dX0_readPart_124 rfl ?_
          refine g_iload_n X dX0_readPart_125 rfl ?_
          refine cl_X0_53 X (c_X0_characterAt l E (up (up (up (up σ 3 2 (num (chT L t) s (1 : Int).toNat)) 3 3 (num (chT L t) (s + 2) (dg (chT L t) 80 (s + 2)).toNat)) 3 4 (1)) 3 5 (s + 2 + (dg (chT L t) 80 (s + 2)) + 1)) L t ((((hT.up3 (j := 2) (by decide)).up3 (j := 3) (by decide)).up3 (j := 4) (by decide)).up3 (j := 5) (by decide)) (s + 2 + (dg (chT L t) 80 (s + 2))) ⟨by omega, by omega⟩) fk3 ⟨Nat.le_of_ble_eq_true rfl, Nat.le_of_ble_eq_true rfl⟩ rfl (Nat.le_of_ble_eq_true rfl) dX0_readPart_126 rfl (fun v26 τ27 p28 => ?_)
          obtain ⟨rfl, rfl⟩ := p28
          have cb126 := hT.cb (s + 2 + (dg (chT L t) 80 (s + 2)))
          refine g_bipush X dX0_readPart_129 (by decide) ?_
          refine g_icmp_ne X (tgt := 138) dX0_readPart_131 (by decide) ⟨by omega, by omega⟩ ⟨by decide, by decide⟩ (fun c29 => ?_) (fun c29 => ?_)
          · skip
            refine g_iconst X dX0_readPart_138 ?_
            exact R _ _ _ _ (Or.inl (by decide)) dX0_readPart_139 ⟨((((fr3.refl.up (j := 2) (by decide)).up (j := 3) (by decide)).up (j := 4) (by decide)).up (j := 5) (by decide)), Or.inr ⟨fun q => by unfold pF dB dA at q; omega, rfl⟩⟩
          · skip
            refine g_iconst X dX0_readPart_134 ?_
            refine g_goto X (tgt := 139) dX0_readPart_135 (by decide) ?_
            exact R _ _ _ _ (Or.inr (by decide)) dX0_readPart_139 ⟨((((fr3.refl.up (j := 2) (by decide)).up (j := 3) (by decide)).up (j := 4) (by decide)).up (j := 5) (by decide)), Or.inl ⟨by unfold pF dB dA; omega, rfl, (show (up (up (up (up σ 3 2 (num (chT L t) s (1 : Int).toNat)) 3 3 (num (chT L t) (s + 2) (dg (chT L t) 80 (s + 2)).toNat)) 3 4 (1)) 3 5 (s + 2 + (dg (chT L t) 80 (s + 2)) + 1)) 3 2 = num (chT L t) s (1 : Int).toNat from (up_ne2 (by decide) (up_ne2 (by decide) (up_ne2 (by decide) (up_same _ _ _ _))))).trans rfl, (show (up (up (up (up σ 3 2 (num (chT L t) s (1 : Int).toNat)) 3 3 (num (chT L t) (s + 2) (dg (chT L t) 80 (s + 2)).toNat)) 3 4 (1)) 3 5 (s + 2 + (dg (chT L t) 80 (s + 2)) + 1)) 3 3 = num (chT L t) (s + 2) (dg (chT L t) 80 (s + 2)).toNat from (up_ne2 (by decide) (up_ne2 (by decide) (up_same _ _ _ _)))).trans rfl, (show (up (up (up (up σ 3 2 (num (chT L t) s (1 : Int).toNat)) 3 3 (num (chT L t) (s + 2) (dg (chT L t) 80 (s + 2)).toNat)) 3 4 (1)) 3 5 (s + 2 + (dg (chT L t) 80 (s + 2)) + 1)) 3 4 = 1 from (up_ne2 (by decide) (up_same _ _ _ _))).trans (by unfold pT dB dA; first | (exfalso; omega) | (rw [if_pos (by omega)]; done) | (rw [if_neg (by omega)]; done)), (show (up (up (up (up σ 3 2 (num (chT L t) s (1 : Int).toNat)) 3 3 (num (chT L t) (s + 2) (dg (chT L t) 80 (s + 2)).toNat)) 3 4 (1)) 3 5 (s + 2 + (dg (chT L t) 80 (s + 2)) + 1)) 3 5 = s + 2 + (dg (chT L t) 80 (s + 2)) + 1 from (up_same _ _ _ _)).trans (by unfold pE dB dA; first | (exfalso; omega) | (rw [if_pos (by omega)]; done) | (rw [if_neg (by omega)]; done))⟩⟩
        · skip
          refine g_iinc X (lw := [some (rv E (3)), some (iv (s)), some (iv (s + 2 + (dg (chT L t) 80 (s + 2)) + 1)), some (iv (dg (chT L t) 80 (s + 2)))]) dX0_readPart_83 rfl (by decide) rfl rfl ?_
          refine g_aload_n X dX0_readPart_86 rfl ?_
          refine g_iload_n X dX0_readPart_87 rfl ?_
          refine cl_X0_49 X (c_X0_digitsFrom l E (up (up (up σ 3 2 (num (chT L t) s (1 : Int).toNat)) 3 3 (num (chT L t) (s + 2) (dg (chT L t) 80 (s + 2)).toNat)) 3 4 (1)) L t (((hT.up3 (j := 2) (by decide)).up3 (j := 3) (by decide)).up3 (j := 4) (by decide)) (s + 2 + (dg (chT L t) 80 (s + 2)) + 1) (by omega) (by omega)) fk3 ⟨Nat.le_of_ble_eq_true rfl, Nat.le_of_ble_eq_true rfl⟩ rfl (Nat.le_of_ble_eq_true rfl) dX0_readPart_88 rfl (fun v30 τ31 p32 => ?_)
          obtain ⟨rfl, rfl⟩ := p32
          have db88 := dg_bd (chT L t) 80 (s + 2 + (dg (chT L t) 80 (s + 2)) + 1)
          refine g_istore_n X (lw := [some (rv E (3)), some (iv (s)), some (iv (s + 2 + (dg (chT L t) 80 (s + 2)) + 1)), some (iv (dg (chT L t) 80 (s + 2 + (dg (chT L t) 80 (s + 2)) + 1)))]) dX0_readPart_91 (by decide) rfl rfl ?_
          refine g_iload_n X dX0_readPart_92 rfl ?_
          refine g_iconst X dX0_readPart_93 ?_
          refine g_iconst X dX0_readPart_94 ?_
          refine cl_X0_45 X (c_X7_inRange l E (up (up (up σ 3 2 (num (chT L t) s (1 : Int).toNat)) 3 3 (num (chT L t) (s + 2) (dg (chT L t) 80 (s + 2)).toNat)) 3 4 (1)) (dg (chT L t) 80 (s + 2 + (dg (chT L t) 80 (s + 2)) + 1)) 1 2 ⟨by omega, by omega⟩ ⟨by decide, by decide⟩ ⟨by decide, by decide⟩) ⟨Nat.le_of_ble_eq_true rfl, Nat.le_of_ble_eq_true rfl⟩ rfl (Nat.le_of_ble_eq_true rfl) dX0_readPart_95 rfl (fun v33 τ34 p35 => ?_)
          obtain ⟨rfl, ⟨b36, rfl⟩ | ⟨b36, rfl⟩⟩ := p35
          · skip
            skip
            refine g_if_ne X (tgt := 103) dX0_readPart_98 (by decide) ⟨by decide, by decide⟩ (fun _ => ?_) (fun q => absurd q (by decide))
            refine g_aload_n X dX0_readPart_103 rfl ?_
            refine g_aload_n X dX0_readPart_104 rfl ?_
            refine g_iload_n X dX0_readPart_105 rfl ?_
            refine g_iload_n X dX0_readPart_106 rfl ?_
            refine cl_X0_57 X (c_X0_numberIn l E (up (up (up σ 3 2 (num (chT L t) s (1 : Int).toNat)) 3 3 (num (chT L t) (s + 2) (dg (chT L t) 80 (s + 2)).toNat)) 3 4 (1)) L t (((hT.up3 (j := 2) (by decide)).up3 (j := 3) (by decide)).up3 (j := 4) (by decide)) (s + 2 + (dg (chT L t) 80 (s + 2)) + 1) (dg (chT L t) 80 (s + 2 + (dg (chT L t) 80 (s + 2)) + 1)) (by omega) (by omega) (by omega) (by omega)) fk3 ⟨Nat.le_of_ble_eq_true rfl, Nat.le_of_ble_eq_true rfl⟩ rfl (Nat.le_of_ble_eq_true rfl) dX0_readPart_107 rfl (fun v37 τ38 p39 => ?_)
            obtain ⟨rfl, rfl⟩ := p39
            refine pf_X0_42 X fk3 dX0_readPart_110 ?_
            refine g_iload_n X dX0_readPart_113 rfl ?_
            refine g_iload_n X dX0_readPart_114 rfl ?_
            refine g_iadd X dX0_readPart_115 ?_
            refine g_istore_n X (lw := [some (rv E (3)), some (iv (s)), some (iv (s + 2 + (dg (chT L t) 80 (s + 2)) + 1 + (dg (chT L t) 80 (s + 2 + (dg (chT L t) 80 (s + 2)) + 1)))), some (iv (dg (chT L t) 80 (s + 2 + (dg (chT L t) 80 (s + 2)) + 1)))]) dX0_readPart_116 (by decide) rfl rfl ?_
            refine g_aload_n X dX0_readPart_117 rfl ?_
            refine g_iload_n X dX0_readPart_118 rfl ?_
            refine g_iconst X dX0_readPart_119 ?_
            refine g_iadd X dX0_readPart_120 ?_
            refine pf_X0_26 X fk3 dX0_readPart_121 ?_
            refine g_aload_n X dX0_readPart_124 rfl ?_
            refine g_iload_n X dX0_readPart_125 rfl ?_
            refine cl_X0_53 X (c_X0_characterAt l E (up (up (up (up (up σ 3 2 (num (chT L t) s (1 : Int).toNat)) 3 3 (num (chT L t) (s + 2) (dg (chT L t) 80 (s + 2)).toNat)) 3 4 (1)) 3 4 (num (chT L t) (s + 2 + (dg (chT L t) 80 (s + 2)) + 1) (dg (chT L t) 80 (s + 2 + (dg (chT L t) 80 (s + 2)) + 1)).toNat)) 3 5 (s + 2 + (dg (chT L t) 80 (s + 2)) + 1 + (dg (chT L t) 80 (s + 2 + (dg (chT L t) 80 (s + 2)) + 1)) + 1)) L t (((((hT.up3 (j := 2) (by decide)).up3 (j := 3) (by decide)).up3 (j := 4) (by decide)).up3 (j := 4) (by decide)).up3 (j := 5) (by decide)) (s + 2 + (dg (chT L t) 80 (s + 2)) + 1 + (dg (chT L t) 80 (s + 2 + (dg (chT L t) 80 (s + 2)) + 1))) ⟨by omega, by omega⟩) fk3 ⟨Nat.le_of_ble_eq_true rfl, Nat.le_of_ble_eq_true rfl⟩ rfl (Nat.le_of_ble_eq_true rfl) dX0_readPart_126 rfl (fun v40 τ41 p42 => ?_)
            obtain ⟨rfl, rfl⟩ := p42
            have cb126 := hT.cb (s + 2 + (dg (chT L t) 80 (s + 2)) + 1 + (dg (chT L t) 80 (s + 2 + (dg (chT L t) 80 (s + 2)) + 1)))
            refine g_bipush X dX0_readPart_129 (by decide) ?_
            refine g_icmp_ne X (tgt := 138) dX0_readPart_131 (by decide) ⟨by omega, by omega⟩ ⟨by decide, by decide⟩ (fun c43 => ?_) (fun c43 => ?_)
            · skip
              refine g_iconst X dX0_readPart_138 ?_
              exact R _ _ _ _ (Or.inl (by decide)) dX0_readPart_139 ⟨(((((fr3.refl.up (j := 2) (by decide)).up (j := 3) (by decide)).up (j := 4) (by decide)).up (j := 4) (by decide)).up (j := 5) (by decide)), Or.inr ⟨fun q => by unfold pF dB dA at q; omega, rfl⟩⟩
            · skip
              refine g_iconst X dX0_readPart_134 ?_
              refine g_goto X (tgt := 139) dX0_readPart_135 (by decide) ?_
              exact R _ _ _ _ (Or.inr (by decide)) dX0_readPart_139 ⟨(((((fr3.refl.up (j := 2) (by decide)).up (j := 3) (by decide)).up (j := 4) (by decide)).up (j := 4) (by decide)).up (j := 5) (by decide)), Or.inl ⟨by unfold pF dB dA; omega, rfl, (show (up (up (up (up (up σ 3 2 (num (chT L t) s (1 : Int).toNat)) 3 3 (num (chT L t) (s + 2) (dg (chT L t) 80 (s + 2)).toNat)) 3 4 (1)) 3 4 (num (chT L t) (s + 2 + (dg (chT L t) 80 (s + 2)) + 1) (dg (chT L t) 80 (s + 2 + (dg (chT L t) 80 (s + 2)) + 1)).toNat)) 3 5 (s + 2 + (dg (chT L t) 80 (s + 2)) + 1 + (dg (chT L t) 80 (s + 2 + (dg (chT L t) 80 (s + 2)) + 1)) + 1)) 3 2 = num (chT L t) s (1 : Int).toNat from (up_ne2 (by decide) (up_ne2 (by decide) (up_ne2 (by decide) (up_ne2 (by decide) (up_same _ _ _ _)))))).trans rfl, (show (up (up (up (up (up σ 3 2 (num (chT L t) s (1 : Int).toNat)) 3 3 (num (chT L t) (s + 2) (dg (chT L t) 80 (s + 2)).toNat)) 3 4 (1)) 3 4 (num (chT L t) (s + 2 + (dg (chT L t) 80 (s + 2)) + 1) (dg (chT L t) 80 (s + 2 + (dg (chT L t) 80 (s + 2)) + 1)).toNat)) 3 5 (s + 2 + (dg (chT L t) 80 (s + 2)) + 1 + (dg (chT L t) 80 (s + 2 + (dg (chT L t) 80 (s + 2)) + 1)) + 1)) 3 3 = num (chT L t) (s + 2) (dg (chT L t) 80 (s + 2)).toNat from (up_ne2 (by decide) (up_ne2 (by decide) (up_ne2 (by decide) (up_same _ _ _ _))))).trans rfl, (show (up (up (up (up (up σ 3 2 (num (chT L t) s (1 : Int).toNat)) 3 3 (num (chT L t) (s + 2) (dg (chT L t) 80 (s + 2)).toNat)) 3 4 (1)) 3 4 (num (chT L t) (s + 2 + (dg (chT L t) 80 (s + 2)) + 1) (dg (chT L t) 80 (s + 2 + (dg (chT L t) 80 (s + 2)) + 1)).toNat)) 3 5 (s + 2 + (dg (chT L t) 80 (s + 2)) + 1 + (dg (chT L t) 80 (s + 2 + (dg (chT L t) 80 (s + 2)) + 1)) + 1)) 3 4 = num (chT L t) (s + 2 + (dg (chT L t) 80 (s + 2)) + 1) (dg (chT L t) 80 (s + 2 + (dg (chT L t) 80 (s + 2)) + 1)).toNat from (up_ne2 (by decide) (up_same _ _ _ _))).trans (by unfold pT dB dA; first | (exfalso; omega) | (rw [if_pos (by omega)]; done) | (rw [if_neg (by omega)]; done)), (show (up (up (up (up (up σ 3 2 (num (chT L t) s (1 : Int).toNat)) 3 3 (num (chT L t) (s + 2) (dg (chT L t) 80 (s + 2)).toNat)) 3 4 (1)) 3 4 (num (chT L t) (s + 2 + (dg (chT L t) 80 (s + 2)) + 1) (dg (chT L t) 80 (s + 2 + (dg (chT L t) 80 (s + 2)) + 1)).toNat)) 3 5 (s + 2 + (dg (chT L t) 80 (s + 2)) + 1 + (dg (chT L t) 80 (s + 2 + (dg (chT L t) 80 (s + 2)) + 1)) + 1)) 3 5 = s + 2 + (dg (chT L t) 80 (s + 2)) + 1 + (dg (chT L t) 80 (s + 2 + (dg (chT L t) 80 (s + 2)) + 1)) + 1 from (up_same _ _ _ _)).trans (by unfold pE dB dA; first | (exfalso; omega) | (rw [if_pos (by omega)]; done) | (rw [if_neg (by omega)]; done))⟩⟩
          · skip
            skip
            refine g_if_ne X (tgt := 103) dX0_readPart_98 (by decide) ⟨by decide, by decide⟩ (fun q => absurd q (by decide)) (fun _ => ?_)
            refine g_iconst X dX0_readPart_101 ?_
            exact R _ _ _ _ (Or.inl (by decide)) dX0_readPart_102 ⟨(((fr3.refl.up (j := 2) (by decide)).up (j := 3) (by decide)).up (j := 4) (by decide)), Or.inr ⟨fun q => by unfold pF dB dA at q; omega, rfl⟩⟩
      · skip
        skip
        refine g_if_ne X (tgt := 54) dX0_readPart_49 (by decide) ⟨by decide, by decide⟩ (fun q => absurd q (by decide)) (fun _ => ?_)
        refine g_iconst X dX0_readPart_52 ?_
        exact R _ _ _ _ (Or.inl (by decide)) dX0_readPart_53 ⟨(fr3.refl.up (j := 2) (by decide)), Or.inr ⟨fun q => by unfold pF dB dA at q; omega, rfl⟩⟩
    · skip
      refine g_iconst X dX0_readPart_21 ?_
      exact R _ _ _ _ (Or.inl (by decide)) dX0_readPart_22 ⟨fr3.refl, Or.inr ⟨fun q => by unfold pF dB dA at q; omega, rfl⟩⟩
set_option maxHeartbeats 1000000 in
set_option maxRecDepth 100000 in
theorem c_X0_reasonOf (l : Launch) (E : wEnv) (σ : Mem) (L : Nat) (t : Nat → Int) (hT : TRep σ L t) (s n : Int) (h0 : 0 ≤ s) (h1 : s ≤ 100) (hn : 0 ≤ n ∧ n ≤ 10) : MetC l E yX0_reasonOf cX0_reasonOf 3 (some .int) 3 68 [rv E (3), iv (s), iv (n)] σ (fun v σ' => v = some (iv (rsn (chT L t) s n)) ∧ fr3 σ σ' ∧ (rsn (chT L t) s n = 0 → σ' 3 2 = pP (chT L t) s ∧ σ' 3 3 = pH (chT L t) s ∧ σ' 3 4 = pT (chT L t) s ∧ σ' 3 5 = pE (chT L t) s)) := by
  refine MetC.of (own := RX0) (by decide) rfl (by simp [Value.category]) (Nat.le_of_ble_eq_true rfl) [some (rv E (3)), some (iv (s)), some (iv (n))] rfl (by simp) (fun K X R => ?_)
  have hL := hT.1
  refine g_aload_n X dX0_reasonOf_0 rfl ?_
  refine g_iload_n X dX0_reasonOf_1 rfl ?_
  refine cl_X0_29 X (c_X0_readPart l E σ L t hT s (by omega) (by omega)) fk3 ⟨Nat.le_of_ble_eq_true rfl, Nat.le_of_ble_eq_true rfl⟩ rfl (Nat.le_of_ble_eq_true rfl) dX0_reasonOf_2 rfl (fun v1 τ2 p3 => ?_)
  obtain ⟨hf2, ⟨hF2, rfl, e2_2, e2_3, e2_4, e2_5⟩ | ⟨hF2, rfl⟩⟩ := p3
  · skip
    have pb2 := hF2.b
    have ph2 := hF2.hi hT.cb
    have pl2 := hF2.lt
    refine g_if_ne X (tgt := 10) dX0_reasonOf_5 (by decide) ⟨by decide, by decide⟩ (fun _ => ?_) (fun q => absurd q (by decide))
    refine g_aload_n X dX0_reasonOf_10 rfl ?_
    refine gf_X0_33 X fk3 (show τ2 3 2 = pP (chT L t) s from e2_2) dX0_reasonOf_11 ?_
    refine g_iload_n X dX0_reasonOf_14 rfl ?_
    refine g_icmp_lt X (tgt := 20) dX0_reasonOf_15 (by decide) ⟨by omega, by omega⟩ ⟨by omega, by omega⟩ (fun c4 => ?_) (fun c4 => ?_)
    · skip
      refine g_aload_n X dX0_reasonOf_20 rfl ?_
      refine gf_X0_36 X fk3 (show τ2 3 3 = pH (chT L t) s from e2_3) dX0_reasonOf_21 ?_
      refine cl_X0_39 X (c_X7_isFall l E τ2 (pH (chT L t) s) ⟨by omega, by omega⟩) ⟨Nat.le_of_ble_eq_true rfl, Nat.le_of_ble_eq_true rfl⟩ rfl (Nat.le_of_ble_eq_true rfl) dX0_reasonOf_24 rfl (fun v5 τ6 p7 => ?_)
      obtain ⟨rfl, ⟨b8, rfl⟩ | ⟨b8, rfl⟩⟩ := p7
      · skip
        skip
        refine g_if_eq X (tgt := 47) dX0_reasonOf_27 (by decide) ⟨by decide, by decide⟩ (fun q => absurd q (by decide)) (fun _ => ?_)
        refine g_aload_n X dX0_reasonOf_30 rfl ?_
        refine gf_X0_42 X fk3 (show τ2 3 4 = pT (chT L t) s from e2_4) dX0_reasonOf_31 ?_
        refine g_iconst X dX0_reasonOf_34 ?_
        refine g_bipush X dX0_reasonOf_35 (by decide) ?_
        refine cl_X0_45 X (c_X7_inRange l E τ2 (pT (chT L t) s) 1 40 ⟨by omega, by omega⟩ ⟨by decide, by decide⟩ ⟨by decide, by decide⟩) ⟨Nat.le_of_ble_eq_true rfl, Nat.le_of_ble_eq_true rfl⟩ rfl (Nat.le_of_ble_eq_true rfl) dX0_reasonOf_37 rfl (fun v9 τ10 p11 => ?_)
        obtain ⟨rfl, ⟨b12, rfl⟩ | ⟨b12, rfl⟩⟩ := p11
        · skip
          skip
          refine g_if_eq X (tgt := 47) dX0_reasonOf_40 (by decide) ⟨by decide, by decide⟩ (fun q => absurd q (by decide)) (fun _ => ?_)
          refine g_iconst X dX0_reasonOf_43 ?_
          refine g_goto X (tgt := 48) dX0_reasonOf_44 (by decide) ?_
          exact R _ _ _ _ dX0_reasonOf_48 ⟨congrArg (fun z => some (iv z)) (rsn_4 hF2 (by omega) (by omega)).symm, hf2, fun _ => ⟨e2_2, e2_3, e2_4, e2_5⟩⟩
        · skip
          skip
          refine g_if_eq X (tgt := 47) dX0_reasonOf_40 (by decide) ⟨by decide, by decide⟩ (fun _ => ?_) (fun q => absurd q (by decide))
          refine g_iconst X dX0_reasonOf_47 ?_
          exact R _ _ _ _ dX0_reasonOf_48 ⟨congrArg (fun z => some (iv z)) (rsn_3 hF2 (by omega) (by omega)).symm, hf2, fun q => absurd ((rsn_3 hF2 (by omega) (by omega)).symm.trans q) (by decide)⟩
      · skip
        skip
        refine g_if_eq X (tgt := 47) dX0_reasonOf_27 (by decide) ⟨by decide, by decide⟩ (fun _ => ?_) (fun q => absurd q (by decide))
        refine g_iconst X dX0_reasonOf_47 ?_
        exact R _ _ _ _ dX0_reasonOf_48 ⟨congrArg (fun z => some (iv z)) (rsn_3 hF2 (by omega) (by omega)).symm, hf2, fun q => absurd ((rsn_3 hF2 (by omega) (by omega)).symm.trans q) (by decide)⟩
    · skip
      refine g_iconst X dX0_reasonOf_18 ?_
      exact R _ _ _ _ dX0_reasonOf_19 ⟨congrArg (fun z => some (iv z)) (rsn_2 hF2 (by omega)).symm, hf2, fun q => absurd ((rsn_2 hF2 (by omega)).symm.trans q) (by decide)⟩
  · skip
    refine g_if_ne X (tgt := 10) dX0_reasonOf_5 (by decide) ⟨by decide, by decide⟩ (fun q => absurd q (by decide)) (fun _ => ?_)
    refine g_iconst X dX0_reasonOf_8 ?_
    exact R _ _ _ _ dX0_reasonOf_9 ⟨congrArg (fun z => some (iv z)) (rsn_no hF2).symm, hf2, fun q => absurd ((rsn_no hF2).symm.trans q) (by decide)⟩
set_option maxHeartbeats 1000000 in
set_option maxRecDepth 100000 in
theorem c_X0_findFault (l : Launch) (E : wEnv) (σ : Mem) (L : Nat) (t : Nat → Int) (hT : TRep σ L t) (n : Int) (hn : 0 ≤ n ∧ n ≤ 10) : MetC l E yX0_findFault cX0_findFault 5 (some .int) 4 90 [rv E (3), iv (n)] σ (fun v σ' => v = some (iv (fltT (chT L t) L n 80 0).1) ∧ fr3 σ σ' ∧ (¬ (fltT (chT L t) L n 80 0).1 = 0 → σ' 3 6 = (fltT (chT L t) L n 80 0).2)) := by
  refine MetC.of (own := RX0) (by decide) rfl (by simp [Value.category]) (Nat.le_of_ble_eq_true rfl) [some (rv E (3)), some (iv (n)), none, none, none] rfl (by simp) (fun K X R => ?_)
  have hL := hT.1
  refine g_iconst X dX0_findFault_0 ?_
  refine g_istore_n X (lw := [some (rv E (3)), some (iv (n)), some (iv (0)), none, none]) dX0_findFault_1 (by decide) rfl rfl ?_
  refine g_iconst X dX0_findFault_2 ?_
  refine g_istore_n X (lw := [some (rv E (3)), some (iv (n)), some (iv (0)), some (iv (0)), none]) dX0_findFault_3 (by decide) rfl rfl ?_
  have L1 : ∀ (fu : Nat) (τ : Mem) (s k : Int), (0 ≤ k) → (k ≤ 80) → (0 ≤ s ∧ s ≤ L) → (fr3 σ τ) → ((fltT (chT L t) L n 80 0) = fltT (chT L t) L n (80 - k).toNat s) → 80 - k < (fu : Int) → K τ 4 [some (rv E (3)), some (iv (n)), some (iv (s)), some (iv (k)), none] [] := by
    intro fu
    induction fu with
    | zero =>
      intro τ s k j1 j2 js jf j3 hm
      exact absurd hm (by omega)
    | succ fu ih1 =>
      intro τ s k j1 j2 js jf j3 hm
      refine g_iload_n X dX0_findFault_4 rfl ?_
      refine g_bipush X dX0_findFault_5 (by decide) ?_
      refine g_icmp_ge X (tgt := 50) dX0_findFault_7 (by decide) ⟨by omega, by omega⟩ ⟨by decide, by decide⟩ (fun c2 => ?_) (fun c2 => ?_)
      · skip
        refine g_iconst X dX0_findFault_50 ?_
        exact R _ _ _ _ dX0_findFault_51 (by have e : (fltT (chT L t) L n 80 0) = (0, s) := by { first | (rw [j3, show (80 - k).toNat = 0 by omega]; rfl) | (rw [j3]; exact fltT_done (by omega) _) }; rw [e]; exact ⟨rfl, jf, fun q => absurd rfl q⟩)
      · skip
        refine g_iload_n X dX0_findFault_10 rfl ?_
        refine g_aload_n X dX0_findFault_11 rfl ?_
        refine gf_X0_15 X fk3 (hT.f3 jf).2.1 dX0_findFault_12 ?_
        refine g_icmp_ge X (tgt := 50) dX0_findFault_15 (by decide) ⟨by omega, by omega⟩ ⟨by omega, by omega⟩ (fun c3 => ?_) (fun c3 => ?_)
        · skip
          refine g_iconst X dX0_findFault_50 ?_
          exact R _ _ _ _ dX0_findFault_51 (by have e : (fltT (chT L t) L n 80 0) = (0, s) := by { first | (rw [j3, show (80 - k).toNat = 0 by omega]; rfl) | (rw [j3]; exact fltT_done (by omega) _) }; rw [e]; exact ⟨rfl, jf, fun q => absurd rfl q⟩)
        · skip
          refine g_aload_n X dX0_findFault_18 rfl ?_
          refine g_iload_n X dX0_findFault_19 rfl ?_
          refine g_iload_n X dX0_findFault_20 rfl ?_
          refine cl_X0_19 X (c_X0_reasonOf l E τ L t (hT.f3 jf) s n (by omega) (by omega) (by omega)) fk3 ⟨Nat.le_of_ble_eq_true rfl, Nat.le_of_ble_eq_true rfl⟩ rfl (Nat.le_of_ble_eq_true rfl) dX0_findFault_21 rfl (fun v4 τ5 p6 => ?_)
          obtain ⟨rfl, hf21, hv21⟩ := p6
          have rb21 := rsn_bd (chT L t) s n
          refine g_istore X (lw := [some (rv E (3)), some (iv (n)), some (iv (s)), some (iv (k)), some (iv (rsn (chT L t) s n))]) dX0_findFault_24 (by decide) rfl rfl ?_
          refine g_iload X dX0_findFault_26 rfl ?_
          refine g_if_eq X (tgt := 39) dX0_findFault_28 (by decide) ⟨by omega, by omega⟩ (fun c7 => ?_) (fun c7 => ?_)
          · skip
            refine g_aload_n X dX0_findFault_39 rfl ?_
            refine gf_X0_26 X fk3 (show τ5 3 5 = pE (chT L t) s from (hv21 (by omega)).2.2.2) dX0_findFault_40 ?_
            refine g_istore_n X (lw := [some (rv E (3)), some (iv (n)), some (iv (pE (chT L t) s)), some (iv (k)), some (iv (rsn (chT L t) s n))]) dX0_findFault_43 (by decide) rfl rfl ?_
            refine g_iinc X (lw := [some (rv E (3)), some (iv (n)), some (iv (pE (chT L t) s)), some (iv (k + 1)), some (iv (rsn (chT L t) s n))]) dX0_findFault_44 rfl (by decide) rfl rfl ?_
            refine g_goto X (tgt := 4) dX0_findFault_47 (by decide) ?_
            refine g_kill X 4 (lw := [some (rv E (3)), some (iv (n)), some (iv (pE (chT L t) s)), some (iv (k + 1)), none]) rfl ?_
            exact ih1 τ5  (pE (chT L t) s) (k + 1) (by omega) (by omega) (by have q := (rsn_0 (C := (chT L t)) (s := s) (n := n) (by omega)).1; have q1 := q.lt; have q2 := q.b; omega) (by exact jf.trans hf21) (by rw [j3, show (80 - k).toNat = (80 - (k + 1)).toNat + 1 by omega, fltT, if_pos (by omega), if_pos (by omega)]) (by omega)
          · skip
            refine g_aload_n X dX0_findFault_31 rfl ?_
            refine g_iload_n X dX0_findFault_32 rfl ?_
            refine pf_X0_23 X fk3 dX0_findFault_33 ?_
            refine g_iload X dX0_findFault_36 rfl ?_
            exact R _ _ _ _ dX0_findFault_38 (by have e : (fltT (chT L t) L n 80 0) = (rsn (chT L t) s n, s) := by { rw [j3, show (80 - k).toNat = (79 - k).toNat + 1 by omega, fltT, if_pos (by omega), if_neg (by omega)] }; rw [e]; exact ⟨rfl, (jf.trans hf21).up (by decide), fun _ => up_same _ _ _ _⟩)
  exact L1 _ σ  0 0 (by omega) (by omega) (by omega) (by exact fr3.refl) (by rfl) (by exact Int.lt_toNat_succ _)
set_option maxHeartbeats 1000000 in
set_option maxRecDepth 100000 in
theorem c_X7_fault (l : Launch) (E : wEnv) (σ : Mem) (s : St) (N : Int) (hC : CRep σ s N) (hN : N + 600 ≤ 400000) (w : Int) (hw : I32 w) : MetC l E yX7_fault cX7_fault 3 (some .int) 5 114 [rv E (0), iv (w)] σ (fun v σ' => v = some (iv (faultX s w)) ∧ CRep σ' s (N + 600) ∧ frM σ σ') := by
  refine MetC.of (own := RX7) (by decide) rfl (by simp [Value.category]) (Nat.le_of_ble_eq_true rfl) [some (rv E (0)), some (iv (w)), none] rfl (by simp) (fun K X R => ?_)
  have hS := hC.1
  have hR := hC.2.1
  have hH := hC.2.2.1
  have hI := hC.2.2.2.1
  have hT := hC.2.2.2.2
  have r19 := hR.2.2.2.2.1
  have r0 := hR.1
  have rN := hR.2.2.2.2.2.1
  refine g_iload_n X dX7_fault_0 rfl ?_
  refine g_iconst X dX7_fault_1 ?_
  refine g_iconst X dX7_fault_2 ?_
  refine cl_X7_54 X (c_X7_inRange l E σ w 0 1 ⟨by omega, by omega⟩ ⟨by decide, by decide⟩ ⟨by decide, by decide⟩) ⟨Nat.le_of_ble_eq_true rfl, Nat.le_of_ble_eq_true rfl⟩ rfl (Nat.le_of_ble_eq_true rfl) dX7_fault_3 rfl (fun v1 τ2 p3 => ?_)
  obtain ⟨rfl, ⟨b4, rfl⟩ | ⟨b4, rfl⟩⟩ := p3
  · skip
    skip
    refine g_if_ne X (tgt := 11) dX7_fault_6 (by decide) ⟨by decide, by decide⟩ (fun _ => ?_) (fun q => absurd q (by decide))
    refine g_aload_n X dX7_fault_11 rfl ?_
    refine gf_X7_26 X fk0 dX7_fault_12 ?_
    refine g_aload_n X dX7_fault_15 rfl ?_
    refine gf_X7_10 X fk0 dX7_fault_16 ?_
    refine gf_X7_104 X now_k (hS.2.2.2.2.1) dX7_fault_19 ?_
    refine cl_X7_255 X (c_X0_findFault l E σ s.2.2.2.1 s.2.2.2.2 hT (s.1 19) (by omega)) fk3 ⟨Nat.le_of_ble_eq_true rfl, Nat.le_of_ble_eq_true rfl⟩ rfl (Nat.le_of_ble_eq_true rfl) dX7_fault_22 rfl (fun v5 τ6 p7 => ?_)
    obtain ⟨rfl, hf, hv⟩ := p7
    have hC1 := hC.f3 hf
    have hS1 := hC1.1
    have hH1 := hC1.2.2.1
    have hT1 := hC1.2.2.2.2
    have fb := fltT_bd (chT s.2.2.2.1 s.2.2.2.2) s.2.2.2.1 (s.1 19) 80 0
    refine g_istore_n X (lw := [some (rv E (0)), some (iv (w)), some (iv ((fltT (chT s.2.2.2.1 s.2.2.2.2) s.2.2.2.1 (s.1 19) 80 0).1))]) dX7_fault_25 (by decide) rfl rfl ?_
    refine g_iload_n X dX7_fault_26 rfl ?_
    refine g_if_ne X (tgt := 33) dX7_fault_27 (by decide) ⟨by omega, by omega⟩ (fun c8 => ?_) (fun c8 => ?_)
    · skip
      refine g_iload_n X dX7_fault_33 rfl ?_
      refine g_if_ne X (tgt := 47) dX7_fault_34 (by decide) ⟨by omega, by omega⟩ (fun c9 => ?_) (fun c9 => ?_)
      · skip
        refine g_iload_n X dX7_fault_47 rfl ?_
        exact R _ _ _ _ dX7_fault_48 (by unfold faultX; (repeat (first | rw [if_pos (by omega)] | rw [if_neg (by omega)])); exact ⟨rfl, hC1.mono (by omega) hN, fun x h1 h2 => hf.c (by omega)⟩)
      · skip
        refine g_aload_n X dX7_fault_37 rfl ?_
        refine gf_X7_26 X fk0 dX7_fault_38 ?_
        refine gf_X7_258 X fk3 (show τ6 3 6 = (fltT (chT s.2.2.2.1 s.2.2.2.2) s.2.2.2.1 (s.1 19) 80 0).2 from (hv (by omega))) dX7_fault_41 ?_
        refine g_goto X (tgt := 48) dX7_fault_44 (by decide) ?_
        exact R _ _ _ _ dX7_fault_48 (by unfold faultX; (repeat (first | rw [if_pos (by omega)] | rw [if_neg (by omega)])); exact ⟨rfl, hC1.mono (by omega) hN, fun x h1 h2 => hf.c (by omega)⟩)
    · skip
      refine g_bipush X dX7_fault_30 (by decide) ?_
      exact R _ _ _ _ dX7_fault_32 (by unfold faultX; (repeat (first | rw [if_pos (by omega)] | rw [if_neg (by omega)])); exact ⟨rfl, hC1.mono (by omega) hN, fun x h1 h2 => hf.c (by omega)⟩)
  · skip
    skip
    refine g_if_ne X (tgt := 11) dX7_fault_6 (by decide) ⟨by decide, by decide⟩ (fun q => absurd q (by decide)) (fun _ => ?_)
    refine g_iconst X dX7_fault_9 ?_
    exact R _ _ _ _ dX7_fault_10 (by unfold faultX; rw [if_neg (by omega)]; exact ⟨rfl, hC.mono (by omega) hN, frM.refl⟩)
set_option maxHeartbeats 1000000 in
set_option maxRecDepth 100000 in
theorem c_X7_carry (l : Launch) (E : wEnv) (σ : Mem) (s : St) (N : Int) (hC : CRep σ s N) (hN : N + 600 ≤ 400000) : MetC l E yX7_carry cX7_carry 4 (some .int) 5 154 [rv E (0)] σ (fun v σ' => v = some (iv (carryX s).1) ∧ CRep σ' (carryX s).2 (N + 600) ∧ frM σ σ') := by
  refine MetC.of (own := RX7) (by decide) rfl (by simp [Value.category]) (Nat.le_of_ble_eq_true rfl) [some (rv E (0)), none, none, none] rfl (by simp) (fun K X R => ?_)
  have hS := hC.1
  have hR := hC.2.1
  have hH := hC.2.2.1
  have hI := hC.2.2.2.1
  have hT := hC.2.2.2.2
  have r19 := hR.2.2.2.2.1
  have r0 := hR.1
  have rN := hR.2.2.2.2.2.1
  have hL := hT.1
  refine g_aload_n X dX7_carry_0 rfl ?_
  refine gf_X7_26 X fk0 dX7_carry_1 ?_
  refine g_aload_n X dX7_carry_4 rfl ?_
  refine gf_X7_10 X fk0 dX7_carry_5 ?_
  refine gf_X7_104 X now_k (hS.2.2.2.2.1) dX7_carry_8 ?_
  refine cl_X7_255 X (c_X0_findFault l E σ s.2.2.2.1 s.2.2.2.2 hT (s.1 19) (by omega)) fk3 ⟨Nat.le_of_ble_eq_true rfl, Nat.le_of_ble_eq_true rfl⟩ rfl (Nat.le_of_ble_eq_true rfl) dX7_carry_11 rfl (fun v1 τ2 p3 => ?_)
  obtain ⟨rfl, hf, hv⟩ := p3
  have hC1 := hC.f3 hf
  have hS1 := hC1.1
  have hH1 := hC1.2.2.1
  have hT1 := hC1.2.2.2.2
  have fb := fltT_bd (chT s.2.2.2.1 s.2.2.2.2) s.2.2.2.1 (s.1 19) 80 0
  refine g_if_eq X (tgt := 20) dX7_carry_14 (by decide) ⟨by omega, by omega⟩ (fun c4 => ?_) (fun c4 => ?_)
  · skip
    refine g_aload_n X dX7_carry_20 rfl ?_
    refine gf_X7_19 X fk0 dX7_carry_21 ?_
    refine g_aload_n X dX7_carry_24 rfl ?_
    refine gf_X7_10 X fk0 dX7_carry_25 ?_
    refine cl_X7_58 X (c_X2_remember l E τ2 s.2.1 s.2.2.1 s.1 N hH1 hI hS1 hR) fk1 ⟨Nat.le_of_ble_eq_true rfl, Nat.le_of_ble_eq_true rfl⟩ rfl (Nat.le_of_ble_eq_true rfl) dX7_carry_28 rfl (fun v5 τ6 p7 => ?_)
    obtain ⟨rfl, hH28, hS28, hF28⟩ := p7
    obtain ⟨τ0, hτ0⟩ : ∃ z, z = τ6 := ⟨_, rfl⟩
    rw [← hτ0]
    rw [← hτ0] at hH28 hS28 hF28
    refine g_iconst X dX7_carry_31 ?_
    refine g_istore_n X (lw := [some (rv E (0)), some (iv (0)), none, none]) dX7_carry_32 (by decide) rfl rfl ?_
    refine g_iconst X dX7_carry_33 ?_
    refine g_istore_n X (lw := [some (rv E (0)), some (iv (0)), some (iv (0)), none]) dX7_carry_34 (by decide) rfl rfl ?_
    refine g_iconst X dX7_carry_35 ?_
    refine g_istore_n X (lw := [some (rv E (0)), some (iv (0)), some (iv (0)), some (iv (0))]) dX7_carry_36 (by decide) rfl rfl ?_
    have L8 : ∀ (fu : Nat) (τ : Mem) (ρ : Row) (m q k : Int), (0 ≤ k) → (6 * k ≤ q ∧ q ≤ s.2.2.2.1) → (SRep τ 25 ρ) → (RInv ρ (N + 40 * k)) → (ρ 19 = s.1 19) → (TRep τ s.2.2.2.1 s.2.2.2.2) → (∀ x, x ≠ 3 → (x < 25 ∨ 61 ≤ x) → τ x = τ0 x) → ((fltT (chT s.2.2.2.1 s.2.2.2.2) s.2.2.2.1 (s.1 19) (80 - k).toNat q).1 = 0) → (carR (chT s.2.2.2.1 s.2.2.2.2) s.2.2.2.1 80 0 s.1 = ((carR (chT s.2.2.2.1 s.2.2.2.2) s.2.2.2.1 (80 - k).toNat q ρ).1, m + (carR (chT s.2.2.2.1 s.2.2.2.2) s.2.2.2.1 (80 - k).toNat q ρ).2)) → 80 - k < (fu : Int) → K τ 37 [some (rv E (0)), some (iv (m)), some (iv (q)), some (iv (k))] [] := by
      intro fu
      induction fu with
      | zero =>
        intro τ ρ m q k j1 js jS jR j9 jT jF j7 j8 hm
        exact absurd hm (by omega)
      | succ fu ih8 =>
        intro τ ρ m q k j1 js jS jR j9 jT jF j7 j8 hm
        refine g_iload_n X dX7_carry_37 rfl ?_
        refine g_bipush X dX7_carry_38 (by decide) ?_
        refine g_icmp_ge X (tgt := 99) dX7_carry_40 (by decide) ⟨by omega, by omega⟩ ⟨by decide, by decide⟩ (fun c9 => ?_) (fun c9 => ?_)
        · skip
          refine g_iload_n X dX7_carry_99 rfl ?_
          exact R _ _ _ _ dX7_carry_100 (by first | (exfalso; omega) | (have hs : ¬ q < s.2.2.2.1 := fun y => hF48 (rsn_0 (fltT_0 (C := (chT s.2.2.2.1 s.2.2.2.2)) (L := s.2.2.2.1) (n := s.1 19) (s := q) (k := (80 - (k + 1)).toNat) (by rw [show (80 - (k + 1)).toNat + 1 = (80 - k).toNat by omega]; exact j7) y).1).1; rw [carR_done hs] at j8; unfold carryX; rw [if_pos (by omega), j8]; exact ⟨congrArg (fun z => some (iv z)) (by simp), carry_fin hC hf hH28 hF28 jS jR (by omega) jT jF fr3.refl hN⟩))
        · skip
          refine g_aload_n X dX7_carry_43 rfl ?_
          refine gf_X7_26 X fk0 dX7_carry_44 ?_
          refine g_iload_n X dX7_carry_47 rfl ?_
          refine cl_X7_261 X (c_X0_readPart l E τ s.2.2.2.1 s.2.2.2.2 jT q (by omega) (by omega)) fk3 ⟨Nat.le_of_ble_eq_true rfl, Nat.le_of_ble_eq_true rfl⟩ rfl (Nat.le_of_ble_eq_true rfl) dX7_carry_48 rfl (fun v10 τ11 p12 => ?_)
          obtain ⟨hf48, ⟨hF48, rfl, e48_2, e48_3, e48_4, e48_5⟩ | ⟨hF48, rfl⟩⟩ := p12
          · skip
            have pb48 := hF48.b
            have ph48 := hF48.hi hT.cb
            have pl48 := hF48.lt
            have hz := fltT_0 (C := (chT s.2.2.2.1 s.2.2.2.2)) (L := s.2.2.2.1) (n := s.1 19) (s := q) (k := (80 - (k + 1)).toNat) (by rw [show (80 - (k + 1)).toNat + 1 = (80 - k).toNat by omega]; exact j7) (by omega)
            have hz2 := rsn_0 hz.1
            refine g_if_eq X (tgt := 99) dX7_carry_51 (by decide) ⟨by decide, by decide⟩ (fun q => absurd q (by decide)) (fun _ => ?_)
            refine g_iload_n X dX7_carry_54 rfl ?_
            refine g_aload_n X dX7_carry_55 rfl ?_
            refine gf_X7_10 X fk0 dX7_carry_56 ?_
            refine g_aload_n X dX7_carry_59 rfl ?_
            refine gf_X7_26 X fk0 dX7_carry_60 ?_
            refine gf_X7_264 X fk3 (show τ11 3 2 = pP (chT s.2.2.2.1 s.2.2.2.2) q from e48_2) dX7_carry_63 ?_
            refine g_aload_n X dX7_carry_66 rfl ?_
            refine gf_X7_26 X fk0 dX7_carry_67 ?_
            refine gf_X7_267 X fk3 (show τ11 3 3 = pH (chT s.2.2.2.1 s.2.2.2.2) q from e48_3) dX7_carry_70 ?_
            refine g_aload_n X dX7_carry_73 rfl ?_
            refine gf_X7_26 X fk0 dX7_carry_74 ?_
            refine gf_X7_270 X fk3 (show τ11 3 4 = pT (chT s.2.2.2.1 s.2.2.2.2) q from e48_4) dX7_carry_77 ?_
            refine cl_X7_273 X (c_X6_hitSeveral l E τ11 25 ρ (N + 40 * k) now_k (jS.f3 jR hf48) jR (pP (chT s.2.2.2.1 s.2.2.2.2) q) (pH (chT s.2.2.2.1 s.2.2.2.2) q) (pT (chT s.2.2.2.1 s.2.2.2.2) q) (by omega) (by omega) (by omega) (by omega) (by omega) (by omega) (by omega)) now_k ⟨Nat.le_of_ble_eq_true rfl, Nat.le_of_ble_eq_true rfl⟩ rfl (Nat.le_of_ble_eq_true rfl) dX7_carry_80 rfl (fun v13 τ14 p15 => ?_)
            obtain ⟨rfl, hS80, hF80, u80, u080, u180, hi80, hj80⟩ := p15
            refine g_iadd X dX7_carry_83 ?_
            refine g_istore_n X (lw := [some (rv E (0)), some (iv (m + (hitsR (pP (chT s.2.2.2.1 s.2.2.2.2) q).toNat (pH (chT s.2.2.2.1 s.2.2.2.2) q) (pT (chT s.2.2.2.1 s.2.2.2.2) q).toNat ρ).2)), some (iv (q)), some (iv (k))]) dX7_carry_84 (by decide) rfl rfl ?_
            refine g_aload_n X dX7_carry_85 rfl ?_
            refine gf_X7_26 X fk0 dX7_carry_86 ?_
            refine gf_X7_276 X fk3 (show τ14 3 5 = pE (chT s.2.2.2.1 s.2.2.2.2) q from ((congrFun (hF80 3 (by omega)) 5).trans e48_5)) dX7_carry_89 ?_
            refine g_istore_n X (lw := [some (rv E (0)), some (iv (m + (hitsR (pP (chT s.2.2.2.1 s.2.2.2.2) q).toNat (pH (chT s.2.2.2.1 s.2.2.2.2) q) (pT (chT s.2.2.2.1 s.2.2.2.2) q).toNat ρ).2)), some (iv (pE (chT s.2.2.2.1 s.2.2.2.2) q)), some (iv (k))]) dX7_carry_92 (by decide) rfl rfl ?_
            refine g_iinc X (lw := [some (rv E (0)), some (iv (m + (hitsR (pP (chT s.2.2.2.1 s.2.2.2.2) q).toNat (pH (chT s.2.2.2.1 s.2.2.2.2) q) (pT (chT s.2.2.2.1 s.2.2.2.2) q).toNat ρ).2)), some (iv (pE (chT s.2.2.2.1 s.2.2.2.2) q)), some (iv (k + 1))]) dX7_carry_93 rfl (by decide) rfl rfl ?_
            refine g_goto X (tgt := 37) dX7_carry_96 (by decide) ?_
            exact ih8 τ14 ((hitsR (pP (chT s.2.2.2.1 s.2.2.2.2) q).toNat (pH (chT s.2.2.2.1 s.2.2.2.2) q) (pT (chT s.2.2.2.1 s.2.2.2.2) q).toNat ρ).1) (m + (hitsR (pP (chT s.2.2.2.1 s.2.2.2.2) q).toNat (pH (chT s.2.2.2.1 s.2.2.2.2) q) (pT (chT s.2.2.2.1 s.2.2.2.2) q).toNat ρ).2) (pE (chT s.2.2.2.1 s.2.2.2.2) q) (k + 1) (by omega) (by omega) (by exact hS80) (by exact hi80.mono (by omega) (by omega)) (by rw [hj80, j9]) (by exact (jT.f3 hf48).fr (hF80 3 (by omega)) (hF80 4 (by omega))) (by intro x h1 h2; rw [hF80 x (by omega), hf48.c h1]; exact jF x h1 h2) (by exact hz.2) (by rw [j8, show (80 - k).toNat = (80 - (k + 1)).toNat + 1 by omega, carR, if_pos (by omega)]; exact Prod.ext rfl (by simp only []; omega)) (by omega)
          · skip
            refine g_if_eq X (tgt := 99) dX7_carry_51 (by decide) ⟨by decide, by decide⟩ (fun _ => ?_) (fun q => absurd q (by decide))
            refine g_iload_n X dX7_carry_99 rfl ?_
            exact R _ _ _ _ dX7_carry_100 (by first | (exfalso; omega) | (have hs : ¬ q < s.2.2.2.1 := fun y => hF48 (rsn_0 (fltT_0 (C := (chT s.2.2.2.1 s.2.2.2.2)) (L := s.2.2.2.1) (n := s.1 19) (s := q) (k := (80 - (k + 1)).toNat) (by rw [show (80 - (k + 1)).toNat + 1 = (80 - k).toNat by omega]; exact j7) y).1).1; rw [carR_done hs] at j8; unfold carryX; rw [if_pos (by omega), j8]; exact ⟨congrArg (fun z => some (iv z)) (by simp), carry_fin hC hf hH28 hF28 jS jR (by omega) jT jF hf48 hN⟩))
    exact L8 _ τ0 s.1 0 0 0 (by omega) (by omega) (by exact hS28) (by simpa using hR) (by rfl) (by exact hT1.fr (hF28 3 (by omega) (by omega)) (hF28 4 (by omega) (by omega))) (by intro x _ _; rfl) (by show (fltT (chT s.2.2.2.1 s.2.2.2.2) s.2.2.2.1 (s.1 19) 80 0).1 = 0; omega) (by simp) (by exact Int.lt_toNat_succ _)
  · skip
    refine g_bipush X dX7_carry_17 (by decide) ?_
    exact R _ _ _ _ dX7_carry_19 (by unfold carryX; rw [if_neg (by omega)]; exact ⟨rfl, hC1.mono (by omega) hN, fun x h1 h2 => hf.c (by omega)⟩)
