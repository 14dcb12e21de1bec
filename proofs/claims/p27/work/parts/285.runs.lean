/-! ===== contracts: runs, of the class ===== -/
set_option maxHeartbeats 1000000 in
set_option maxRecDepth 100000 in
theorem c_X5_closeRun (l : Launch) (E : wEnv) (σ : Mem) (S LD : Nat → Int) (x : RS) (w : Int) (hx : XRep σ S LD x w) (hw : I32 w) (hb : 0 ≤ x.2.1 ∧ x.2.1 ≤ 100) (hc : x.2.2.2.1 ≤ 100) : MetC l E yX5_closeRun cX5_closeRun 1 none 0 0 [rv E (5)] σ (fun v σ' => v = none ∧ XRep σ' S LD (closeR x) w ∧ frX σ σ') := by
  refine MetC.of (own := RX5) (by decide) rfl (by simp [Value.category]) (Nat.le_of_ble_eq_true rfl) [some (rv E (5))] rfl (by simp) (fun K X R => ?_)
  have ⟨x1, x2, x4, x3, x6⟩ := hx
  refine g_aload_n X dX5_closeRun_0 rfl ?_
  refine gf_X5_22 X fk5 rfl dX5_closeRun_1 ?_
  refine g_iconst X dX5_closeRun_4 ?_
  refine g_icmp_lt X (tgt := 69) dX5_closeRun_5 (by decide) ⟨by omega, by omega⟩ ⟨by decide, by decide⟩ (fun c1 => ?_) (fun c1 => ?_)
  · skip
    refine g_aload_n X dX5_closeRun_69 rfl ?_
    refine g_iconst X dX5_closeRun_70 ?_
    refine pf_X5_22 X fk5 dX5_closeRun_71 ?_
    exact R _ _ _ dX5_closeRun_74 ⟨rfl, by first | (exfalso; omega) | exact xc_A hx (by omega) (by omega) | exact xc_B hx (by omega) (by omega) | exact xc_C hx (by omega), (frX.refl.up (by decide))⟩
  · skip
    refine g_aload_n X dX5_closeRun_8 rfl ?_
    refine gf_X5_19 X fk5 rfl dX5_closeRun_9 ?_
    refine g_aload_n X dX5_closeRun_12 rfl ?_
    refine gf_X5_15 X fk5 rfl dX5_closeRun_13 ?_
    refine g_icmp_ne X (tgt := 59) dX5_closeRun_16 (by decide) ⟨by omega, by omega⟩ ⟨by omega, by omega⟩ (fun c2 => ?_) (fun c2 => ?_)
    · skip
      refine g_aload_n X dX5_closeRun_59 rfl ?_
      refine g_dup X dX5_closeRun_60 rfl ?_
      refine gf_X5_19 X fk5 rfl dX5_closeRun_61 ?_
      refine g_iconst X dX5_closeRun_64 ?_
      refine g_iadd X dX5_closeRun_65 ?_
      refine pf_X5_19 X fk5 dX5_closeRun_66 ?_
      refine g_aload_n X dX5_closeRun_69 rfl ?_
      refine g_iconst X dX5_closeRun_70 ?_
      refine pf_X5_22 X fk5 dX5_closeRun_71 ?_
      exact R _ _ _ dX5_closeRun_74 ⟨rfl, by first | (exfalso; omega) | exact xc_A hx (by omega) (by omega) | exact xc_B hx (by omega) (by omega) | exact xc_C hx (by omega), ((frX.refl.up (by decide)).up (by decide))⟩
    · skip
      refine g_aload_n X dX5_closeRun_19 rfl ?_
      refine gf_X5_9 X fk5 dX5_closeRun_20 ?_
      refine g_iconst X dX5_closeRun_23 ?_
      refine g_aload_n X dX5_closeRun_24 rfl ?_
      refine gf_X5_44 X fk5 rfl dX5_closeRun_25 ?_
      refine g_iast X fk6 fl6 (by omega) (by omega) (by decide) dX5_closeRun_28 ?_
      refine g_aload_n X dX5_closeRun_29 rfl ?_
      refine gf_X5_9 X fk5 dX5_closeRun_30 ?_
      refine g_iconst X dX5_closeRun_33 ?_
      refine g_aload_n X dX5_closeRun_34 rfl ?_
      refine gf_X5_22 X fk5 (up_ne1 (by omega) rfl) dX5_closeRun_35 ?_
      refine g_iast X fk6 fl6 (by omega) (by omega) (by decide) dX5_closeRun_38 ?_
      refine g_aload_n X dX5_closeRun_39 rfl ?_
      refine gf_X5_9 X fk5 dX5_closeRun_40 ?_
      refine g_iconst X dX5_closeRun_43 ?_
      refine g_aload_n X dX5_closeRun_44 rfl ?_
      refine gf_X5_52 X fk5 (up_ne1 (by omega) (up_ne1 (by omega) rfl)) dX5_closeRun_45 ?_
      refine g_iast X fk6 fl6 (by omega) (by omega) (by decide) dX5_closeRun_48 ?_
      refine g_aload_n X dX5_closeRun_49 rfl ?_
      refine gf_X5_9 X fk5 dX5_closeRun_50 ?_
      refine g_iconst X dX5_closeRun_53 ?_
      refine g_aload_n X dX5_closeRun_54 rfl ?_
      refine gf_X5_55 X fk5 (up_ne1 (by omega) (up_ne1 (by omega) (up_ne1 (by omega) rfl))) dX5_closeRun_55 ?_
      refine g_iast X fk6 fl6 (by omega) (by omega) (by decide) dX5_closeRun_58 ?_
      refine g_aload_n X dX5_closeRun_59 rfl ?_
      refine g_dup X dX5_closeRun_60 rfl ?_
      refine gf_X5_19 X fk5 (up_ne1 (by omega) (up_ne1 (by omega) (up_ne1 (by omega) (up_ne1 (by omega) rfl)))) dX5_closeRun_61 ?_
      refine g_iconst X dX5_closeRun_64 ?_
      refine g_iadd X dX5_closeRun_65 ?_
      refine pf_X5_19 X fk5 dX5_closeRun_66 ?_
      refine g_aload_n X dX5_closeRun_69 rfl ?_
      refine g_iconst X dX5_closeRun_70 ?_
      refine pf_X5_22 X fk5 dX5_closeRun_71 ?_
      exact R _ _ _ dX5_closeRun_74 ⟨rfl, by first | (exfalso; omega) | exact xc_A hx (by omega) (by omega) | exact xc_B hx (by omega) (by omega) | exact xc_C hx (by omega), ((((((frX.refl.up (by decide)).up (by decide)).up (by decide)).up (by decide)).up (by decide)).up (by decide))⟩
set_option maxHeartbeats 1000000 in
set_option maxRecDepth 100000 in
theorem c_X5_readSet (l : Launch) (E : wEnv) (σ : Mem) (S LD : Nat → Int) (x : RS) (w : Int) (hx : XRep σ S LD x w) (hw : I32 w) (k : Nat) (a b : Int) (ha : a = S k) (hb2 : b = LD k) (ha0 : 0 < a ∧ a ≤ 500) (hk : k ≤ 40) (hXB : XB x k) (hS : ∀ j, j < k → 0 ≤ S j ∧ S j ≤ 500) : MetC l E yX5_readSet cX5_readSet 3 none 1 21 [rv E (5), iv (a), iv (b)] σ (fun v σ' => v = none ∧ XRep σ' S LD (stepR S k x) w ∧ frX σ σ') := by
  refine MetC.of (own := RX5) (by decide) rfl (by simp [Value.category]) (Nat.le_of_ble_eq_true rfl) [some (rv E (5)), some (iv (a)), some (iv (b))] rfl (by simp) (fun K X R => ?_)
  have ⟨x1, x2, x4, x3, x6⟩ := hx
  have ⟨y1, y2, y3, y4⟩ := hXB
  have z3 : 0 < x.2.1 → σ 5 3 = S x.1 ∧ 0 ≤ S x.1 ∧ S x.1 ≤ 500 := fun q => ⟨(x3 q).1, hS _ (y3 q)⟩
  refine g_aload_n X dX5_readSet_0 rfl ?_
  refine gf_X5_22 X fk5 rfl dX5_readSet_1 ?_
  refine g_if_le X (tgt := 24) dX5_readSet_4 (by decide) ⟨by omega, by omega⟩ (fun c1 => ?_) (fun c1 => ?_)
  · skip
    refine g_aload_n X dX5_readSet_24 rfl ?_
    refine gf_X5_22 X fk5 rfl dX5_readSet_25 ?_
    refine g_if_ne X (tgt := 46) dX5_readSet_28 (by decide) ⟨by omega, by omega⟩ (fun c2 => ?_) (fun c2 => ?_)
    · skip
      refine g_aload_n X dX5_readSet_46 rfl ?_
      refine g_dup X dX5_readSet_47 rfl ?_
      refine gf_X5_22 X fk5 rfl dX5_readSet_48 ?_
      refine g_iconst X dX5_readSet_51 ?_
      refine g_iadd X dX5_readSet_52 ?_
      refine pf_X5_22 X fk5 dX5_readSet_53 ?_
      refine g_aload_n X dX5_readSet_56 rfl ?_
      refine g_dup X dX5_readSet_57 rfl ?_
      refine gf_X5_55 X fk5 (up_ne2 (by decide) rfl) dX5_readSet_58 ?_
      refine g_iload_n X dX5_readSet_61 rfl ?_
      refine g_iadd X dX5_readSet_62 ?_
      refine pf_X5_55 X fk5 dX5_readSet_63 ?_
      exact R _ _ _ dX5_readSet_66 ⟨rfl, by first | (exfalso; omega) | (unfold stepR; rw [if_pos (by omega), if_pos ⟨by omega, by rw [← ha, ← (x3 (by omega)).1]; unfold adist; omega⟩]; exact xr_more hx (by omega) ha), ((frX.refl.up (by decide)).up (by decide))⟩
    · skip
      refine g_aload_n X dX5_readSet_31 rfl ?_
      refine g_iload_n X dX5_readSet_32 rfl ?_
      refine pf_X5_44 X fk5 dX5_readSet_33 ?_
      refine g_aload_n X dX5_readSet_36 rfl ?_
      refine g_iload_n X dX5_readSet_37 rfl ?_
      refine pf_X5_52 X fk5 dX5_readSet_38 ?_
      refine g_aload_n X dX5_readSet_41 rfl ?_
      refine g_iconst X dX5_readSet_42 ?_
      refine pf_X5_55 X fk5 dX5_readSet_43 ?_
      refine g_aload_n X dX5_readSet_46 rfl ?_
      refine g_dup X dX5_readSet_47 rfl ?_
      refine gf_X5_22 X fk5 (up_ne2 (by decide) (up_ne2 (by decide) (up_ne2 (by decide) rfl))) dX5_readSet_48 ?_
      refine g_iconst X dX5_readSet_51 ?_
      refine g_iadd X dX5_readSet_52 ?_
      refine pf_X5_22 X fk5 dX5_readSet_53 ?_
      refine g_aload_n X dX5_readSet_56 rfl ?_
      refine g_dup X dX5_readSet_57 rfl ?_
      refine gf_X5_55 X fk5 (up_ne2 (by decide) (up_same _ _ _ _)) dX5_readSet_58 ?_
      refine g_iload_n X dX5_readSet_61 rfl ?_
      refine g_iadd X dX5_readSet_62 ?_
      refine pf_X5_55 X fk5 dX5_readSet_63 ?_
      exact R _ _ _ dX5_readSet_66 ⟨rfl, by first | (exfalso; omega) | (unfold stepR; rw [if_pos (by omega), if_neg (by omega), show endsR x = x from (by unfold endsR; rw [if_neg (by omega)])]; exact xr_new hx (by omega) ha hb2), (((((frX.refl.up (by decide)).up (by decide)).up (by decide)).up (by decide)).up (by decide))⟩
  · skip
    refine g_iload_n X dX5_readSet_7 rfl ?_
    refine g_aload_n X dX5_readSet_8 rfl ?_
    refine gf_X5_44 X fk5 rfl dX5_readSet_9 ?_
    refine g_isub X dX5_readSet_12 ?_
    refine g_abs X wL_X5_47 ⟨by omega, by omega⟩ (Nat.le_of_ble_eq_true rfl) (Nat.le_of_ble_eq_true rfl) dX5_readSet_13 ?_
    refine g_iconst X dX5_readSet_16 ?_
    refine g_icmp_le X (tgt := 24) dX5_readSet_17 (by decide) ⟨by omega, by omega⟩ ⟨by decide, by decide⟩ (fun c3 => ?_) (fun c3 => ?_)
    · skip
      refine g_aload_n X dX5_readSet_24 rfl ?_
      refine gf_X5_22 X fk5 rfl dX5_readSet_25 ?_
      refine g_if_ne X (tgt := 46) dX5_readSet_28 (by decide) ⟨by omega, by omega⟩ (fun c4 => ?_) (fun c4 => ?_)
      · skip
        refine g_aload_n X dX5_readSet_46 rfl ?_
        refine g_dup X dX5_readSet_47 rfl ?_
        refine gf_X5_22 X fk5 rfl dX5_readSet_48 ?_
        refine g_iconst X dX5_readSet_51 ?_
        refine g_iadd X dX5_readSet_52 ?_
        refine pf_X5_22 X fk5 dX5_readSet_53 ?_
        refine g_aload_n X dX5_readSet_56 rfl ?_
        refine g_dup X dX5_readSet_57 rfl ?_
        refine gf_X5_55 X fk5 (up_ne2 (by decide) rfl) dX5_readSet_58 ?_
        refine g_iload_n X dX5_readSet_61 rfl ?_
        refine g_iadd X dX5_readSet_62 ?_
        refine pf_X5_55 X fk5 dX5_readSet_63 ?_
        exact R _ _ _ dX5_readSet_66 ⟨rfl, by first | (exfalso; omega) | (unfold stepR; rw [if_pos (by omega), if_pos ⟨by omega, by rw [← ha, ← (x3 (by omega)).1]; unfold adist; omega⟩]; exact xr_more hx (by omega) ha), ((frX.refl.up (by decide)).up (by decide))⟩
      · skip
        refine g_aload_n X dX5_readSet_31 rfl ?_
        refine g_iload_n X dX5_readSet_32 rfl ?_
        refine pf_X5_44 X fk5 dX5_readSet_33 ?_
        refine g_aload_n X dX5_readSet_36 rfl ?_
        refine g_iload_n X dX5_readSet_37 rfl ?_
        refine pf_X5_52 X fk5 dX5_readSet_38 ?_
        refine g_aload_n X dX5_readSet_41 rfl ?_
        refine g_iconst X dX5_readSet_42 ?_
        refine pf_X5_55 X fk5 dX5_readSet_43 ?_
        refine g_aload_n X dX5_readSet_46 rfl ?_
        refine g_dup X dX5_readSet_47 rfl ?_
        refine gf_X5_22 X fk5 (up_ne2 (by decide) (up_ne2 (by decide) (up_ne2 (by decide) rfl))) dX5_readSet_48 ?_
        refine g_iconst X dX5_readSet_51 ?_
        refine g_iadd X dX5_readSet_52 ?_
        refine pf_X5_22 X fk5 dX5_readSet_53 ?_
        refine g_aload_n X dX5_readSet_56 rfl ?_
        refine g_dup X dX5_readSet_57 rfl ?_
        refine gf_X5_55 X fk5 (up_ne2 (by decide) (up_same _ _ _ _)) dX5_readSet_58 ?_
        refine g_iload_n X dX5_readSet_61 rfl ?_
        refine g_iadd X dX5_readSet_62 ?_
        refine pf_X5_55 X fk5 dX5_readSet_63 ?_
        exact R _ _ _ dX5_readSet_66 ⟨rfl, by first | (exfalso; omega) | (unfold stepR; rw [if_pos (by omega), if_neg (by omega), show endsR x = x from (by unfold endsR; rw [if_neg (by omega)])]; exact xr_new hx (by omega) ha hb2), (((((frX.refl.up (by decide)).up (by decide)).up (by decide)).up (by decide)).up (by decide))⟩
    · skip
      refine g_aload_n X dX5_readSet_20 rfl ?_
      refine cl_X5_41 X (c_X5_closeRun l E σ S LD x w hx hw (by omega) (by omega)) fk5 ⟨Nat.le_of_ble_eq_true rfl, Nat.le_of_ble_eq_true rfl⟩ rfl (Nat.le_of_ble_eq_true rfl) dX5_readSet_21 rfl (fun v5 τ6 p7 => ?_)
      obtain ⟨rfl, hX21, hF21⟩ := p7
      have hX421 : τ6 5 4 = 0 := hX21.2.2.1
      refine g_aload_n X dX5_readSet_24 rfl ?_
      refine gf_X5_22 X fk5 rfl dX5_readSet_25 ?_
      refine g_if_ne X (tgt := 46) dX5_readSet_28 (by decide) ⟨by omega, by omega⟩ (fun c8 => ?_) (fun c8 => ?_)
      · skip
        refine g_aload_n X dX5_readSet_46 rfl ?_
        refine g_dup X dX5_readSet_47 rfl ?_
        refine gf_X5_22 X fk5 rfl dX5_readSet_48 ?_
        refine g_iconst X dX5_readSet_51 ?_
        refine g_iadd X dX5_readSet_52 ?_
        refine pf_X5_22 X fk5 dX5_readSet_53 ?_
        refine g_aload_n X dX5_readSet_56 rfl ?_
        refine g_dup X dX5_readSet_57 rfl ?_
        refine gf_X5_55 X fk5 (up_ne2 (by decide) rfl) dX5_readSet_58 ?_
        refine g_iload_n X dX5_readSet_61 rfl ?_
        refine g_iadd X dX5_readSet_62 ?_
        refine pf_X5_55 X fk5 dX5_readSet_63 ?_
        exact R _ _ _ dX5_readSet_66 ⟨rfl, by first | (exfalso; omega) | (unfold stepR; rw [if_pos (by omega), if_pos ⟨by omega, by rw [← ha, ← (x3 (by omega)).1]; unfold adist; omega⟩]; exact xr_more hx (by omega) ha), ((hF21.up (by decide)).up (by decide))⟩
      · skip
        refine g_aload_n X dX5_readSet_31 rfl ?_
        refine g_iload_n X dX5_readSet_32 rfl ?_
        refine pf_X5_44 X fk5 dX5_readSet_33 ?_
        refine g_aload_n X dX5_readSet_36 rfl ?_
        refine g_iload_n X dX5_readSet_37 rfl ?_
        refine pf_X5_52 X fk5 dX5_readSet_38 ?_
        refine g_aload_n X dX5_readSet_41 rfl ?_
        refine g_iconst X dX5_readSet_42 ?_
        refine pf_X5_55 X fk5 dX5_readSet_43 ?_
        refine g_aload_n X dX5_readSet_46 rfl ?_
        refine g_dup X dX5_readSet_47 rfl ?_
        refine gf_X5_22 X fk5 (up_ne2 (by decide) (up_ne2 (by decide) (up_ne2 (by decide) rfl))) dX5_readSet_48 ?_
        refine g_iconst X dX5_readSet_51 ?_
        refine g_iadd X dX5_readSet_52 ?_
        refine pf_X5_22 X fk5 dX5_readSet_53 ?_
        refine g_aload_n X dX5_readSet_56 rfl ?_
        refine g_dup X dX5_readSet_57 rfl ?_
        refine gf_X5_55 X fk5 (up_ne2 (by decide) (up_same _ _ _ _)) dX5_readSet_58 ?_
        refine g_iload_n X dX5_readSet_61 rfl ?_
        refine g_iadd X dX5_readSet_62 ?_
        refine pf_X5_55 X fk5 dX5_readSet_63 ?_
        exact R _ _ _ dX5_readSet_66 ⟨rfl, by first | (exfalso; omega) | (unfold stepR; rw [if_pos (by omega), if_neg (by rw [← ha, ← (x3 (by omega)).1]; unfold adist; omega)]; exact xr_new hX21 rfl ha hb2), (((((hF21.up (by decide)).up (by decide)).up (by decide)).up (by decide)).up (by decide))⟩
set_option maxHeartbeats 1000000 in
set_option maxRecDepth 100000 in
theorem c_X5_read (l : Launch) (E : wEnv) (σ : Mem) (c : Nat) (r : Row) (i : Nat) (w : Int) (hK : isK 11 c) (hc : 25 ≤ c) (hP : PRep σ c r i) (hk : 0 ≤ r (24 + 91 * i + 10) ∧ r (24 + 91 * i + 10) ≤ 40) (hSb : ∀ j : Nat, (j : Int) < r (24 + 91 * i + 10) → 0 ≤ setsR r i j ∧ setsR r i j ≤ 500) (hw : I32 w) : MetC l E yX5_read cX5_read 5 none 2 43 [rv E (5), rv E (c), iv (w)] σ (fun v σ' => v = none ∧ XRep σ' (setsR r i) (loadsR r i) (closeR (runsR (setsR r i) (r (24 + 91 * i + 10)).toNat)) w ∧ frX σ σ') := by
  refine MetC.of (own := RX5) (by decide) rfl (by simp [Value.category]) (Nat.le_of_ble_eq_true rfl) [some (rv E (5)), some (rv E (c)), some (iv (w)), none, none] rfl (by simp) (fun K X R => ?_)
  refine g_aload_n X dX5_read_0 rfl ?_
  refine g_iload_n X dX5_read_1 rfl ?_
  refine pf_X5_15 X fk5 dX5_read_2 ?_
  refine g_aload_n X dX5_read_5 rfl ?_
  refine g_iconst X dX5_read_6 ?_
  refine pf_X5_19 X fk5 dX5_read_7 ?_
  refine g_aload_n X dX5_read_10 rfl ?_
  refine g_iconst X dX5_read_11 ?_
  refine pf_X5_22 X fk5 dX5_read_12 ?_
  refine g_iconst X dX5_read_15 ?_
  refine g_istore_n X (lw := [some (rv E (5)), some (rv E (c)), some (iv (w)), some (iv (0)), none]) dX5_read_16 (by decide) rfl rfl ?_
  have L1 : ∀ (fu : Nat) (τ : Mem) (k : Int), (0 ≤ k) → (k ≤ r (24 + 91 * i + 10)) → (XRep τ (setsR r i) (loadsR r i) (runsR (setsR r i) k.toNat) w) → (frX σ τ) → r (24 + 91 * i + 10) - k < (fu : Int) → K τ 17 [some (rv E (5)), some (rv E (c)), some (iv (w)), some (iv (k)), none] [] := by
    intro fu
    induction fu with
    | zero =>
      intro τ k j1 j2 jx jf hm
      exact absurd hm (by omega)
    | succ fu ih1 =>
      intro τ k j1 j2 jx jf hm
      have ⟨y1, y2, y3, y4⟩ := runs_b (setsR r i) k.toNat
      refine g_iload_n X dX5_read_17 rfl ?_
      refine g_aload_n X dX5_read_18 rfl ?_
      refine gf_X5_25 X hK (show τ c 2 = r (24 + 91 * i + 10) from (congrFun (jf c (by omega) (by omega)) 2).trans hP.2.1) dX5_read_19 ?_
      refine g_icmp_ge X (tgt := 54) dX5_read_22 (by decide) ⟨by omega, by omega⟩ ⟨by omega, by omega⟩ (fun c2 => ?_) (fun c2 => ?_)
      · skip
        refine g_aload_n X dX5_read_54 rfl ?_
        refine cl_X5_41 X (c_X5_closeRun l E τ (setsR r i) (loadsR r i) (runsR (setsR r i) k.toNat) w jx hw (by omega) (by omega)) fk5 ⟨Nat.le_of_ble_eq_true rfl, Nat.le_of_ble_eq_true rfl⟩ rfl (Nat.le_of_ble_eq_true rfl) dX5_read_55 rfl (fun v3 τ4 p5 => ?_)
        obtain ⟨rfl, hX55, hF55⟩ := p5
        have hX455 : τ4 5 4 = 0 := hX55.2.2.1
        exact R _ _ _ dX5_read_58 ⟨rfl, by rw [show (r (24 + 91 * i + 10)).toNat = k.toNat by omega]; exact hX55, jf.trans hF55⟩
      · skip
        refine g_aload_n X dX5_read_25 rfl ?_
        refine g_iload_n X dX5_read_26 rfl ?_
        refine cl_X5_30 X (c_X4_keptSet l E τ c k hK ⟨by omega, by omega⟩) hK ⟨Nat.le_of_ble_eq_true rfl, Nat.le_of_ble_eq_true rfl⟩ rfl (Nat.le_of_ble_eq_true rfl) dX5_read_27 rfl (fun v6 τ7 p8 => ?_)
        obtain ⟨rfl, rfl⟩ := p8
        have es27 : (if 0 ≤ k ∧ k < 40 then τ (c + 1) (k).toNat else 0) = setsR r i (k).toNat := by rw [if_pos (by omega), jf (c + 1) (by omega) (by omega), (hP.2.2 (k).toNat (by omega)).1]; rfl
        rw [es27]
        have eb27 : 0 ≤ setsR r i (k).toNat ∧ setsR r i (k).toNat ≤ 500 := hSb (k).toNat (by omega)
        refine g_istore X (lw := [some (rv E (5)), some (rv E (c)), some (iv (w)), some (iv (k)), some (iv (setsR r i (k).toNat))]) dX5_read_30 (by decide) rfl rfl ?_
        refine g_iload X dX5_read_32 rfl ?_
        refine g_if_le X (tgt := 48) dX5_read_34 (by decide) ⟨by omega, by omega⟩ (fun c9 => ?_) (fun c9 => ?_)
        · skip
          refine g_iinc X (lw := [some (rv E (5)), some (rv E (c)), some (iv (w)), some (iv (k + 1)), some (iv (setsR r i (k).toNat))]) dX5_read_48 rfl (by decide) rfl rfl ?_
          refine g_goto X (tgt := 17) dX5_read_51 (by decide) ?_
          refine g_kill X 4 (lw := [some (rv E (5)), some (rv E (c)), some (iv (w)), some (iv (k + 1)), none]) rfl ?_
          exact ih1 τ  (k + 1) (by omega) (by omega) (by rw [show (k + 1).toNat = k.toNat + 1 by omega, runsR]; unfold stepR; rw [if_neg (by omega)]; exact jx) (by exact jf) (by omega)
        · skip
          refine g_aload_n X dX5_read_37 rfl ?_
          refine g_iload X dX5_read_38 rfl ?_
          refine g_aload_n X dX5_read_40 rfl ?_
          refine g_iload_n X dX5_read_41 rfl ?_
          refine cl_X5_34 X (c_X4_keptLoad l E τ c k hK ⟨by omega, by omega⟩) hK ⟨Nat.le_of_ble_eq_true rfl, Nat.le_of_ble_eq_true rfl⟩ rfl (Nat.le_of_ble_eq_true rfl) dX5_read_42 rfl (fun v10 τ11 p12 => ?_)
          obtain ⟨rfl, rfl⟩ := p12
          have es42 : (if 0 ≤ k ∧ k < 40 then τ (c + 2) (k).toNat else 0) = loadsR r i (k).toNat := by rw [if_pos (by omega), jf (c + 2) (by omega) (by omega), (hP.2.2 (k).toNat (by omega)).2]; rfl
          rw [es42]
          refine cl_X5_37 X (c_X5_readSet l E τ (setsR r i) (loadsR r i) (runsR (setsR r i) k.toNat) w jx hw k.toNat (setsR r i (k).toNat) (loadsR r i (k).toNat) rfl rfl (by omega) (by omega) (runs_b _ _) (fun j hj => hSb j (by omega))) fk5 ⟨Nat.le_of_ble_eq_true rfl, Nat.le_of_ble_eq_true rfl⟩ rfl (Nat.le_of_ble_eq_true rfl) dX5_read_45 rfl (fun v13 τ14 p15 => ?_)
          obtain ⟨rfl, hX45, hF45⟩ := p15
          refine g_iinc X (lw := [some (rv E (5)), some (rv E (c)), some (iv (w)), some (iv (k + 1)), some (iv (setsR r i (k).toNat))]) dX5_read_48 rfl (by decide) rfl rfl ?_
          refine g_goto X (tgt := 17) dX5_read_51 (by decide) ?_
          refine g_kill X 4 (lw := [some (rv E (5)), some (rv E (c)), some (iv (w)), some (iv (k + 1)), none]) rfl ?_
          exact ih1 τ14  (k + 1) (by omega) (by omega) (by rw [show (k + 1).toNat = k.toNat + 1 by omega, runsR]; exact hX45) (by exact jf.trans hF45) (by omega)
  exact L1 _ (up (up (up σ 5 1 (w)) 5 2 (0)) 5 4 (0))  0 (by omega) (by omega) (by exact ⟨by simp [up], by simp [up, runsR], by simp [up, runsR], fun q => absurd q (by simp [runsR]), fun q1 q2 => absurd q2 (by simp only [Int.toNat_zero, runsR]; omega)⟩) (by exact ((frX.refl.up (by decide)).up (by decide)).up (by decide)) (by exact Int.lt_toNat_succ _)
set_option maxHeartbeats 1000000 in
set_option maxRecDepth 100000 in
theorem c_X5_answerOf (l : Launch) (E : wEnv) (σ : Mem) (k : Int) (h0 : 0 ≤ k) (h1 : k ≤ 3) : MetC l E yX5_answerOf cX5_answerOf 2 (some .int) 0 0 [rv E (5), iv (k)] σ (fun v σ' => v = some (iv (σ 6 k.toNat)) ∧ σ = σ') := by
  refine MetC.of (own := RX5) (by decide) rfl (by simp [Value.category]) (Nat.le_of_ble_eq_true rfl) [some (rv E (5)), some (iv (k))] rfl (by simp) (fun K X R => ?_)
  refine g_iload_n X dX5_answerOf_0 rfl ?_
  refine g_if_lt X (tgt := 22) dX5_answerOf_1 (by decide) ⟨by omega, by omega⟩ (fun c1 => ?_) (fun c1 => ?_)
  · skip
    refine g_iconst X dX5_answerOf_22 ?_
    exact R _ _ _ _ dX5_answerOf_23 ⟨congrArg (fun z => some (iv z)) (by first | (exfalso; omega) | rfl), rfl⟩
  · skip
    refine g_iload_n X dX5_answerOf_4 rfl ?_
    refine g_aload_n X dX5_answerOf_5 rfl ?_
    refine gf_X5_9 X fk5 dX5_answerOf_6 ?_
    refine g_alen13 X fk6 fl6 dX5_answerOf_9 ?_
    refine g_icmp_ge X (tgt := 22) dX5_answerOf_10 (by decide) ⟨by omega, by omega⟩ ⟨by decide, by decide⟩ (fun c2 => ?_) (fun c2 => ?_)
    · skip
      refine g_iconst X dX5_answerOf_22 ?_
      exact R _ _ _ _ dX5_answerOf_23 ⟨congrArg (fun z => some (iv z)) (by first | (exfalso; omega) | rfl), rfl⟩
    · skip
      refine g_aload_n X dX5_answerOf_13 rfl ?_
      refine gf_X5_9 X fk5 dX5_answerOf_14 ?_
      refine g_iload_n X dX5_answerOf_17 rfl ?_
      refine g_iald X fk6 fl6 (by omega) (by omega) (by decide) rfl dX5_answerOf_18 ?_
      refine g_goto X (tgt := 23) dX5_answerOf_19 (by decide) ?_
      exact R _ _ _ _ dX5_answerOf_23 ⟨congrArg (fun z => some (iv z)) (by first | (exfalso; omega) | rfl), rfl⟩
set_option maxHeartbeats 1000000 in
set_option maxRecDepth 100000 in
theorem c_X7_runs (l : Launch) (E : wEnv) (σ : Mem) (s : St) (N : Int) (hC : CRep σ s N) (hN : N + 600 ≤ 400000) (hKI : ∀ i : Nat, (i : Int) < s.1 19 → ∀ j : Nat, (j : Int) < s.1 (24 + 91 * i + 10) → 0 ≤ setsR s.1 i j ∧ setsR s.1 i j ≤ 500) (p : Int) (hp : I32 p) : MetC l E yX7_runs cX7_runs 3 (some .int) 3 67 [rv E (0), iv (p)] σ (fun v σ' => v = some (iv (runsX s p)) ∧ CRep σ' s (N + 600) ∧ frM σ σ') := by
  refine MetC.of (own := RX7) (by decide) rfl (by simp [Value.category]) (Nat.le_of_ble_eq_true rfl) [some (rv E (0)), some (iv (p)), none] rfl (by simp) (fun K X R => ?_)
  have hS := hC.1
  have hR := hC.2.1
  have hH := hC.2.2.1
  have hI := hC.2.2.2.1
  have hT := hC.2.2.2.2
  have r19 := hR.2.2.2.2.1
  have r0 := hR.1
  have rN := hR.2.2.2.2.2.1
  refine g_aload_n X dX7_runs_0 rfl ?_
  refine gf_X7_10 X fk0 dX7_runs_1 ?_
  refine g_iload_n X dX7_runs_4 rfl ?_
  refine cl_X7_151 X (c_X6_pileAt l E σ 25 s.1 N now_k hS hR p ⟨by omega, by omega⟩) now_k ⟨Nat.le_of_ble_eq_true rfl, Nat.le_of_ble_eq_true rfl⟩ rfl (Nat.le_of_ble_eq_true rfl) dX7_runs_5 rfl (fun v1 τ2 p3 => ?_)
  obtain ⟨rfl, ⟨b4, rfl⟩ | ⟨b4, rfl⟩⟩ := p3
  · skip
    have hp5 := (hS.2.2.2.2.2.2 (p).toNat (by omega))
    have hf5 := hp5.f
    have hi5 := hR.2.2.2.2.2.2 (p).toNat (by omega)
    have hj5 := hi5.f
    refine g_astore_n X (lw := [some (rv E (0)), some (iv (p)), some (rv E ((25 + 5 + 1 + 3 * (p).toNat)))]) dX7_runs_8 (by decide) rfl rfl ?_
    refine g_aload_n X dX7_runs_9 rfl ?_
    refine g_ifnonnull X (tgt := 15) dX7_runs_10 (by decide) ?_
    refine g_aload_n X dX7_runs_15 rfl ?_
    refine gf_X7_33 X fk0 dX7_runs_16 ?_
    refine g_aload_n X dX7_runs_19 rfl ?_
    refine g_iconst X dX7_runs_20 ?_
    refine cl_X7_225 X (c_X5_read l E σ ((25 + 5 + 1 + 3 * (p).toNat)) s.1 ((p).toNat) (-1) (stP now_k (p).toNat (by omega)) (by omega) (hS.2.2.2.2.2.2 ((p).toNat) (by omega)) (by omega) (hKI ((p).toNat) (by omega)) ⟨by decide, by decide⟩) fk5 ⟨Nat.le_of_ble_eq_true rfl, Nat.le_of_ble_eq_true rfl⟩ rfl (Nat.le_of_ble_eq_true rfl) dX7_runs_21 rfl (fun v5 τ6 p7 => ?_)
    obtain ⟨rfl, hX, hf⟩ := p7
    have xe := ends_b (runs_b (setsR s.1 p.toNat) (s.1 (24 + 91 * p.toNat + 10)).toNat)
    replace xe : XE (allR (setsR s.1 p.toNat) (s.1 (24 + 91 * p.toNat + 10)).toNat) _ := xe
    have xe1 := xe.1
    refine g_aload_n X dX7_runs_24 rfl ?_
    refine gf_X7_33 X fk0 dX7_runs_25 ?_
    refine gf_X7_229 X fk5 (show τ6 5 2 = ((allR (setsR s.1 p.toNat) (s.1 (24 + 91 * p.toNat + 10)).toNat).2.2.2.1 : Int) from hX.2.1) dX7_runs_28 ?_
    exact R _ _ _ _ dX7_runs_31 (by unfold runsX; rw [if_pos (by omega)]; exact ⟨rfl, (hC.fX hf).mono (by omega) hN, fun x h1 h2 => hf x (by omega) (by omega)⟩)
  · skip
    refine g_astore_nN X (lw := [some (rv E (0)), some (iv (p)), some (Value.null)]) dX7_runs_8 (by decide) rfl rfl ?_
    refine g_aload_nN X dX7_runs_9 rfl ?_
    refine g_ifnonnullN X dX7_runs_10 ?_
    refine g_iconst X dX7_runs_13 ?_
    exact R _ _ _ _ dX7_runs_14 (by unfold runsX; rw [if_neg (by omega)]; exact ⟨rfl, hC.mono (by omega) hN, frM.refl⟩)
set_option maxHeartbeats 1000000 in
set_option maxRecDepth 100000 in
theorem c_X7_run (l : Launch) (E : wEnv) (σ : Mem) (s : St) (N : Int) (hC : CRep σ s N) (hN : N + 600 ≤ 400000) (hKI : ∀ i : Nat, (i : Int) < s.1 19 → ∀ j : Nat, (j : Int) < s.1 (24 + 91 * i + 10) → 0 ≤ setsR s.1 i j ∧ setsR s.1 i j ≤ 500) (p k w : Int) (hp : I32 p) (hk : I32 k) (hw : I32 w) : MetC l E yX7_run cX7_run 5 (some .int) 3 67 [rv E (0), iv (p), iv (k), iv (w)] σ (fun v σ' => v = some (iv (runX s p k w)) ∧ CRep σ' s (N + 600) ∧ frM σ σ') := by
  refine MetC.of (own := RX7) (by decide) rfl (by simp [Value.category]) (Nat.le_of_ble_eq_true rfl) [some (rv E (0)), some (iv (p)), some (iv (k)), some (iv (w)), none] rfl (by simp) (fun K X R => ?_)
  have hS := hC.1
  have hR := hC.2.1
  have hH := hC.2.2.1
  have hI := hC.2.2.2.1
  have hT := hC.2.2.2.2
  have r19 := hR.2.2.2.2.1
  have r0 := hR.1
  have rN := hR.2.2.2.2.2.1
  refine g_aload_n X dX7_run_0 rfl ?_
  refine gf_X7_10 X fk0 dX7_run_1 ?_
  refine g_iload_n X dX7_run_4 rfl ?_
  refine cl_X7_151 X (c_X6_pileAt l E σ 25 s.1 N now_k hS hR p ⟨by omega, by omega⟩) now_k ⟨Nat.le_of_ble_eq_true rfl, Nat.le_of_ble_eq_true rfl⟩ rfl (Nat.le_of_ble_eq_true rfl) dX7_run_5 rfl (fun v1 τ2 p3 => ?_)
  obtain ⟨rfl, ⟨b4, rfl⟩ | ⟨b4, rfl⟩⟩ := p3
  · skip
    have hp5 := (hS.2.2.2.2.2.2 (p).toNat (by omega))
    have hf5 := hp5.f
    have hi5 := hR.2.2.2.2.2.2 (p).toNat (by omega)
    have hj5 := hi5.f
    refine g_astore X (lw := [some (rv E (0)), some (iv (p)), some (iv (k)), some (iv (w)), some (rv E ((25 + 5 + 1 + 3 * (p).toNat)))]) dX7_run_8 (by decide) rfl rfl ?_
    refine g_aload X dX7_run_10 rfl ?_
    refine g_ifnull X dX7_run_12 ?_
    refine g_iload_n X dX7_run_15 rfl ?_
    refine g_if_lt X (tgt := 28) dX7_run_16 (by decide) ⟨by omega, by omega⟩ (fun c5 => ?_) (fun c5 => ?_)
    · skip
      refine g_iconst X dX7_run_28 ?_
      exact R _ _ _ _ dX7_run_29 (by unfold runX; rw [if_neg (by omega)]; exact ⟨rfl, hC.mono (by omega) hN, frM.refl⟩)
    · skip
      refine g_iload_n X dX7_run_19 rfl ?_
      refine g_iconst X dX7_run_20 ?_
      refine g_iconst X dX7_run_21 ?_
      refine cl_X7_54 X (c_X7_inRange l E σ w 0 3 ⟨by omega, by omega⟩ ⟨by decide, by decide⟩ ⟨by decide, by decide⟩) ⟨Nat.le_of_ble_eq_true rfl, Nat.le_of_ble_eq_true rfl⟩ rfl (Nat.le_of_ble_eq_true rfl) dX7_run_22 rfl (fun v6 τ7 p8 => ?_)
      obtain ⟨rfl, ⟨b9, rfl⟩ | ⟨b9, rfl⟩⟩ := p8
      · skip
        skip
        refine g_if_ne X (tgt := 30) dX7_run_25 (by decide) ⟨by decide, by decide⟩ (fun _ => ?_) (fun q => absurd q (by decide))
        refine g_aload_n X dX7_run_30 rfl ?_
        refine gf_X7_33 X fk0 dX7_run_31 ?_
        refine g_aload X dX7_run_34 rfl ?_
        refine g_iload_n X dX7_run_36 rfl ?_
        refine cl_X7_225 X (c_X5_read l E σ ((25 + 5 + 1 + 3 * (p).toNat)) s.1 ((p).toNat) k (stP now_k (p).toNat (by omega)) (by omega) (hS.2.2.2.2.2.2 ((p).toNat) (by omega)) (by omega) (hKI ((p).toNat) (by omega)) ⟨by omega, by omega⟩) fk5 ⟨Nat.le_of_ble_eq_true rfl, Nat.le_of_ble_eq_true rfl⟩ rfl (Nat.le_of_ble_eq_true rfl) dX7_run_37 rfl (fun v10 τ11 p12 => ?_)
        obtain ⟨rfl, hX, hf⟩ := p12
        have xe := ends_b (runs_b (setsR s.1 p.toNat) (s.1 (24 + 91 * p.toNat + 10)).toNat)
        replace xe : XE (allR (setsR s.1 p.toNat) (s.1 (24 + 91 * p.toNat + 10)).toNat) _ := xe
        have xe1 := xe.1
        refine g_iload_n X dX7_run_40 rfl ?_
        refine g_aload_n X dX7_run_41 rfl ?_
        refine gf_X7_33 X fk0 dX7_run_42 ?_
        refine gf_X7_229 X fk5 (show τ11 5 2 = ((allR (setsR s.1 p.toNat) (s.1 (24 + 91 * p.toNat + 10)).toNat).2.2.2.1 : Int) from hX.2.1) dX7_run_45 ?_
        refine g_icmp_ge X (tgt := 62) dX7_run_48 (by decide) ⟨by omega, by omega⟩ ⟨by omega, by omega⟩ (fun c13 => ?_) (fun c13 => ?_)
        · skip
          refine g_bipush X dX7_run_62 (by decide) ?_
          exact R _ _ _ _ dX7_run_64 (by unfold runX; (repeat (first | rw [if_pos (by omega)] | rw [if_neg (by omega)])); exact ⟨congrArg (fun z => some (iv z)) rfl, (hC.fX hf).mono (by omega) hN, fun x h1 h2 => hf x (by omega) (by omega)⟩)
        · skip
          refine g_aload_n X dX7_run_51 rfl ?_
          refine gf_X7_33 X fk0 dX7_run_52 ?_
          refine g_iload_n X dX7_run_55 rfl ?_
          refine cl_X7_232 X (c_X5_answerOf l E τ11 w (by omega) (by omega)) fk5 ⟨Nat.le_of_ble_eq_true rfl, Nat.le_of_ble_eq_true rfl⟩ rfl (Nat.le_of_ble_eq_true rfl) dX7_run_56 rfl (fun v14 τ15 p16 => ?_)
          obtain ⟨rfl, rfl⟩ := p16
          refine g_goto X (tgt := 64) dX7_run_59 (by decide) ?_
          exact R _ _ _ _ dX7_run_64 (by have hx6 := hX.2.2.2.2 (by omega) (by show k < ((allR (setsR s.1 p.toNat) (s.1 (24 + 91 * p.toNat + 10)).toNat).2.2.2.1 : Int); omega); unfold runX; rw [if_pos (by omega), if_pos (by omega)]; rcases (show w = 0 ∨ w = 1 ∨ w = 2 ∨ w = 3 by omega) with e | e | e | e <;> subst e <;> first | (exact ⟨congrArg (fun z => some (iv z)) hx6.1, (hC.fX hf).mono (by omega) hN, fun x h1 h2 => hf x (by omega) (by omega)⟩) | (exact ⟨congrArg (fun z => some (iv z)) hx6.2.1, (hC.fX hf).mono (by omega) hN, fun x h1 h2 => hf x (by omega) (by omega)⟩) | (exact ⟨congrArg (fun z => some (iv z)) hx6.2.2.1, (hC.fX hf).mono (by omega) hN, fun x h1 h2 => hf x (by omega) (by omega)⟩) | (exact ⟨congrArg (fun z => some (iv z)) hx6.2.2.2, (hC.fX hf).mono (by omega) hN, fun x h1 h2 => hf x (by omega) (by omega)⟩))
      · skip
        skip
        refine g_if_ne X (tgt := 30) dX7_run_25 (by decide) ⟨by decide, by decide⟩ (fun q => absurd q (by decide)) (fun _ => ?_)
        refine g_iconst X dX7_run_28 ?_
        exact R _ _ _ _ dX7_run_29 (by unfold runX; rw [if_neg (by omega)]; exact ⟨rfl, hC.mono (by omega) hN, frM.refl⟩)
  · skip
    refine g_astoreN X (lw := [some (rv E (0)), some (iv (p)), some (iv (k)), some (iv (w)), some (Value.null)]) dX7_run_8 (by decide) rfl rfl ?_
    refine g_aloadN X dX7_run_10 rfl ?_
    refine g_ifnullN X (tgt := 28) dX7_run_12 (by decide) ?_
    refine g_iconst X dX7_run_28 ?_
    exact R _ _ _ _ dX7_run_29 (by unfold runX; rw [if_neg (by omega)]; exact ⟨rfl, hC.mono (by omega) hN, frM.refl⟩)
