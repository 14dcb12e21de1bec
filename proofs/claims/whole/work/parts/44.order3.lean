/-! ===== contracts: orders of driving, of the reference ===== -/
set_option maxHeartbeats 1000000 in
set_option maxRecDepth 100000 in
theorem c_X8_findFresh (l : Launch) (E : wEnv) (σ : Mem) (r : Row) (N : Int) (hM : RR σ r) (hR : RInv r N) : MetC l E yX8_findFresh cX8_findFresh 2 none 1 22 [rv E (12)] σ (fun v σ' => v = none ∧ LstR σ' 12 12 21 (freshP r) (r 19).toNat ∧ frQ σ σ') := by
  refine MetC.of (own := RX8) (by decide) rfl (by simp [Value.category]) (Nat.le_of_ble_eq_true rfl) [some (rv E (12)), none] rfl (by simp) (fun K X R => ?_)
  have r19 := hR.2.2.2.2.1
  have r0 := hR.1
  have rN := hR.2.2.2.2.2.1
  refine g_aload_n X dX8_findFresh_0 rfl ?_
  refine g_iconst X dX8_findFresh_1 ?_
  refine pf_X8_158 X fk12 dX8_findFresh_2 ?_
  refine g_iconst X dX8_findFresh_5 ?_
  refine g_istore_n X (lw := [some (rv E (12)), some (iv (0))]) dX8_findFresh_6 (by decide) rfl rfl ?_
  have L1 : ∀ (fu : Nat) (τ : Mem) (i : Int), (0 ≤ i) → (i ≤ r 19) → (LstR τ 12 12 21 (freshP r) i.toNat) → (frQ σ τ) → r 19 - i < (fu : Int) → K τ 7 [some (rv E (12)), some (iv (i))] [] := by
    intro fu
    induction fu with
    | zero =>
      intro τ i j1 j2 jL jf hm
      exact absurd hm (by omega)
    | succ fu ih1 =>
      intro τ i j1 j2 jL jf hm
      have pi : i < r 19 → _ := fun q => (hR.2.2.2.2.2.2 i.toNat (by omega)).f
      have fn := filt_n (freshP r) i.toNat
      have jM : RR τ r := hM.fQ jf
      have jL1 := jL.1
      refine g_iload_n X dX8_findFresh_7 rfl ?_
      refine g_aload_n X dX8_findFresh_8 rfl ?_
      refine gf_X8_7 X fk12 dX8_findFresh_9 ?_
      refine g_bipush X dX8_findFresh_12 (by decide) ?_
      refine g_iald X fk13 fl13 (by omega) (by omega) (by decide) (jM.at (n := 19) (by omega) (by omega)) dX8_findFresh_14 ?_
      refine g_icmp_ge X (tgt := 53) dX8_findFresh_15 (by decide) ⟨by omega, by omega⟩ ⟨by omega, by omega⟩ (fun c2 => ?_) (fun c2 => ?_)
      · skip
        exact R _ _ _ dX8_findFresh_53 ⟨rfl, by rw [show i.toNat = (r 19).toNat by omega] at jL; exact jL, jf⟩
      · skip
        refine g_aload_n X dX8_findFresh_18 rfl ?_
        refine g_iload_n X dX8_findFresh_19 rfl ?_
        refine g_iconst X dX8_findFresh_20 ?_
        refine cl_X8_62 X (c0_X8_of l E τ i 4 (24 + 91 * i.toNat + 4) (by omega) (by omega) (by omega)) fk12 ⟨Nat.le_of_ble_eq_true rfl, Nat.le_of_ble_eq_true rfl⟩ rfl (Nat.le_of_ble_eq_true rfl) dX8_findFresh_21 rfl (fun v3 τ4 p5 => ?_)
        obtain ⟨rfl, rfl⟩ := p5
        rw [show τ 13 (24 + 91 * i.toNat + 4) = r (24 + 91 * i.toNat + 4) from (jM.at (n := (24 + 91 * i.toNat + 4)) (by omega) (by omega))]
        refine g_if_ne X (tgt := 47) dX8_findFresh_24 (by decide) ⟨by omega, by omega⟩ (fun c6 => ?_) (fun c6 => ?_)
        · skip
          refine g_iinc X (lw := [some (rv E (12)), some (iv (i + 1))]) dX8_findFresh_47 rfl (by decide) rfl rfl ?_
          refine g_goto X (tgt := 7) dX8_findFresh_50 (by decide) ?_
          exact ih1 τ  (i + 1) (by omega) (by omega) (by rw [show (i + 1).toNat = i.toNat + 1 by omega]; exact lst_no jL (fun q => absurd (of_decide_eq_true q) (by omega))) (by exact jf) (by omega)
        · skip
          refine g_aload_n X dX8_findFresh_27 rfl ?_
          refine gf_X8_35 X fk12 dX8_findFresh_28 ?_
          refine g_aload_n X dX8_findFresh_31 rfl ?_
          refine gf_X8_158 X fk12 (show τ 12 12 = (((filt (freshP r) i.toNat).length : Nat) : Int) from jL.1) dX8_findFresh_32 ?_
          refine g_iload_n X dX8_findFresh_35 rfl ?_
          refine g_iast X fk21 fl21 (by omega) (by omega) (by decide) dX8_findFresh_36 ?_
          refine g_aload_n X dX8_findFresh_37 rfl ?_
          refine g_dup X dX8_findFresh_38 rfl ?_
          refine gf_X8_158 X fk12 (up_ne1 (by omega) (show τ 12 12 = (((filt (freshP r) i.toNat).length : Nat) : Int) from jL.1)) dX8_findFresh_39 ?_
          refine g_iconst X dX8_findFresh_42 ?_
          refine g_iadd X dX8_findFresh_43 ?_
          refine pf_X8_158 X fk12 dX8_findFresh_44 ?_
          refine g_iinc X (lw := [some (rv E (12)), some (iv (i + 1))]) dX8_findFresh_47 rfl (by decide) rfl rfl ?_
          refine g_goto X (tgt := 7) dX8_findFresh_50 (by decide) ?_
          exact ih1 (up (up τ 21 (((((filt (freshP r) i.toNat).length : Nat) : Int)).toNat) (i)) 12 12 ((((filt (freshP r) i.toNat).length : Nat) : Int) + 1))  (i + 1) (by omega) (by omega) (by rw [show (i + 1).toNat = i.toNat + 1 by omega]; exact lst_yes jL (decide_eq_true (by omega)) (by decide) (by omega) (by omega) (by omega)) (by exact ⟨fun x a b c d e => by rw [up_neC _ _ a, up_neC _ _ b]; exact jf.1 x a b c d e, fun j hj h2 => by rw [up_ne _ _ (Or.inr hj), up_ne _ _ (Or.inl (by decide))]; exact jf.2 j hj h2⟩) (by omega)
  exact L1 _ (up σ 12 12 (0))  0 (by omega) (by omega) (by exact ⟨up_same _ _ _ _, fun j hj => absurd hj (Nat.not_lt_zero j)⟩) (by exact ⟨fun x a _ _ _ _ => up_neC _ _ a, fun j hj _ => up_ne _ _ (Or.inr hj)⟩) (by exact Int.lt_toNat_succ _)
set_option maxHeartbeats 1000000 in
set_option maxRecDepth 100000 in
theorem c_X8_layRow (l : Launch) (E : wEnv) (σ : Mem) (F m : Nat) (hF : F < 6) (hmf : m < fac F) (fl : Nat → Int) (hF12 : σ 12 12 = F) (hfl : ∀ i, i < F → σ 21 i = fl i) (x y : Int) (hx : x = ((m : Nat) : Int)) (hy : y = ((fac F : Nat) : Int)) : MetC l E yX8_layRow cX8_layRow 9 none 0 0 [rv E (12), iv (x), iv (y)] σ (fun v σ' => v = none ∧ (∀ j, j < F → σ' 22 j = fl (layP F m j)) ∧ ∀ x, x ≠ 22 → σ' x = σ x) := by
  refine MetC.of (own := RX8) (by decide) rfl (by simp [Value.category]) (Nat.le_of_ble_eq_true rfl) [some (rv E (12)), some (iv (x)), some (iv (y)), none, none, none, none, none, none] rfl (by simp) (fun K X R => ?_)
  have fb := fac_bd F hF
  refine g_iconst X dX8_layRow_0 ?_
  refine g_istore_n X (lw := [some (rv E (12)), some (iv (x)), some (iv (y)), some (iv (0)), none, none, none, none, none]) dX8_layRow_1 (by decide) rfl rfl ?_
  refine g_iload_n X dX8_layRow_2 rfl ?_
  refine g_istore X (lw := [some (rv E (12)), some (iv (x)), some (iv (y)), some (iv (0)), some (iv (x)), none, none, none, none]) dX8_layRow_3 (by decide) rfl rfl ?_
  refine g_iload_n X dX8_layRow_5 rfl ?_
  refine g_istore X (lw := [some (rv E (12)), some (iv (x)), some (iv (y)), some (iv (0)), some (iv (x)), some (iv (y)), none, none, none]) dX8_layRow_6 (by decide) rfl rfl ?_
  refine g_iconst X dX8_layRow_8 ?_
  refine g_istore X (lw := [some (rv E (12)), some (iv (x)), some (iv (y)), some (iv (0)), some (iv (x)), some (iv (y)), some (iv (0)), none, none]) dX8_layRow_9 (by decide) rfl rfl ?_
  have L1 : ∀ (fu : Nat) (τ : Mem) (tk lf rw_ k : Int), (0 ≤ k) → (k ≤ ((F : Nat) : Int)) → (tk = (((stL F m k.toNat).1 : Nat) : Int)) → (lf = (((stL F m k.toNat).2.1 : Nat) : Int)) → (rw_ = (((stL F m k.toNat).2.2 : Nat) : Int)) → (∀ j, j < k.toNat → τ 22 j = fl (layP F m j)) → (∀ x, x ≠ 22 → τ x = σ x) → ((F : Nat) : Int) - k < (fu : Int) → K τ 11 [some (rv E (12)), some (iv (x)), some (iv (y)), some (iv (tk)), some (iv (lf)), some (iv (rw_)), some (iv (k)), none, none] [] := by
    intro fu
    induction fu with
    | zero =>
      intro τ tk lf rw_ k j1 j2 jt jl jw jr jf hm
      exact absurd hm (by omega)
    | succ fu ih1 =>
      intro τ tk lf rw_ k j1 j2 jt jl jw jr jf hm
      have lo : k < ((F : Nat) : Int) → _ := fun q => lay_ok F hF m hmf k.toNat (by omega)
      refine g_iload X dX8_layRow_11 rfl ?_
      refine g_aload_n X dX8_layRow_13 rfl ?_
      refine gf_X8_158 X fk12 (show τ 12 12 = ((F : Nat) : Int) from (congrFun (jf 12 (by decide)) 12).trans hF12) dX8_layRow_14 ?_
      refine g_icmp_ge X (tgt := 117) dX8_layRow_17 (by decide) ⟨by omega, by omega⟩ ⟨by omega, by omega⟩ (fun c2 => ?_) (fun c2 => ?_)
      · skip
        exact R _ _ _ dX8_layRow_117 ⟨rfl, fun j hj => jr j (by omega), jf⟩
      · skip
        refine g_iload X dX8_layRow_20 rfl ?_
        refine g_aload_n X dX8_layRow_22 rfl ?_
        refine gf_X8_158 X fk12 (show τ 12 12 = ((F : Nat) : Int) from (congrFun (jf 12 (by decide)) 12).trans hF12) dX8_layRow_23 ?_
        refine g_iload X dX8_layRow_26 rfl ?_
        refine g_isub X dX8_layRow_28 ?_
        refine g_idiv X dX8_layRow_29 (by omega) (by omega) (by omega) (by omega) ?_
        obtain ⟨l1, l2, l3, l4, l5⟩ := lo (by omega)
        obtain ⟨W, hW⟩ : ∃ W : Nat, W = (stL F m k.toNat).2.2 / (F - k.toNat) := ⟨_, rfl⟩
        rw [← hW] at l3
        have hW2 : rw_ / (((F : Nat) : Int) - k) = ((W : Nat) : Int) := by rw [jw, show ((F : Nat) : Int) - k = ((F - k.toNat : Nat) : Int) by omega, hW]; exact (Int.natCast_ediv _ _).symm
        have hW3 : W ≤ 120 := by rw [hW]; exact Nat.le_trans (Nat.div_le_self _ _) l4
        rw [hW2]
        refine g_istore X (lw := [some (rv E (12)), some (iv (x)), some (iv (y)), some (iv (tk)), some (iv (lf)), some (iv (((W : Nat) : Int))), some (iv (k)), none, none]) dX8_layRow_30 (by decide) rfl rfl ?_
        refine g_iload X dX8_layRow_32 rfl ?_
        refine g_iload X dX8_layRow_34 rfl ?_
        refine g_idiv X dX8_layRow_36 (by omega) (by omega) (by omega) (by omega) ?_
        obtain ⟨S, hS⟩ : ∃ S : Nat, S = (stL F m k.toNat).2.1 / W := ⟨_, rfl⟩
        have hS2 : lf / (((W : Nat) : Int)) = ((S : Nat) : Int) := by rw [jl, hS]; exact (Int.natCast_ediv _ _).symm
        have hS3 : S ≤ 120 := by rw [hS]; exact Nat.le_trans (Nat.div_le_self _ _) l5
        rw [hS2]
        refine g_istore X (lw := [some (rv E (12)), some (iv (x)), some (iv (y)), some (iv (tk)), some (iv (lf)), some (iv (((W : Nat) : Int))), some (iv (k)), some (iv (((S : Nat) : Int))), none]) dX8_layRow_37 (by decide) rfl rfl ?_
        refine g_iload X dX8_layRow_39 rfl ?_
        refine g_iload X dX8_layRow_41 rfl ?_
        refine g_irem X dX8_layRow_43 (by omega) (by omega) (by omega) (by omega) ?_
        obtain ⟨M, hM⟩ : ∃ M : Nat, M = (stL F m k.toNat).2.1 % W := ⟨_, rfl⟩
        have hM2 : lf % (((W : Nat) : Int)) = ((M : Nat) : Int) := by rw [jl, hM]; exact (Int.natCast_emod _ _).symm
        rw [hM2]
        refine g_istore X (lw := [some (rv E (12)), some (iv (x)), some (iv (y)), some (iv (tk)), some (iv (((M : Nat) : Int))), some (iv (((W : Nat) : Int))), some (iv (k)), some (iv (((S : Nat) : Int))), none]) dX8_layRow_44 (by decide) rfl rfl ?_
        refine g_iconst X dX8_layRow_46 ?_
        refine g_istore X (lw := [some (rv E (12)), some (iv (x)), some (iv (y)), some (iv (tk)), some (iv (((M : Nat) : Int))), some (iv (((W : Nat) : Int))), some (iv (k)), some (iv (((S : Nat) : Int))), some (iv (0))]) dX8_layRow_47 (by decide) rfl rfl ?_
        have L3 : ∀ (fu : Nat) (sk pl : Int), (0 ≤ pl) → (0 ≤ sk ∧ sk ≤ 120) → (layP F m k.toNat = plF (stL F m k.toNat).1 (6 - pl).toNat sk pl.toNat) → (pl ≤ 6) → 6 - pl < (fu : Int) → K τ 49 [some (rv E (12)), some (iv (x)), some (iv (y)), some (iv (tk)), some (iv (((M : Nat) : Int))), some (iv (((W : Nat) : Int))), some (iv (k)), some (iv (sk)), some (iv (pl))] [] := by
          intro fu
          induction fu with
          | zero =>
            intro sk pl p1 p2 jp p3 hm
            exact absurd hm (by omega)
          | succ fu ih3 =>
            intro sk pl p1 p2 jp p3 hm
            have pl5 : pl ≤ 5 := by by_cases z : pl = 6; (exfalso; subst z; have q : layP F m k.toNat = 6 := jp; omega); omega
            have bb := bit_b (a := tk) (b := pl) (by omega) (by omega)
            rw [show tk.toNat = (stL F m k.toNat).1 by omega] at bb
            have sb := shr_b (a := tk) (b := pl) (by omega) (by omega)
            refine g_iload_n X dX8_layRow_49 rfl ?_
            refine g_iload X dX8_layRow_50 rfl ?_
            refine g_ishr X dX8_layRow_52 (by omega) (by omega) ?_
            refine g_iconst X dX8_layRow_53 ?_
            refine g_iand1 X dX8_layRow_54 (by omega) ?_
            refine g_iconst X dX8_layRow_55 ?_
            refine g_icmp_eq X (tgt := 64) dX8_layRow_56 (by decide) ⟨by omega, by omega⟩ ⟨by decide, by decide⟩ (fun c4 => ?_) (fun c4 => ?_)
            · skip
              refine g_iload X dX8_layRow_64 rfl ?_
              refine g_iload_n X dX8_layRow_66 rfl ?_
              refine g_iload X dX8_layRow_67 rfl ?_
              refine g_ishr X dX8_layRow_69 (by omega) (by omega) ?_
              refine g_iconst X dX8_layRow_70 ?_
              refine g_iand1 X dX8_layRow_71 (by omega) ?_
              refine g_iconst X dX8_layRow_72 ?_
              refine g_icmp_ne X (tgt := 80) dX8_layRow_73 (by decide) ⟨by omega, by omega⟩ ⟨by decide, by decide⟩ (fun c5 => ?_) (fun c5 => ?_)
              · skip
                refine g_iconst X dX8_layRow_80 ?_
                refine g_isub X dX8_layRow_81 ?_
                refine g_istore X (lw := [some (rv E (12)), some (iv (x)), some (iv (y)), some (iv (tk)), some (iv (((M : Nat) : Int))), some (iv (((W : Nat) : Int))), some (iv (k)), some (iv (sk - 1)), some (iv (pl))]) dX8_layRow_82 (by decide) rfl rfl ?_
                refine g_iinc X (lw := [some (rv E (12)), some (iv (x)), some (iv (y)), some (iv (tk)), some (iv (((M : Nat) : Int))), some (iv (((W : Nat) : Int))), some (iv (k)), some (iv (sk - 1)), some (iv (pl + 1))]) dX8_layRow_84 rfl (by decide) rfl rfl ?_
                refine g_goto X (tgt := 49) dX8_layRow_87 (by decide) ?_
                exact ih3  (sk - 1) (pl + 1) (by omega) (by omega) (by rw [jp, show (6 - pl).toNat = (6 - (pl + 1)).toNat + 1 by omega, plF, if_pos (by omega), show (pl + 1).toNat = pl.toNat + 1 by omega]; first | (rw [if_pos (by omega)]; done) | (rw [if_neg (by omega)]; done)) (by omega) (by omega)
              · skip
                refine g_iconst X dX8_layRow_76 ?_
                refine g_goto X (tgt := 81) dX8_layRow_77 (by decide) ?_
                refine g_isub X dX8_layRow_81 ?_
                refine g_istore X (lw := [some (rv E (12)), some (iv (x)), some (iv (y)), some (iv (tk)), some (iv (((M : Nat) : Int))), some (iv (((W : Nat) : Int))), some (iv (k)), some (iv (sk - 0)), some (iv (pl))]) dX8_layRow_82 (by decide) rfl rfl ?_
                refine g_iinc X (lw := [some (rv E (12)), some (iv (x)), some (iv (y)), some (iv (tk)), some (iv (((M : Nat) : Int))), some (iv (((W : Nat) : Int))), some (iv (k)), some (iv (sk - 0)), some (iv (pl + 1))]) dX8_layRow_84 rfl (by decide) rfl rfl ?_
                refine g_goto X (tgt := 49) dX8_layRow_87 (by decide) ?_
                exact ih3  (sk - 0) (pl + 1) (by omega) (by omega) (by rw [jp, show (6 - pl).toNat = (6 - (pl + 1)).toNat + 1 by omega, plF, if_pos (by omega), show (pl + 1).toNat = pl.toNat + 1 by omega]; first | (rw [if_pos (by omega)]; done) | (rw [if_neg (by omega)]; done)) (by omega) (by omega)
            · skip
              refine g_iload X dX8_layRow_59 rfl ?_
              refine g_if_le X (tgt := 90) dX8_layRow_61 (by decide) ⟨by omega, by omega⟩ (fun c6 => ?_) (fun c6 => ?_)
              · skip
                have hpl : layP F m k.toNat = pl.toNat := by rw [jp]; exact plF_stop (by omega)
                have sl := shl_b (b := pl) (by omega)
                refine g_iload_n X dX8_layRow_90 rfl ?_
                refine g_iconst X dX8_layRow_91 ?_
                refine g_iload X dX8_layRow_92 rfl ?_
                refine g_ishl1 X dX8_layRow_94 (by omega) ?_
                refine g_ior X dX8_layRow_95 (by omega) (by omega) ?_
                refine g_istore_n X (lw := [some (rv E (12)), some (iv (x)), some (iv (y)), some (iv (orI tk (shlI 1 pl))), some (iv (((M : Nat) : Int))), some (iv (((W : Nat) : Int))), some (iv (k)), some (iv (sk)), some (iv (pl))]) dX8_layRow_96 (by decide) rfl rfl ?_
                refine g_aload_n X dX8_layRow_97 rfl ?_
                refine gf_X8_38 X fk12 dX8_layRow_98 ?_
                refine g_iload X dX8_layRow_101 rfl ?_
                refine g_aload_n X dX8_layRow_103 rfl ?_
                refine gf_X8_35 X fk12 dX8_layRow_104 ?_
                refine g_iload X dX8_layRow_107 rfl ?_
                refine g_iald X fk21 fl21 (by omega) (by omega) (by decide) (show τ 21 ((pl).toNat) = fl pl.toNat from (congrFun (jf 21 (by decide)) _).trans (hfl pl.toNat (by omega))) dX8_layRow_109 ?_
                refine g_iast X fk22 fl22 (by omega) (by omega) (by decide) dX8_layRow_110 ?_
                refine g_iinc X (lw := [some (rv E (12)), some (iv (x)), some (iv (y)), some (iv (orI tk (shlI 1 pl))), some (iv (((M : Nat) : Int))), some (iv (((W : Nat) : Int))), some (iv (k + 1)), some (iv (sk)), some (iv (pl))]) dX8_layRow_111 rfl (by decide) rfl rfl ?_
                refine g_goto X (tgt := 11) dX8_layRow_114 (by decide) ?_
                refine g_kill X 7 (lw := [some (rv E (12)), some (iv (x)), some (iv (y)), some (iv (orI tk (shlI 1 pl))), some (iv (((M : Nat) : Int))), some (iv (((W : Nat) : Int))), some (iv (k + 1)), none, some (iv (pl))]) rfl ?_
                refine g_kill X 8 (lw := [some (rv E (12)), some (iv (x)), some (iv (y)), some (iv (orI tk (shlI 1 pl))), some (iv (((M : Nat) : Int))), some (iv (((W : Nat) : Int))), some (iv (k + 1)), none, none]) rfl ?_
                exact ih1 (up τ 22 ((k).toNat) (fl pl.toNat))  (orI tk (shlI 1 pl)) (((M : Nat) : Int)) (((W : Nat) : Int)) (k + 1) (by omega) (by omega) (by rw [show (k + 1).toNat = k.toNat + 1 by omega, stL_s]; show orI tk (shlI 1 pl) = ((((stL F m k.toNat).1 ||| (1 <<< layP F m k.toNat)) : Nat) : Int); rw [or_e, hpl, jt, sl.2.2, Int.toNat_natCast, Int.toNat_natCast]) (by rw [show (k + 1).toNat = k.toNat + 1 by omega, stL_s]; show ((M : Nat) : Int) = (((stL F m k.toNat).2.1 % ((stL F m k.toNat).2.2 / (F - k.toNat)) : Nat) : Int); rw [hM, hW]) (by rw [show (k + 1).toNat = k.toNat + 1 by omega, stL_s]; show ((W : Nat) : Int) = (((stL F m k.toNat).2.2 / (F - k.toNat) : Nat) : Int); rw [hW]) (by intro j hj; by_cases z : j = k.toNat; (subst z; rw [up_same, hpl]); (rw [up_ne _ _ (Or.inr z)]; exact jr j (by omega))) (by intro x hx; rw [up_neC _ _ hx]; exact jf x hx) (by omega)
              · skip
                refine g_iload X dX8_layRow_64 rfl ?_
                refine g_iload_n X dX8_layRow_66 rfl ?_
                refine g_iload X dX8_layRow_67 rfl ?_
                refine g_ishr X dX8_layRow_69 (by omega) (by omega) ?_
                refine g_iconst X dX8_layRow_70 ?_
                refine g_iand1 X dX8_layRow_71 (by omega) ?_
                refine g_iconst X dX8_layRow_72 ?_
                refine g_icmp_ne X (tgt := 80) dX8_layRow_73 (by decide) ⟨by omega, by omega⟩ ⟨by decide, by decide⟩ (fun c7 => ?_) (fun c7 => ?_)
                · skip
                  refine g_iconst X dX8_layRow_80 ?_
                  refine g_isub X dX8_layRow_81 ?_
                  refine g_istore X (lw := [some (rv E (12)), some (iv (x)), some (iv (y)), some (iv (tk)), some (iv (((M : Nat) : Int))), some (iv (((W : Nat) : Int))), some (iv (k)), some (iv (sk - 1)), some (iv (pl))]) dX8_layRow_82 (by decide) rfl rfl ?_
                  refine g_iinc X (lw := [some (rv E (12)), some (iv (x)), some (iv (y)), some (iv (tk)), some (iv (((M : Nat) : Int))), some (iv (((W : Nat) : Int))), some (iv (k)), some (iv (sk - 1)), some (iv (pl + 1))]) dX8_layRow_84 rfl (by decide) rfl rfl ?_
                  refine g_goto X (tgt := 49) dX8_layRow_87 (by decide) ?_
                  exact ih3  (sk - 1) (pl + 1) (by omega) (by omega) (by rw [jp, show (6 - pl).toNat = (6 - (pl + 1)).toNat + 1 by omega, plF, if_pos (by omega), show (pl + 1).toNat = pl.toNat + 1 by omega]; first | (rw [if_pos (by omega)]; done) | (rw [if_neg (by omega)]; done)) (by omega) (by omega)
                · skip
                  refine g_iconst X dX8_layRow_76 ?_
                  refine g_goto X (tgt := 81) dX8_layRow_77 (by decide) ?_
                  refine g_isub X dX8_layRow_81 ?_
                  refine g_istore X (lw := [some (rv E (12)), some (iv (x)), some (iv (y)), some (iv (tk)), some (iv (((M : Nat) : Int))), some (iv (((W : Nat) : Int))), some (iv (k)), some (iv (sk - 0)), some (iv (pl))]) dX8_layRow_82 (by decide) rfl rfl ?_
                  refine g_iinc X (lw := [some (rv E (12)), some (iv (x)), some (iv (y)), some (iv (tk)), some (iv (((M : Nat) : Int))), some (iv (((W : Nat) : Int))), some (iv (k)), some (iv (sk - 0)), some (iv (pl + 1))]) dX8_layRow_84 rfl (by decide) rfl rfl ?_
                  refine g_goto X (tgt := 49) dX8_layRow_87 (by decide) ?_
                  exact ih3  (sk - 0) (pl + 1) (by omega) (by omega) (by rw [jp, show (6 - pl).toNat = (6 - (pl + 1)).toNat + 1 by omega, plF, if_pos (by omega), show (pl + 1).toNat = pl.toNat + 1 by omega]; first | (rw [if_pos (by omega)]; done) | (rw [if_neg (by omega)]; done)) (by omega) (by omega)
        exact L3 _  (((S : Nat) : Int)) 0 (by omega) (by omega) (by unfold layP; rw [← hW, ← hS]; rfl) (by omega) (by exact Int.lt_toNat_succ _)
  exact L1 _ σ  0 x y 0 (by omega) (by omega) (by rfl) (by exact hx) (by exact hy) (by intro j hj; omega) (by intro x _; rfl) (by exact Int.lt_toNat_succ _)
set_option maxHeartbeats 1000000 in
set_option maxRecDepth 100000 in
theorem c_X8_tries (l : Launch) (E : wEnv) (σ : Mem) (r : Row) (N : Int) (hM : RR σ r) (hR : RInv r N) (ft : Ft) (hF : FR σ 24 (r 19).toNat ft) (hFB : FB r ft) (p h b : Int) (hp : 0 ≤ p ∧ p < r 19) (h0 : 0 ≤ h) (h1 : h ≤ 3000) (hb : 1 ≤ b ∧ b ≤ 20) : MetC l E yX8_tries cX8_tries 9 (some .int) 3 69 [rv E (12), iv (p), iv (h), iv (b)] σ (fun v σ' => v = some (iv (trF r p.toNat (energyR r h) b.toNat ft).2) ∧ FR σ' 24 (r 19).toNat (trF r p.toNat (energyR r h) b.toNat ft).1 ∧ ∀ y, y ≠ 24 → σ' y = σ y) := by
  refine MetC.of (own := RX8) (by decide) rfl (by simp [Value.category]) (Nat.le_of_ble_eq_true rfl) [some (rv E (12)), some (iv (p)), some (iv (h)), some (iv (b)), none, none, none, none, none] rfl (by simp) (fun K X R => ?_)
  have r19 := hR.2.2.2.2.1
  have r0 := hR.1
  have rN := hR.2.2.2.2.2.1
  refine g_iconst X dX8_tries_0 ?_
  refine g_istore X (lw := [some (rv E (12)), some (iv (p)), some (iv (h)), some (iv (b)), some (iv (0)), none, none, none, none]) dX8_tries_1 (by decide) rfl rfl ?_
  refine g_iconst X dX8_tries_3 ?_
  refine g_istore X (lw := [some (rv E (12)), some (iv (p)), some (iv (h)), some (iv (b)), some (iv (0)), some (iv (0)), none, none, none]) dX8_tries_4 (by decide) rfl rfl ?_
  have L1 : ∀ (fu : Nat) (τ : Mem) (f : Ft) (m n : Int), (0 ≤ n) → (n ≤ b) → (trF r p.toNat (energyR r h) b.toNat ft = ((trF r p.toNat (energyR r h) (b - n).toNat f).1, m + (trF r p.toNat (energyR r h) (b - n).toNat f).2)) → (FR τ 24 (r 19).toNat f) → (FB r f) → (∀ y, y ≠ 24 → τ y = σ y) → b - n < (fu : Int) → K τ 6 [some (rv E (12)), some (iv (p)), some (iv (h)), some (iv (b)), some (iv (m)), some (iv (n)), none, none, none] [] := by
    intro fu
    induction fu with
    | zero =>
      intro τ f m n j1 j2 j7 jF jB jf hm
      exact absurd hm (by omega)
    | succ fu ih1 =>
      intro τ f m n j1 j2 j7 jF jB jf hm
      have hfx := jB p.toNat (by omega)
      have hpx := (hR.2.2.2.2.2.2 p.toNat (by omega)).f
      have jM : RR τ r := hM.fr (jf 13 (by decide)) (jf 15 (by decide))
      refine g_iload X dX8_tries_6 rfl ?_
      refine g_iload_n X dX8_tries_8 rfl ?_
      refine g_icmp_ge X (tgt := 133) dX8_tries_9 (by decide) ⟨by omega, by omega⟩ ⟨by omega, by omega⟩ (fun c2 => ?_) (fun c2 => ?_)
      · skip
        refine g_iload X dX8_tries_133 rfl ?_
        exact R _ _ _ _ dX8_tries_135 (by have t : trF r p.toNat (energyR r h) b.toNat ft = (f, m) := by { rw [j7]; first | (rw [show (b - n).toNat = 0 by omega]; exact Prod.ext rfl (by show m + 0 = m; omega)) | (rw [trF_end (by omega)]; exact Prod.ext rfl (by show m + 0 = m; omega)) }; rw [t]; exact ⟨rfl, jF, jf⟩)
      · skip
        refine g_aload_n X dX8_tries_12 rfl ?_
        refine gf_X8_44 X fk12 dX8_tries_13 ?_
        refine g_iload_n X dX8_tries_16 rfl ?_
        refine g_iald X fk24 fl24 (by omega) (by omega) (by decide) (show τ 24 ((p).toNat) = f p.toNat from jF p.toNat (by omega)) dX8_tries_17 ?_
        refine g_aload_n X dX8_tries_18 rfl ?_
        refine g_iload_n X dX8_tries_19 rfl ?_
        refine g_iconst X dX8_tries_20 ?_
        refine cl_X8_62 X (c0_X8_of l E τ p 2 (24 + 91 * p.toNat + 2) (by omega) (by omega) (by omega)) fk12 ⟨Nat.le_of_ble_eq_true rfl, Nat.le_of_ble_eq_true rfl⟩ rfl (Nat.le_of_ble_eq_true rfl) dX8_tries_21 rfl (fun v3 τ4 p5 => ?_)
        obtain ⟨rfl, rfl⟩ := p5
        rw [show τ 13 (24 + 91 * p.toNat + 2) = r (24 + 91 * p.toNat + 2) from (jM.at (n := (24 + 91 * p.toNat + 2)) (by omega) (by omega))]
        refine g_icmp_ge X (tgt := 133) dX8_tries_24 (by decide) ⟨by omega, by omega⟩ ⟨by omega, by omega⟩ (fun c6 => ?_) (fun c6 => ?_)
        · skip
          refine g_iload X dX8_tries_133 rfl ?_
          exact R _ _ _ _ dX8_tries_135 (by have t : trF r p.toNat (energyR r h) b.toNat ft = (f, m) := by { rw [j7]; first | (rw [show (b - n).toNat = 0 by omega]; exact Prod.ext rfl (by show m + 0 = m; omega)) | (rw [trF_end (by omega)]; exact Prod.ext rfl (by show m + 0 = m; omega)) }; rw [t]; exact ⟨rfl, jF, jf⟩)
        · skip
          refine g_aload_n X dX8_tries_27 rfl ?_
          refine g_iload_n X dX8_tries_28 rfl ?_
          refine g_aload_n X dX8_tries_29 rfl ?_
          refine gf_X8_44 X fk12 dX8_tries_30 ?_
          refine g_iload_n X dX8_tries_33 rfl ?_
          refine g_iald X fk24 fl24 (by omega) (by omega) (by decide) (show τ 24 ((p).toNat) = f p.toNat from jF p.toNat (by omega)) dX8_tries_34 ?_
          refine g_iload_n X dX8_tries_35 rfl ?_
          refine cl_X8_128 X (c_X8_setAt l E τ r N jM hR p (f p.toNat) h (by omega) (by omega) (by omega) (by omega) (by omega)) fk12 ⟨Nat.le_of_ble_eq_true rfl, Nat.le_of_ble_eq_true rfl⟩ rfl (Nat.le_of_ble_eq_true rfl) dX8_tries_36 rfl (fun v7 τ8 p9 => ?_)
          obtain ⟨rfl, rfl⟩ := p9
          have sb36 := setR_bd r (energyR r h) (f p.toNat) (r (24 + 91 * p.toNat + 2)) (by omega)
          refine g_istore X (lw := [some (rv E (12)), some (iv (p)), some (iv (h)), some (iv (b)), some (iv (m)), some (iv (n)), some (iv (setR r (energyR r h) (f p.toNat) (r (24 + 91 * p.toNat + 2)))), none, none]) dX8_tries_39 (by decide) rfl rfl ?_
          refine g_aload_n X dX8_tries_41 rfl ?_
          refine gf_X8_44 X fk12 dX8_tries_42 ?_
          refine g_iload_n X dX8_tries_45 rfl ?_
          refine g_dup2 X dX8_tries_46 rfl rfl ?_
          refine g_iald X fk24 fl24 (by omega) (by omega) (by decide) (show τ 24 ((p).toNat) = f p.toNat from jF p.toNat (by omega)) dX8_tries_47 ?_
          refine g_iload X dX8_tries_48 rfl ?_
          refine g_iadd X dX8_tries_50 ?_
          refine g_iast X fk24 fl24 (by omega) (by omega) (by decide) dX8_tries_51 ?_
          refine g_iconst X dX8_tries_52 ?_
          refine g_istore X (lw := [some (rv E (12)), some (iv (p)), some (iv (h)), some (iv (b)), some (iv (m)), some (iv (n)), some (iv (setR r (energyR r h) (f p.toNat) (r (24 + 91 * p.toNat + 2)))), some (iv (0)), none]) dX8_tries_53 (by decide) rfl rfl ?_
          have L10 : ∀ (fu : Nat) (χ : Mem) (g : Ft) (d : Int) (m1 q : Int), (0 ≤ q) → (q ≤ r 19) → (liftsF r p.toNat (f p.toNat + setR r (energyR r h) (f p.toNat) (r (24 + 91 * p.toNat + 2))) (byR r (setR r (energyR r h) (f p.toNat) (r (24 + 91 * p.toNat + 2)))) (putN f p.toNat (f p.toNat + setR r (energyR r h) (f p.toNat) (r (24 + 91 * p.toNat + 2)))) q.toNat = (g, d)) → (m1 = m + d) → (FR χ 24 (r 19).toNat g) → (∀ y, y ≠ 24 → χ y = τ y) → r 19 - q < (fu : Int) → K χ 55 [some (rv E (12)), some (iv (p)), some (iv (h)), some (iv (b)), some (iv (m1)), some (iv (n)), some (iv (setR r (energyR r h) (f p.toNat) (r (24 + 91 * p.toNat + 2)))), some (iv (q)), none] [] := by
            intro fu
            induction fu with
            | zero =>
              intro χ g d m1 q k1 k2 kx km kF kf hm
              exact absurd hm (by omega)
            | succ fu ih10 =>
              intro χ g d m1 q k1 k2 kx km kF kf hm
              have kM : RR χ r := jM.fr (kf 13 (by decide)) (kf 15 (by decide))
              have kown : g p.toNat = (f p.toNat + setR r (energyR r h) (f p.toNat) (r (24 + 91 * p.toNat + 2))) := by have z := liftsF_own (r := r) (p := p.toNat) (b := (f p.toNat + setR r (energyR r h) (f p.toNat) (r (24 + 91 * p.toNat + 2)))) (z := (byR r (setR r (energyR r h) (f p.toNat) (r (24 + 91 * p.toNat + 2))))) (ft := (putN f p.toNat (f p.toNat + setR r (energyR r h) (f p.toNat) (r (24 + 91 * p.toNat + 2))))) q.toNat; rw [kx] at z; exact z.trans (by unfold putN; rw [if_pos rfl])
              have kB := (liftsF_b (r := r) (p := p.toNat) (b := (f p.toNat + setR r (energyR r h) (f p.toNat) (r (24 + 91 * p.toNat + 2)))) (z := (byR r (setR r (energyR r h) (f p.toNat) (r (24 + 91 * p.toNat + 2))))) (ft := (putN f p.toNat (f p.toNat + setR r (energyR r h) (f p.toNat) (r (24 + 91 * p.toNat + 2))))) (byR_bd hR (s := setR r (energyR r h) (f p.toNat) (r (24 + 91 * p.toNat + 2))) (by omega) (by omega)).2.1 (putN_b jB (fun _ => by omega)) q.toNat (by omega)).1
              rw [kx] at kB
              replace kB : FB r g := kB
              have kBq := kB q.toNat
              have hpq : q < r 19 → _ := fun z => (hR.2.2.2.2.2.2 q.toNat (by omega)).f
              refine g_iload X dX8_tries_55 rfl ?_
              refine g_aload_n X dX8_tries_57 rfl ?_
              refine gf_X8_7 X fk12 dX8_tries_58 ?_
              refine g_bipush X dX8_tries_61 (by decide) ?_
              refine g_iald X fk13 fl13 (by omega) (by omega) (by decide) (kM.at (n := 19) (by omega) (by omega)) dX8_tries_63 ?_
              refine g_icmp_ge X (tgt := 127) dX8_tries_64 (by decide) ⟨by omega, by omega⟩ ⟨by omega, by omega⟩ (fun c11 => ?_) (fun c11 => ?_)
              · skip
                refine g_iinc X (lw := [some (rv E (12)), some (iv (p)), some (iv (h)), some (iv (b)), some (iv (m1)), some (iv (n + 1)), some (iv (setR r (energyR r h) (f p.toNat) (r (24 + 91 * p.toNat + 2)))), some (iv (q)), none]) dX8_tries_127 rfl (by decide) rfl rfl ?_
                refine g_goto X (tgt := 6) dX8_tries_130 (by decide) ?_
                refine g_kill X 6 (lw := [some (rv E (12)), some (iv (p)), some (iv (h)), some (iv (b)), some (iv (m1)), some (iv (n + 1)), none, some (iv (q)), none]) rfl ?_
                refine g_kill X 7 (lw := [some (rv E (12)), some (iv (p)), some (iv (h)), some (iv (b)), some (iv (m1)), some (iv (n + 1)), none, none, none]) rfl ?_
                exact ih1 χ g m1 (n + 1) (by omega) (by omega) (by have e : blF r p.toNat (energyR r h) f = (g, d) := (by rw [← kx, show q.toNat = (r 19).toNat by omega]; rfl); rw [j7, show (b - n).toNat = (b - (n + 1)).toNat + 1 by omega, trF_go (by omega), e]; exact Prod.ext rfl (by simp only []; omega)) (by exact kF) (by have e : blF r p.toNat (energyR r h) f = (g, d) := (by rw [← kx, show q.toNat = (r 19).toNat by omega]; rfl); have z := (blF_b hR (p := p.toNat) (e := energyR r h) (ft := f) jB (by omega)).1; rw [e] at z; exact z) (by intro y hy; rw [kf y hy]; exact jf y hy) (by omega)
              · skip
                refine g_aload_n X dX8_tries_67 rfl ?_
                refine g_iload_n X dX8_tries_68 rfl ?_
                refine g_iload X dX8_tries_69 rfl ?_
                refine cl_X8_100 X (c_X8_areNear l E χ r N kM hR p q (by omega) (by omega)) fk12 ⟨Nat.le_of_ble_eq_true rfl, Nat.le_of_ble_eq_true rfl⟩ rfl (Nat.le_of_ble_eq_true rfl) dX8_tries_71 rfl (fun v12 τ13 p14 => ?_)
                obtain ⟨rfl, ⟨b15, rfl⟩ | ⟨b15, rfl⟩⟩ := p14
                · skip
                  skip
                  refine g_if_eq X (tgt := 99) dX8_tries_74 (by decide) ⟨by decide, by decide⟩ (fun q => absurd q (by decide)) (fun _ => ?_)
                  refine g_aload_n X dX8_tries_77 rfl ?_
                  refine g_iload X dX8_tries_78 rfl ?_
                  refine g_aload_n X dX8_tries_80 rfl ?_
                  refine gf_X8_44 X fk12 dX8_tries_81 ?_
                  refine g_iload_n X dX8_tries_84 rfl ?_
                  refine g_iald X fk24 fl24 (by omega) (by omega) (by decide) (show χ 24 ((p).toNat) = (f p.toNat + setR r (energyR r h) (f p.toNat) (r (24 + 91 * p.toNat + 2))) from (kF p.toNat (by omega)).trans kown) dX8_tries_85 ?_
                  refine g_aload_n X dX8_tries_86 rfl ?_
                  refine gf_X8_44 X fk12 dX8_tries_87 ?_
                  refine g_iload X dX8_tries_90 rfl ?_
                  refine g_iald X fk24 fl24 (by omega) (by omega) (by decide) (show χ 24 ((q).toNat) = g q.toNat from kF q.toNat (by omega)) dX8_tries_92 ?_
                  refine cl_X8_124 X (c_X8_liftOf l E χ r N kM hR (setR r (energyR r h) (f p.toNat) (r (24 + 91 * p.toNat + 2))) ((f p.toNat + setR r (energyR r h) (f p.toNat) (r (24 + 91 * p.toNat + 2)))) (g q.toNat) (by omega) ⟨by omega, by omega⟩ (by omega)) fk12 ⟨Nat.le_of_ble_eq_true rfl, Nat.le_of_ble_eq_true rfl⟩ rfl (Nat.le_of_ble_eq_true rfl) dX8_tries_93 rfl (fun v16 τ17 p18 => ?_)
                  obtain ⟨rfl, rfl⟩ := p18
                  have lb93 : 0 ≤ liftR (g q.toNat) ((f p.toNat + setR r (energyR r h) (f p.toNat) (r (24 + 91 * p.toNat + 2)))) (byR r (setR r (energyR r h) (f p.toNat) (r (24 + 91 * p.toNat + 2)))) ∧ liftR (g q.toNat) ((f p.toNat + setR r (energyR r h) (f p.toNat) (r (24 + 91 * p.toNat + 2)))) (byR r (setR r (energyR r h) (f p.toNat) (r (24 + 91 * p.toNat + 2)))) ≤ byR r (setR r (energyR r h) (f p.toNat) (r (24 + 91 * p.toNat + 2))) ∧ liftR (g q.toNat) ((f p.toNat + setR r (energyR r h) (f p.toNat) (r (24 + 91 * p.toNat + 2)))) (byR r (setR r (energyR r h) (f p.toNat) (r (24 + 91 * p.toNat + 2)))) ≤ (g q.toNat) := by have q := (byR_bd hR (s := setR r (energyR r h) (f p.toNat) (r (24 + 91 * p.toNat + 2))) (by omega) (by omega)).2; unfold liftR; split <;> omega
                  refine g_goto X (tgt := 100) dX8_tries_96 (by decide) ?_
                  have bye : byF r p.toNat (f p.toNat + setR r (energyR r h) (f p.toNat) (r (24 + 91 * p.toNat + 2))) (byR r (setR r (energyR r h) (f p.toNat) (r (24 + 91 * p.toNat + 2)))) g q.toNat = liftR (g q.toNat) ((f p.toNat + setR r (energyR r h) (f p.toNat) (r (24 + 91 * p.toNat + 2)))) (byR r (setR r (energyR r h) (f p.toNat) (r (24 + 91 * p.toNat + 2)))) := by unfold byF; first | (rw [if_pos (by assumption)]; done) | (rw [if_neg (by assumption)]; done)
                  refine g_istore X (lw := [some (rv E (12)), some (iv (p)), some (iv (h)), some (iv (b)), some (iv (m1)), some (iv (n)), some (iv (setR r (energyR r h) (f p.toNat) (r (24 + 91 * p.toNat + 2)))), some (iv (q)), some (iv (liftR (g q.toNat) ((f p.toNat + setR r (energyR r h) (f p.toNat) (r (24 + 91 * p.toNat + 2)))) (byR r (setR r (energyR r h) (f p.toNat) (r (24 + 91 * p.toNat + 2))))))]) dX8_tries_100 (by decide) rfl rfl ?_
                  refine g_aload_n X dX8_tries_102 rfl ?_
                  refine gf_X8_44 X fk12 dX8_tries_103 ?_
                  refine g_iload X dX8_tries_106 rfl ?_
                  refine g_dup2 X dX8_tries_108 rfl rfl ?_
                  refine g_iald X fk24 fl24 (by omega) (by omega) (by decide) (show χ 24 ((q).toNat) = g q.toNat from kF q.toNat (by omega)) dX8_tries_109 ?_
                  refine g_iload X dX8_tries_110 rfl ?_
                  refine g_isub X dX8_tries_112 ?_
                  refine g_iast X fk24 fl24 (by omega) (by omega) (by decide) dX8_tries_113 ?_
                  refine g_iload X dX8_tries_114 rfl ?_
                  refine g_iload X dX8_tries_116 rfl ?_
                  refine g_iadd X dX8_tries_118 ?_
                  refine g_istore X (lw := [some (rv E (12)), some (iv (p)), some (iv (h)), some (iv (b)), some (iv (m1 + (liftR (g q.toNat) ((f p.toNat + setR r (energyR r h) (f p.toNat) (r (24 + 91 * p.toNat + 2)))) (byR r (setR r (energyR r h) (f p.toNat) (r (24 + 91 * p.toNat + 2))))))), some (iv (n)), some (iv (setR r (energyR r h) (f p.toNat) (r (24 + 91 * p.toNat + 2)))), some (iv (q)), some (iv (liftR (g q.toNat) ((f p.toNat + setR r (energyR r h) (f p.toNat) (r (24 + 91 * p.toNat + 2)))) (byR r (setR r (energyR r h) (f p.toNat) (r (24 + 91 * p.toNat + 2))))))]) dX8_tries_119 (by decide) rfl rfl ?_
                  refine g_iinc X (lw := [some (rv E (12)), some (iv (p)), some (iv (h)), some (iv (b)), some (iv (m1 + (liftR (g q.toNat) ((f p.toNat + setR r (energyR r h) (f p.toNat) (r (24 + 91 * p.toNat + 2)))) (byR r (setR r (energyR r h) (f p.toNat) (r (24 + 91 * p.toNat + 2))))))), some (iv (n)), some (iv (setR r (energyR r h) (f p.toNat) (r (24 + 91 * p.toNat + 2)))), some (iv (q + 1)), some (iv (liftR (g q.toNat) ((f p.toNat + setR r (energyR r h) (f p.toNat) (r (24 + 91 * p.toNat + 2)))) (byR r (setR r (energyR r h) (f p.toNat) (r (24 + 91 * p.toNat + 2))))))]) dX8_tries_121 rfl (by decide) rfl rfl ?_
                  refine g_goto X (tgt := 55) dX8_tries_124 (by decide) ?_
                  refine g_kill X 8 (lw := [some (rv E (12)), some (iv (p)), some (iv (h)), some (iv (b)), some (iv (m1 + (liftR (g q.toNat) ((f p.toNat + setR r (energyR r h) (f p.toNat) (r (24 + 91 * p.toNat + 2)))) (byR r (setR r (energyR r h) (f p.toNat) (r (24 + 91 * p.toNat + 2))))))), some (iv (n)), some (iv (setR r (energyR r h) (f p.toNat) (r (24 + 91 * p.toNat + 2)))), some (iv (q + 1)), none]) rfl ?_
                  exact ih10 (up χ 24 ((q).toNat) (g q.toNat - (liftR (g q.toNat) ((f p.toNat + setR r (energyR r h) (f p.toNat) (r (24 + 91 * p.toNat + 2)))) (byR r (setR r (energyR r h) (f p.toNat) (r (24 + 91 * p.toNat + 2))))))) ((putN g q.toNat (g q.toNat - byF r p.toNat (f p.toNat + setR r (energyR r h) (f p.toNat) (r (24 + 91 * p.toNat + 2))) (byR r (setR r (energyR r h) (f p.toNat) (r (24 + 91 * p.toNat + 2)))) g q.toNat))) ((d + byF r p.toNat (f p.toNat + setR r (energyR r h) (f p.toNat) (r (24 + 91 * p.toNat + 2))) (byR r (setR r (energyR r h) (f p.toNat) (r (24 + 91 * p.toNat + 2)))) g q.toNat)) (m1 + (liftR (g q.toNat) ((f p.toNat + setR r (energyR r h) (f p.toNat) (r (24 + 91 * p.toNat + 2)))) (byR r (setR r (energyR r h) (f p.toNat) (r (24 + 91 * p.toNat + 2)))))) (q + 1) (by omega) (by omega) (by rw [show (q + 1).toNat = q.toNat + 1 by omega, liftsF, kx]; rfl) (by rw [bye]; omega) (by rw [bye]; exact kF.put) (by intro y hy; rw [up_neC _ _ hy]; exact kf y hy) (by omega)
                · skip
                  skip
                  refine g_if_eq X (tgt := 99) dX8_tries_74 (by decide) ⟨by decide, by decide⟩ (fun _ => ?_) (fun q => absurd q (by decide))
                  refine g_iconst X dX8_tries_99 ?_
                  have bye : byF r p.toNat (f p.toNat + setR r (energyR r h) (f p.toNat) (r (24 + 91 * p.toNat + 2))) (byR r (setR r (energyR r h) (f p.toNat) (r (24 + 91 * p.toNat + 2)))) g q.toNat = 0 := by unfold byF; first | (rw [if_pos (by assumption)]; done) | (rw [if_neg (by assumption)]; done)
                  refine g_istore X (lw := [some (rv E (12)), some (iv (p)), some (iv (h)), some (iv (b)), some (iv (m1)), some (iv (n)), some (iv (setR r (energyR r h) (f p.toNat) (r (24 + 91 * p.toNat + 2)))), some (iv (q)), some (iv (0))]) dX8_tries_100 (by decide) rfl rfl ?_
                  refine g_aload_n X dX8_tries_102 rfl ?_
                  refine gf_X8_44 X fk12 dX8_tries_103 ?_
                  refine g_iload X dX8_tries_106 rfl ?_
                  refine g_dup2 X dX8_tries_108 rfl rfl ?_
                  refine g_iald X fk24 fl24 (by omega) (by omega) (by decide) (show χ 24 ((q).toNat) = g q.toNat from kF q.toNat (by omega)) dX8_tries_109 ?_
                  refine g_iload X dX8_tries_110 rfl ?_
                  refine g_isub X dX8_tries_112 ?_
                  refine g_iast X fk24 fl24 (by omega) (by omega) (by decide) dX8_tries_113 ?_
                  refine g_iload X dX8_tries_114 rfl ?_
                  refine g_iload X dX8_tries_116 rfl ?_
                  refine g_iadd X dX8_tries_118 ?_
                  refine g_istore X (lw := [some (rv E (12)), some (iv (p)), some (iv (h)), some (iv (b)), some (iv (m1 + 0)), some (iv (n)), some (iv (setR r (energyR r h) (f p.toNat) (r (24 + 91 * p.toNat + 2)))), some (iv (q)), some (iv (0))]) dX8_tries_119 (by decide) rfl rfl ?_
                  refine g_iinc X (lw := [some (rv E (12)), some (iv (p)), some (iv (h)), some (iv (b)), some (iv (m1 + 0)), some (iv (n)), some (iv (setR r (energyR r h) (f p.toNat) (r (24 + 91 * p.toNat + 2)))), some (iv (q + 1)), some (iv (0))]) dX8_tries_121 rfl (by decide) rfl rfl ?_
                  refine g_goto X (tgt := 55) dX8_tries_124 (by decide) ?_
                  refine g_kill X 8 (lw := [some (rv E (12)), some (iv (p)), some (iv (h)), some (iv (b)), some (iv (m1 + 0)), some (iv (n)), some (iv (setR r (energyR r h) (f p.toNat) (r (24 + 91 * p.toNat + 2)))), some (iv (q + 1)), none]) rfl ?_
                  exact ih10 (up χ 24 ((q).toNat) (g q.toNat - 0)) ((putN g q.toNat (g q.toNat - byF r p.toNat (f p.toNat + setR r (energyR r h) (f p.toNat) (r (24 + 91 * p.toNat + 2))) (byR r (setR r (energyR r h) (f p.toNat) (r (24 + 91 * p.toNat + 2)))) g q.toNat))) ((d + byF r p.toNat (f p.toNat + setR r (energyR r h) (f p.toNat) (r (24 + 91 * p.toNat + 2))) (byR r (setR r (energyR r h) (f p.toNat) (r (24 + 91 * p.toNat + 2)))) g q.toNat)) (m1 + 0) (q + 1) (by omega) (by omega) (by rw [show (q + 1).toNat = q.toNat + 1 by omega, liftsF, kx]; rfl) (by rw [bye]; omega) (by rw [bye]; exact kF.put) (by intro y hy; rw [up_neC _ _ hy]; exact kf y hy) (by omega)
          exact L10 _ (up τ 24 ((p).toNat) (f p.toNat + (setR r (energyR r h) (f p.toNat) (r (24 + 91 * p.toNat + 2))))) ((putN f p.toNat (f p.toNat + setR r (energyR r h) (f p.toNat) (r (24 + 91 * p.toNat + 2))))) 0 m 0 (by omega) (by omega) (by rfl) (by omega) (by exact jF.put) (by intro y hy; rw [up_neC _ _ hy]) (by exact Int.lt_toNat_succ _)
  exact L1 _ σ ft 0 0 (by omega) (by omega) (by rw [show (b - 0).toNat = b.toNat by omega]; exact Prod.ext rfl (by show _ = 0 + _; omega)) (by exact hF) (by exact hFB) (by intro y _; rfl) (by exact Int.lt_toNat_succ _)
