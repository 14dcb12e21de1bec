/-! ===== contracts: the search for an order, of the reference ===== -/
set_option maxHeartbeats 1000000 in
set_option maxRecDepth 100000 in
theorem c_X8_findOrder (l : Launch) (E : wEnv) (σ : Mem) (r : Row) (N : Int) (hM : RR σ r) (hR : RInv r N) (h5 : (freshL r).length < 6) (hL : LstR σ 12 12 21 (freshP r) (r 19).toNat) (h b : Int) (h0 : 100 ≤ h ∧ h ≤ 3000) (hb : 1 ≤ b ∧ b ≤ 20) : MetC l E yX8_findOrder cX8_findOrder 7 none 4 97 [rv E (12), iv (h), iv (b)] σ (fun v σ' => v = none ∧ frQ σ σ' ∧ σ' 12 12 = ((((freshL r).length) : Nat) : Int) ∧ σ' 12 16 = (lastB r h b.toNat).1 ∧ ∀ j, j < (freshL r).length → σ' 23 j = ((rowN r (lastB r h b.toNat).2 j : Nat) : Int)) := by
  refine MetC.of (own := RX8) (by decide) rfl (by simp [Value.category]) (Nat.le_of_ble_eq_true rfl) [some (rv E (12)), some (iv (h)), some (iv (b)), none, none, none, none] rfl (by simp) (fun K X R => ?_)
  have r19 := hR.2.2.2.2.1
  have r0 := hR.1
  have rN := hR.2.2.2.2.2.1
  refine g_iconst X dX8_findOrder_0 ?_
  refine g_istore_n X (lw := [some (rv E (12)), some (iv (h)), some (iv (b)), some (iv (1)), none, none, none]) dX8_findOrder_1 (by decide) rfl rfl ?_
  refine g_iconst X dX8_findOrder_2 ?_
  refine g_istore X (lw := [some (rv E (12)), some (iv (h)), some (iv (b)), some (iv (1)), some (iv (2)), none, none]) dX8_findOrder_3 (by decide) rfl rfl ?_
  have L1 : ∀ (fu : Nat) (al k : Int), (2 ≤ k) → (k ≤ ((((freshL r).length) : Nat) : Int) + 1 ∨ k = 2) → (al = ((fac (k - 1).toNat : Nat) : Int)) → ((((freshL r).length) : Nat) : Int) + 2 - k < (fu : Int) → K σ 5 [some (rv E (12)), some (iv (h)), some (iv (b)), some (iv (al)), some (iv (k)), none, none] [] := by
    intro fu
    induction fu with
    | zero =>
      intro al k a1 a2 a3 hm
      exact absurd hm (by omega)
    | succ fu ih1 =>
      intro al k a1 a2 a3 hm
      refine g_iload X dX8_findOrder_5 rfl ?_
      refine g_aload_n X dX8_findOrder_7 rfl ?_
      refine gf_X8_158 X fk12 (show σ 12 12 = ((((freshL r).length) : Nat) : Int) from hL.1) dX8_findOrder_8 ?_
      refine g_icmp_gt X (tgt := 25) dX8_findOrder_11 (by decide) ⟨by omega, by omega⟩ ⟨by omega, by omega⟩ (fun c2 => ?_) (fun c2 => ?_)
      · skip
        have ha : al = ((fac (freshL r).length : Nat) : Int) := by rw [a3]; rcases (show (k - 1).toNat = (freshL r).length ∨ ((k - 1).toNat = 1 ∧ (freshL r).length = 0) by omega) with z | ⟨z1, z2⟩; rw [z]; rw [z1, z2]; rfl
        subst ha
        refine g_iconst X dX8_findOrder_25 ?_
        refine g_istore X (lw := [some (rv E (12)), some (iv (h)), some (iv (b)), some (iv (((fac (freshL r).length : Nat) : Int))), some (iv (0)), none, none]) dX8_findOrder_26 (by decide) rfl rfl ?_
        have L3 : ∀ (fu : Nat) (χ : Mem) (num : Int), (0 ≤ num ∧ num ≤ ((fac (freshL r).length : Nat) : Int)) → (frQ σ χ) → (LstR χ 12 12 21 (freshP r) (r 19).toNat) → (1 ≤ num → χ 12 16 = (bestF r h b.toNat (num - 1).toNat).1 ∧ ∀ j, j < (freshL r).length → χ 23 j = ((rowN r (bestF r h b.toNat (num - 1).toNat).2 j : Nat) : Int)) → ((fac (freshL r).length : Nat) : Int) - num < (fu : Int) → K χ 28 [some (rv E (12)), some (iv (h)), some (iv (b)), some (iv (((fac (freshL r).length : Nat) : Int))), some (iv (num)), none, none] [] := by
          intro fu
          induction fu with
          | zero =>
            intro χ num b1 bf bL bB hm
            exact absurd hm (by omega)
          | succ fu ih3 =>
            intro χ num b1 bf bL bB hm
            have bM : RR χ r := hM.fQ bf
            have fb := fac_bd _ h5
            have bbx := best_b hR h5 (h := h) (b := b.toNat) (by omega) (num - 1).toNat
            have b16 : 1 ≤ num → -2147483648 ≤ χ 12 16 ∧ χ 12 16 < 2147483648 := fun q => by have z := (bB q).1; have z2 := bbx (by omega); omega
            have bB1 : 1 ≤ num → χ 12 16 = (bestF r h b.toNat (num - 1).toNat).1 := fun q => (bB q).1
            refine g_iload X dX8_findOrder_28 rfl ?_
            refine g_iload_n X dX8_findOrder_30 rfl ?_
            refine g_icmp_ge X (tgt := 173) dX8_findOrder_31 (by decide) ⟨by omega, by omega⟩ ⟨by omega, by omega⟩ (fun c4 => ?_) (fun c4 => ?_)
            · skip
              exact R _ _ _ dX8_findOrder_173 (by have q := bB (by have := fac_bd _ h5; omega); rw [show (num - 1).toNat = fac (freshL r).length - 1 by omega] at q; exact ⟨rfl, bf, bL.1, q.1, q.2⟩)
            · skip
              refine g_aload_n X dX8_findOrder_34 rfl ?_
              refine g_iload X dX8_findOrder_35 rfl ?_
              refine g_iload_n X dX8_findOrder_37 rfl ?_
              refine cl_X8_161 X (c_X8_layRow l E χ (freshL r).length num.toNat h5 (by omega) (fun i => (((freshL r).getD i 0 : Nat) : Int)) bL.1 (fun i hi => bL.2 i hi) num (((fac (freshL r).length : Nat) : Int)) (by omega) rfl) fk12 ⟨Nat.le_of_ble_eq_true rfl, Nat.le_of_ble_eq_true rfl⟩ rfl (Nat.le_of_ble_eq_true rfl) dX8_findOrder_38 rfl (fun v5 τ6 p7 => ?_)
              obtain ⟨rfl, l22, lf⟩ := p7
              replace l22 : ∀ j, j < (freshL r).length → τ6 22 j = ((rowN r num.toNat j : Nat) : Int) := l22
              have lM : RR τ6 r := bM.fr (lf 13 (by decide)) (lf 15 (by decide))
              obtain ⟨η, hη⟩ : ∃ z, z = τ6 := ⟨_, rfl⟩
              rw [← hη]
              rw [← hη] at l22 lf lM
              refine g_iconst X dX8_findOrder_41 ?_
              refine g_istore X (lw := [some (rv E (12)), some (iv (h)), some (iv (b)), some (iv (((fac (freshL r).length : Nat) : Int))), some (iv (num)), some (iv (0)), none]) dX8_findOrder_42 (by decide) rfl rfl ?_
              have L8 : ∀ (fu : Nat) (ψ : Mem) (p : Int), (0 ≤ p) → (p ≤ r 19) → (∀ q : Nat, (q : Int) < p → ψ 24 q = feet0 r q) → (∀ y, y ≠ 24 → ψ y = η y) → r 19 - p < (fu : Int) → K ψ 44 [some (rv E (12)), some (iv (h)), some (iv (b)), some (iv (((fac (freshL r).length : Nat) : Int))), some (iv (num)), some (iv (p)), none] [] := by
                intro fu
                induction fu with
                | zero =>
                  intro ψ p i1 i2 iF jf0 hm
                  exact absurd hm (by omega)
                | succ fu ih8 =>
                  intro ψ p i1 i2 iF jf0 hm
                  have pM : RR ψ r := lM.fr (jf0 13 (by decide)) (jf0 15 (by decide))
                  have ppi : p < r 19 → _ := fun q => (hR.2.2.2.2.2.2 p.toNat (by omega)).f
                  refine g_iload X dX8_findOrder_44 rfl ?_
                  refine g_aload_n X dX8_findOrder_46 rfl ?_
                  refine gf_X8_7 X fk12 dX8_findOrder_47 ?_
                  refine g_bipush X dX8_findOrder_50 (by decide) ?_
                  refine g_iald X fk13 fl13 (by omega) (by omega) (by decide) (pM.at (n := 19) (by omega) (by omega)) dX8_findOrder_52 ?_
                  refine g_icmp_ge X (tgt := 76) dX8_findOrder_53 (by decide) ⟨by omega, by omega⟩ ⟨by omega, by omega⟩ (fun c9 => ?_) (fun c9 => ?_)
                  · skip
                    refine g_iconst X dX8_findOrder_76 ?_
                    refine g_istore X (lw := [some (rv E (12)), some (iv (h)), some (iv (b)), some (iv (((fac (freshL r).length : Nat) : Int))), some (iv (num)), some (iv (0)), none]) dX8_findOrder_77 (by decide) rfl rfl ?_
                    refine g_iconst X dX8_findOrder_79 ?_
                    refine g_istore X (lw := [some (rv E (12)), some (iv (h)), some (iv (b)), some (iv (((fac (freshL r).length : Nat) : Int))), some (iv (num)), some (iv (0)), some (iv (0))]) dX8_findOrder_80 (by decide) rfl rfl ?_
                    have L10 : ∀ (fu : Nat) (ω : Mem) (f : Ft) (sm k : Int), (0 ≤ k) → (k ≤ ((((freshL r).length) : Nat) : Int)) → (rowF r (energyR r h) b.toNat (feet0 r) (rowN r num.toNat) k.toNat = (f, sm)) → (FR ω 24 (r 19).toNat f) → (FB r f) → (∀ y, y ≠ 24 → ω y = η y) → (0 ≤ sm ∧ sm ≤ 50000 * k) → ((((freshL r).length) : Nat) : Int) - k < (fu : Int) → K ω 82 [some (rv E (12)), some (iv (h)), some (iv (b)), some (iv (((fac (freshL r).length : Nat) : Int))), some (iv (num)), some (iv (sm)), some (iv (k))] [] := by
                      intro fu
                      induction fu with
                      | zero =>
                        intro ω f sm k k1 k2 j7 jF jB jf jm hm
                        exact absurd hm (by omega)
                      | succ fu ih10 =>
                        intro ω f sm k k1 k2 j7 jF jB jf jm hm
                        have oM : RR ω r := lM.fr (jf 13 (by decide)) (jf 15 (by decide))
                        have rl : k < ((((freshL r).length) : Nat) : Int) → ((rowN r num.toNat k.toNat : Nat) : Int) < r 19 := fun q => row_lt h5 (by omega) (by omega)
                        refine g_iload X dX8_findOrder_82 rfl ?_
                        refine g_aload_n X dX8_findOrder_84 rfl ?_
                        refine gf_X8_158 X fk12 (show ω 12 12 = ((((freshL r).length) : Nat) : Int) from ((congrFun (jf 12 (by decide)) 12).trans ((congrFun (lf 12 (by decide)) 12).trans bL.1))) dX8_findOrder_85 ?_
                        refine g_icmp_ge X (tgt := 115) dX8_findOrder_88 (by decide) ⟨by omega, by omega⟩ ⟨by omega, by omega⟩ (fun c11 => ?_) (fun c11 => ?_)
                        · skip
                          have hT : totF r h b.toNat num.toNat = sm := by unfold totF; rw [show (freshL r).length = k.toNat by omega, j7]
                          have tb := tot_b hR h5 (m := num.toNat) (by omega) (h := h) (b := b.toNat) (by omega)
                          have fQ : frQ σ ω := (bf.trans (frQ.of (Or.inr (Or.inl rfl)) lf)).trans (frQ.of (Or.inr (Or.inr (Or.inr rfl))) jf)
                          refine g_iload X dX8_findOrder_115 rfl ?_
                          refine g_if_eq X (tgt := 129) dX8_findOrder_117 (by decide) ⟨by omega, by omega⟩ (fun c12 => ?_) (fun c12 => ?_)
                          · skip
                            refine g_aload_n X dX8_findOrder_129 rfl ?_
                            refine g_iload X dX8_findOrder_130 rfl ?_
                            refine pf_X8_167 X fk12 dX8_findOrder_132 ?_
                            refine g_iconst X dX8_findOrder_135 ?_
                            refine g_istore X (lw := [some (rv E (12)), some (iv (h)), some (iv (b)), some (iv (((fac (freshL r).length : Nat) : Int))), some (iv (num)), some (iv (sm)), some (iv (0))]) dX8_findOrder_136 (by decide) rfl rfl ?_
                            have L13 : ∀ (fu : Nat) (ξ : Mem) (k : Int), (0 ≤ k) → (k ≤ ((((freshL r).length) : Nat) : Int)) → (∀ j, j < k.toNat → ξ 23 j = ((rowN r num.toNat j : Nat) : Int)) → (∀ y, y ≠ 23 → ξ y = up ω 12 16 sm y) → ((((freshL r).length) : Nat) : Int) - k < (fu : Int) → K ξ 138 [some (rv E (12)), some (iv (h)), some (iv (b)), some (iv (((fac (freshL r).length : Nat) : Int))), some (iv (num)), some (iv (sm)), some (iv (k))] [] := by
                              intro fu
                              induction fu with
                              | zero =>
                                intro ξ k x1 x2 xr xf hm
                                exact absurd hm (by omega)
                              | succ fu ih13 =>
                                intro ξ k x1 x2 xr xf hm
                                refine g_iload X dX8_findOrder_138 rfl ?_
                                refine g_aload_n X dX8_findOrder_140 rfl ?_
                                refine gf_X8_158 X fk12 (show ξ 12 12 = ((((freshL r).length) : Nat) : Int) from ((congrFun (xf 12 (by decide)) 12).trans ((up_ne _ _ (Or.inr (by decide))).trans ((congrFun (jf 12 (by decide)) 12).trans ((congrFun (lf 12 (by decide)) 12).trans bL.1))))) dX8_findOrder_141 ?_
                                refine g_icmp_ge X (tgt := 167) dX8_findOrder_144 (by decide) ⟨by omega, by omega⟩ ⟨by omega, by omega⟩ (fun c14 => ?_) (fun c14 => ?_)
                                · skip
                                  refine g_iinc X (lw := [some (rv E (12)), some (iv (h)), some (iv (b)), some (iv (((fac (freshL r).length : Nat) : Int))), some (iv (num + 1)), some (iv (sm)), some (iv (k))]) dX8_findOrder_167 rfl (by decide) rfl rfl ?_
                                  refine g_goto X (tgt := 28) dX8_findOrder_170 (by decide) ?_
                                  refine g_kill X 5 (lw := [some (rv E (12)), some (iv (h)), some (iv (b)), some (iv (((fac (freshL r).length : Nat) : Int))), some (iv (num + 1)), none, some (iv (k))]) rfl ?_
                                  refine g_kill X 6 (lw := [some (rv E (12)), some (iv (h)), some (iv (b)), some (iv (((fac (freshL r).length : Nat) : Int))), some (iv (num + 1)), none, none]) rfl ?_
                                  exact ih3 ξ  (num + 1) (by omega) (by exact (fQ.trans ⟨fun x a _ _ _ _ => up_neC _ _ a, fun j _ h2 => up_ne _ _ (Or.inr h2)⟩).trans (frQ.of (Or.inr (Or.inr (Or.inl rfl))) xf)) (by exact (((bL.fr (congrFun (lf 12 (by decide)) 12) (lf 21 (by decide))).fr (congrFun (jf 12 (by decide)) 12) (jf 21 (by decide))).fr (up_ne _ _ (Or.inr (by decide))) (up_neC _ _ (by decide))).fr (congrFun (xf 12 (by decide)) 12) (xf 21 (by decide))) (by intro _; have e : (bestF r h b.toNat num.toNat) = (totF r h b.toNat num.toNat, num.toNat) := (by by_cases z : num.toNat = 0; (rw [z]; rfl); (obtain ⟨y, hy⟩ : ∃ y, num.toNat = y + 1 := ⟨num.toNat - 1, by omega⟩; have b1 := (bB (by omega)).1; rw [show (num - 1).toNat = y by omega] at b1; rw [hy]; rw [hy] at hT; rw [bestF, if_pos (by omega)])); rw [show (num + 1 - 1).toNat = num.toNat by omega, e]; exact ⟨(congrFun (xf 12 (by decide)) 16).trans ((up_same _ _ _ _).trans hT.symm), fun j hj => xr j (by omega)⟩) (by omega)
                                · skip
                                  refine g_aload_n X dX8_findOrder_147 rfl ?_
                                  refine gf_X8_41 X fk12 dX8_findOrder_148 ?_
                                  refine g_iload X dX8_findOrder_151 rfl ?_
                                  refine g_aload_n X dX8_findOrder_153 rfl ?_
                                  refine gf_X8_38 X fk12 dX8_findOrder_154 ?_
                                  refine g_iload X dX8_findOrder_157 rfl ?_
                                  refine g_iald X fk22 fl22 (by omega) (by omega) (by decide) (show ξ 22 ((k).toNat) = ((rowN r num.toNat k.toNat : Nat) : Int) from (congrFun (xf 22 (by decide)) _).trans ((up_ne _ _ (Or.inl (by decide))).trans ((congrFun (jf 22 (by decide)) _).trans (l22 k.toNat (by omega))))) dX8_findOrder_159 ?_
                                  refine g_iast X fk23 fl23 (by omega) (by omega) (by decide) dX8_findOrder_160 ?_
                                  refine g_iinc X (lw := [some (rv E (12)), some (iv (h)), some (iv (b)), some (iv (((fac (freshL r).length : Nat) : Int))), some (iv (num)), some (iv (sm)), some (iv (k + 1))]) dX8_findOrder_161 rfl (by decide) rfl rfl ?_
                                  refine g_goto X (tgt := 138) dX8_findOrder_164 (by decide) ?_
                                  exact ih13 (up ξ 23 ((k).toNat) (((rowN r num.toNat k.toNat : Nat) : Int)))  (k + 1) (by omega) (by omega) (by intro j hj; by_cases z : j = k.toNat; (subst z; rw [up_same]); (rw [up_ne _ _ (Or.inr z)]; exact xr j (by omega))) (by intro y hy; rw [up_neC _ _ hy]; exact xf y hy) (by omega)
                            exact L13 _ (up ω 12 16 (sm))  0 (by omega) (by omega) (by intro j hj; omega) (by intro y _; rfl) (by exact Int.lt_toNat_succ _)
                          · skip
                            refine g_iload X dX8_findOrder_120 rfl ?_
                            refine g_aload_n X dX8_findOrder_122 rfl ?_
                            refine gf_X8_167 X fk12 (show ω 12 16 = χ 12 16 from (congrFun (jf 12 (by decide)) 16).trans (congrFun (lf 12 (by decide)) 16)) dX8_findOrder_123 ?_
                            refine g_icmp_ge X (tgt := 167) dX8_findOrder_126 (by decide) ⟨by omega, by omega⟩ ⟨by omega, by omega⟩ (fun c15 => ?_) (fun c15 => ?_)
                            · skip
                              refine g_iinc X (lw := [some (rv E (12)), some (iv (h)), some (iv (b)), some (iv (((fac (freshL r).length : Nat) : Int))), some (iv (num + 1)), some (iv (sm)), some (iv (k))]) dX8_findOrder_167 rfl (by decide) rfl rfl ?_
                              refine g_goto X (tgt := 28) dX8_findOrder_170 (by decide) ?_
                              refine g_kill X 5 (lw := [some (rv E (12)), some (iv (h)), some (iv (b)), some (iv (((fac (freshL r).length : Nat) : Int))), some (iv (num + 1)), none, some (iv (k))]) rfl ?_
                              refine g_kill X 6 (lw := [some (rv E (12)), some (iv (h)), some (iv (b)), some (iv (((fac (freshL r).length : Nat) : Int))), some (iv (num + 1)), none, none]) rfl ?_
                              exact ih3 ω  (num + 1) (by omega) (by exact fQ) (by exact (bL.fr (congrFun (lf 12 (by decide)) 12) (lf 21 (by decide))).fr (congrFun (jf 12 (by decide)) 12) (jf 21 (by decide))) (by intro _; obtain ⟨y, hy⟩ : ∃ y, num.toNat = y + 1 := ⟨num.toNat - 1, by omega⟩; have b1 := bB (by omega); rw [show (num - 1).toNat = y by omega] at b1; rw [show (num + 1 - 1).toNat = y + 1 by omega]; rw [hy] at hT; rw [bestF, if_neg (by omega)]; exact ⟨(congrFun (jf 12 (by decide)) 16).trans ((congrFun (lf 12 (by decide)) 16).trans b1.1), fun j hj => (congrFun (jf 23 (by decide)) j).trans ((congrFun (lf 23 (by decide)) j).trans (b1.2 j hj))⟩) (by omega)
                            · skip
                              refine g_aload_n X dX8_findOrder_129 rfl ?_
                              refine g_iload X dX8_findOrder_130 rfl ?_
                              refine pf_X8_167 X fk12 dX8_findOrder_132 ?_
                              refine g_iconst X dX8_findOrder_135 ?_
                              refine g_istore X (lw := [some (rv E (12)), some (iv (h)), some (iv (b)), some (iv (((fac (freshL r).length : Nat) : Int))), some (iv (num)), some (iv (sm)), some (iv (0))]) dX8_findOrder_136 (by decide) rfl rfl ?_
                              have L16 : ∀ (fu : Nat) (ξ : Mem) (k : Int), (0 ≤ k) → (k ≤ ((((freshL r).length) : Nat) : Int)) → (∀ j, j < k.toNat → ξ 23 j = ((rowN r num.toNat j : Nat) : Int)) → (∀ y, y ≠ 23 → ξ y = up ω 12 16 sm y) → ((((freshL r).length) : Nat) : Int) - k < (fu : Int) → K ξ 138 [some (rv E (12)), some (iv (h)), some (iv (b)), some (iv (((fac (freshL r).length : Nat) : Int))), some (iv (num)), some (iv (sm)), some (iv (k))] [] := by
                                intro fu
                                induction fu with
                                | zero =>
                                  intro ξ k x1 x2 xr xf hm
                                  exact absurd hm (by omega)
                                | succ fu ih16 =>
                                  intro ξ k x1 x2 xr xf hm
                                  refine g_iload X dX8_findOrder_138 rfl ?_
                                  refine g_aload_n X dX8_findOrder_140 rfl ?_
                                  refine gf_X8_158 X fk12 (show ξ 12 12 = ((((freshL r).length) : Nat) : Int) from ((congrFun (xf 12 (by decide)) 12).trans ((up_ne _ _ (Or.inr (by decide))).trans ((congrFun (jf 12 (by decide)) 12).trans ((congrFun (lf 12 (by decide)) 12).trans bL.1))))) dX8_findOrder_141 ?_
                                  refine g_icmp_ge X (tgt := 167) dX8_findOrder_144 (by decide) ⟨by omega, by omega⟩ ⟨by omega, by omega⟩ (fun c17 => ?_) (fun c17 => ?_)
                                  · skip
                                    refine g_iinc X (lw := [some (rv E (12)), some (iv (h)), some (iv (b)), some (iv (((fac (freshL r).length : Nat) : Int))), some (iv (num + 1)), some (iv (sm)), some (iv (k))]) dX8_findOrder_167 rfl (by decide) rfl rfl ?_
                                    refine g_goto X (tgt := 28) dX8_findOrder_170 (by decide) ?_
                                    refine g_kill X 5 (lw := [some (rv E (12)), some (iv (h)), some (iv (b)), some (iv (((fac (freshL r).length : Nat) : Int))), some (iv (num + 1)), none, some (iv (k))]) rfl ?_
                                    refine g_kill X 6 (lw := [some (rv E (12)), some (iv (h)), some (iv (b)), some (iv (((fac (freshL r).length : Nat) : Int))), some (iv (num + 1)), none, none]) rfl ?_
                                    exact ih3 ξ  (num + 1) (by omega) (by exact (fQ.trans ⟨fun x a _ _ _ _ => up_neC _ _ a, fun j _ h2 => up_ne _ _ (Or.inr h2)⟩).trans (frQ.of (Or.inr (Or.inr (Or.inl rfl))) xf)) (by exact (((bL.fr (congrFun (lf 12 (by decide)) 12) (lf 21 (by decide))).fr (congrFun (jf 12 (by decide)) 12) (jf 21 (by decide))).fr (up_ne _ _ (Or.inr (by decide))) (up_neC _ _ (by decide))).fr (congrFun (xf 12 (by decide)) 12) (xf 21 (by decide))) (by intro _; have e : (bestF r h b.toNat num.toNat) = (totF r h b.toNat num.toNat, num.toNat) := (by by_cases z : num.toNat = 0; (rw [z]; rfl); (obtain ⟨y, hy⟩ : ∃ y, num.toNat = y + 1 := ⟨num.toNat - 1, by omega⟩; have b1 := (bB (by omega)).1; rw [show (num - 1).toNat = y by omega] at b1; rw [hy]; rw [hy] at hT; rw [bestF, if_pos (by omega)])); rw [show (num + 1 - 1).toNat = num.toNat by omega, e]; exact ⟨(congrFun (xf 12 (by decide)) 16).trans ((up_same _ _ _ _).trans hT.symm), fun j hj => xr j (by omega)⟩) (by omega)
                                  · skip
                                    refine g_aload_n X dX8_findOrder_147 rfl ?_
                                    refine gf_X8_41 X fk12 dX8_findOrder_148 ?_
                                    refine g_iload X dX8_findOrder_151 rfl ?_
                                    refine g_aload_n X dX8_findOrder_153 rfl ?_
                                    refine gf_X8_38 X fk12 dX8_findOrder_154 ?_
                                    refine g_iload X dX8_findOrder_157 rfl ?_
                                    refine g_iald X fk22 fl22 (by omega) (by omega) (by decide) (show ξ 22 ((k).toNat) = ((rowN r num.toNat k.toNat : Nat) : Int) from (congrFun (xf 22 (by decide)) _).trans ((up_ne _ _ (Or.inl (by decide))).trans ((congrFun (jf 22 (by decide)) _).trans (l22 k.toNat (by omega))))) dX8_findOrder_159 ?_
                                    refine g_iast X fk23 fl23 (by omega) (by omega) (by decide) dX8_findOrder_160 ?_
                                    refine g_iinc X (lw := [some (rv E (12)), some (iv (h)), some (iv (b)), some (iv (((fac (freshL r).length : Nat) : Int))), some (iv (num)), some (iv (sm)), some (iv (k + 1))]) dX8_findOrder_161 rfl (by decide) rfl rfl ?_
                                    refine g_goto X (tgt := 138) dX8_findOrder_164 (by decide) ?_
                                    exact ih16 (up ξ 23 ((k).toNat) (((rowN r num.toNat k.toNat : Nat) : Int)))  (k + 1) (by omega) (by omega) (by intro j hj; by_cases z : j = k.toNat; (subst z; rw [up_same]); (rw [up_ne _ _ (Or.inr z)]; exact xr j (by omega))) (by intro y hy; rw [up_neC _ _ hy]; exact xf y hy) (by omega)
                              exact L16 _ (up ω 12 16 (sm))  0 (by omega) (by omega) (by intro j hj; omega) (by intro y _; rfl) (by exact Int.lt_toNat_succ _)
                        · skip
                          refine g_iload X dX8_findOrder_91 rfl ?_
                          refine g_aload_n X dX8_findOrder_93 rfl ?_
                          refine g_aload_n X dX8_findOrder_94 rfl ?_
                          refine gf_X8_38 X fk12 dX8_findOrder_95 ?_
                          refine g_iload X dX8_findOrder_98 rfl ?_
                          refine g_iald X fk22 fl22 (by omega) (by omega) (by decide) (show ω 22 ((k).toNat) = ((rowN r num.toNat k.toNat : Nat) : Int) from (congrFun (jf 22 (by decide)) _).trans (l22 k.toNat (by omega))) dX8_findOrder_100 ?_
                          refine g_iload_n X dX8_findOrder_101 rfl ?_
                          refine g_iload_n X dX8_findOrder_102 rfl ?_
                          refine cl_X8_164 X (c_X8_tries l E ω r N oM hR f jF jB (((rowN r num.toNat k.toNat : Nat) : Int)) h b (by omega) (by omega) (by omega) (by omega)) fk12 ⟨Nat.le_of_ble_eq_true rfl, Nat.le_of_ble_eq_true rfl⟩ rfl (Nat.le_of_ble_eq_true rfl) dX8_findOrder_103 rfl (fun v18 τ19 p20 => ?_)
                          obtain ⟨rfl, hF103, hf103⟩ := p20
                          rw [Int.toNat_natCast] at hF103
                          rw [show (((rowN r num.toNat k.toNat : Nat) : Int)).toNat = rowN r num.toNat k.toNat from Int.toNat_natCast _]
                          have tb103 := trF_b hR (p := rowN r num.toNat k.toNat) (e := energyR r h) (by omega) b.toNat f jB
                          refine g_iadd X dX8_findOrder_106 ?_
                          refine g_istore X (lw := [some (rv E (12)), some (iv (h)), some (iv (b)), some (iv (((fac (freshL r).length : Nat) : Int))), some (iv (num)), some (iv (sm + (trF r (rowN r num.toNat k.toNat) (energyR r h) b.toNat f).2)), some (iv (k))]) dX8_findOrder_107 (by decide) rfl rfl ?_
                          refine g_iinc X (lw := [some (rv E (12)), some (iv (h)), some (iv (b)), some (iv (((fac (freshL r).length : Nat) : Int))), some (iv (num)), some (iv (sm + (trF r (rowN r num.toNat k.toNat) (energyR r h) b.toNat f).2)), some (iv (k + 1))]) dX8_findOrder_109 rfl (by decide) rfl rfl ?_
                          refine g_goto X (tgt := 82) dX8_findOrder_112 (by decide) ?_
                          exact ih10 τ19 ((trF r (rowN r num.toNat k.toNat) (energyR r h) b.toNat f).1) (sm + (trF r (rowN r num.toNat k.toNat) (energyR r h) b.toNat f).2) (k + 1) (by omega) (by omega) (by rw [show (k + 1).toNat = k.toNat + 1 by omega, rowF, j7]) (by exact hF103) (by exact tb103.1) (by intro y hy; rw [hf103 y hy]; exact jf y hy) (by omega) (by omega)
                    exact L10 _ ψ ((feet0 r)) 0 0 (by omega) (by omega) (by rfl) (by exact fun q hq => iF q (by omega)) (by exact FB0 hR) (by exact jf0) (by omega) (by exact Int.lt_toNat_succ _)
                  · skip
                    refine g_aload_n X dX8_findOrder_56 rfl ?_
                    refine gf_X8_44 X fk12 dX8_findOrder_57 ?_
                    refine g_iload X dX8_findOrder_60 rfl ?_
                    refine g_aload_n X dX8_findOrder_62 rfl ?_
                    refine g_iload X dX8_findOrder_63 rfl ?_
                    refine g_iconst X dX8_findOrder_65 ?_
                    refine cl_X8_62 X (c0_X8_of l E ψ p 3 (24 + 91 * p.toNat + 3) (by omega) (by omega) (by omega)) fk12 ⟨Nat.le_of_ble_eq_true rfl, Nat.le_of_ble_eq_true rfl⟩ rfl (Nat.le_of_ble_eq_true rfl) dX8_findOrder_66 rfl (fun v21 τ22 p23 => ?_)
                    obtain ⟨rfl, rfl⟩ := p23
                    rw [show ψ 13 (24 + 91 * p.toNat + 3) = r (24 + 91 * p.toNat + 3) from (pM.at (n := (24 + 91 * p.toNat + 3)) (by omega) (by omega))]
                    refine g_iast X fk24 fl24 (by omega) (by omega) (by decide) dX8_findOrder_69 ?_
                    refine g_iinc X (lw := [some (rv E (12)), some (iv (h)), some (iv (b)), some (iv (((fac (freshL r).length : Nat) : Int))), some (iv (num)), some (iv (p + 1)), none]) dX8_findOrder_70 rfl (by decide) rfl rfl ?_
                    refine g_goto X (tgt := 44) dX8_findOrder_73 (by decide) ?_
                    exact ih8 (up ψ 24 ((p).toNat) (r (24 + 91 * p.toNat + 3)))  (p + 1) (by omega) (by omega) (by intro q hq; by_cases z : q = p.toNat; (subst z; rw [up_same]; rfl); (rw [up_ne _ _ (Or.inr z)]; exact iF q (by omega))) (by intro y hy; rw [up_neC _ _ hy]; exact jf0 y hy) (by omega)
              exact L8 _ η  0 (by omega) (by omega) (by intro q hq; omega) (by intro y _; rfl) (by exact Int.lt_toNat_succ _)
        exact L3 _ σ  0 (by omega) (by exact frQ.refl) (by exact hL) (by intro z; exact absurd z (by decide)) (by exact Int.lt_toNat_succ _)
      · skip
        refine g_iload_n X dX8_findOrder_14 rfl ?_
        refine g_iload X dX8_findOrder_15 rfl ?_
        refine g_imul X dX8_findOrder_17 ?_
        refine g_istore_n X (lw := [some (rv E (12)), some (iv (h)), some (iv (b)), some (iv (al * k)), some (iv (k)), none, none]) dX8_findOrder_18 (by decide) rfl rfl ?_
        refine g_iinc X (lw := [some (rv E (12)), some (iv (h)), some (iv (b)), some (iv (al * k)), some (iv (k + 1)), none, none]) dX8_findOrder_19 rfl (by decide) rfl rfl ?_
        refine g_goto X (tgt := 5) dX8_findOrder_22 (by decide) ?_
        exact ih1  (al * k) (k + 1) (by omega) (by omega) (by rw [a3]; rcases (show k = 2 ∨ k = 3 ∨ k = 4 ∨ k = 5 by omega) with z | z | z | z <;> rw [z] <;> decide) (by omega)
  exact L1 _  1 2 (by omega) (by omega) (by rfl) (by exact Int.lt_toNat_succ _)
set_option maxHeartbeats 1000000 in
set_option maxRecDepth 100000 in
theorem c_X8_order (l : Launch) (E : wEnv) (σ : Mem) (s : St) (N : Int) (hM : MRep σ s) (hR : RInv s.1 N) (hN : N + 600 ≤ 400000) (h b i : Int) (hh : I32 h) (hb : I32 b) (hi : I32 i) : MetC l E yX8_order cX8_order 4 (some .int) 5 123 [rv E (12), iv (h), iv (b), iv (i)] σ (fun v σ' => v = some (iv (orderX s h b i)) ∧ MRep σ' s ∧ frC σ σ') := by
  refine MetC.of (own := RX8) (by decide) rfl (by simp [Value.category]) (Nat.le_of_ble_eq_true rfl) [some (rv E (12)), some (iv (h)), some (iv (b)), some (iv (i))] rfl (by simp) (fun K X R => ?_)
  have hM1 := hM.1
  have hM2 := hM.2.1
  have hM3 := hM.2.2
  have r19 := hR.2.2.2.2.1
  have r0 := hR.1
  have rN := hR.2.2.2.2.2.1
  refine g_iload_n X dX8_order_0 rfl ?_
  refine cl_X8_139 X (c_X8_isFall l E σ h ⟨by omega, by omega⟩) ⟨Nat.le_of_ble_eq_true rfl, Nat.le_of_ble_eq_true rfl⟩ rfl (Nat.le_of_ble_eq_true rfl) dX8_order_1 rfl (fun v1 τ2 p3 => ?_)
  obtain ⟨rfl, ⟨b4, rfl⟩ | ⟨b4, rfl⟩⟩ := p3
  · skip
    skip
    refine g_if_eq X (tgt := 21) dX8_order_4 (by decide) ⟨by decide, by decide⟩ (fun q => absurd q (by decide)) (fun _ => ?_)
    refine g_iload_n X dX8_order_7 rfl ?_
    refine g_iconst X dX8_order_8 ?_
    refine g_bipush X dX8_order_9 (by decide) ?_
    refine cl_X8_51 X (c_X8_in l E σ b 1 20 ⟨by omega, by omega⟩ ⟨by decide, by decide⟩ ⟨by decide, by decide⟩) ⟨Nat.le_of_ble_eq_true rfl, Nat.le_of_ble_eq_true rfl⟩ rfl (Nat.le_of_ble_eq_true rfl) dX8_order_11 rfl (fun v5 τ6 p7 => ?_)
    obtain ⟨rfl, ⟨b8, rfl⟩ | ⟨b8, rfl⟩⟩ := p7
    · skip
      skip
      refine g_if_eq X (tgt := 21) dX8_order_14 (by decide) ⟨by decide, by decide⟩ (fun q => absurd q (by decide)) (fun _ => ?_)
      refine g_iload_n X dX8_order_17 rfl ?_
      refine g_if_ge X (tgt := 23) dX8_order_18 (by decide) ⟨by omega, by omega⟩ (fun c9 => ?_) (fun c9 => ?_)
      · skip
        refine g_aload_n X dX8_order_23 rfl ?_
        refine cl_X8_170 X (c_X8_findFresh l E σ s.1 N hM1 hR) fk12 ⟨Nat.le_of_ble_eq_true rfl, Nat.le_of_ble_eq_true rfl⟩ rfl (Nat.le_of_ble_eq_true rfl) dX8_order_24 rfl (fun v10 τ11 p12 => ?_)
        obtain ⟨rfl, hL1, hf1⟩ := p12
        have fnl : (freshL s.1).length ≤ _ := filt_n (freshP s.1) (s.1 19).toNat
        refine g_aload_n X dX8_order_27 rfl ?_
        refine gf_X8_158 X fk12 (show τ11 12 12 = (((freshL s.1).length : Nat) : Int) from hL1.1) dX8_order_28 ?_
        refine g_iconst X dX8_order_31 ?_
        refine g_icmp_le X (tgt := 38) dX8_order_32 (by decide) ⟨by omega, by omega⟩ ⟨by decide, by decide⟩ (fun c13 => ?_) (fun c13 => ?_)
        · skip
          refine g_iload_n X dX8_order_38 rfl ?_
          refine g_aload_n X dX8_order_39 rfl ?_
          refine gf_X8_158 X fk12 (show τ11 12 12 = (((freshL s.1).length : Nat) : Int) from hL1.1) dX8_order_40 ?_
          refine g_icmp_lt X (tgt := 49) dX8_order_43 (by decide) ⟨by omega, by omega⟩ ⟨by omega, by omega⟩ (fun c14 => ?_) (fun c14 => ?_)
          · skip
            refine g_aload_n X dX8_order_49 rfl ?_
            refine g_iload_n X dX8_order_50 rfl ?_
            refine g_iload_n X dX8_order_51 rfl ?_
            refine cl_X8_173 X (c_X8_findOrder l E τ11 s.1 N (hM.fQ hf1).1 hR (by omega) hL1 h b (by omega) (by omega)) fk12 ⟨Nat.le_of_ble_eq_true rfl, Nat.le_of_ble_eq_true rfl⟩ rfl (Nat.le_of_ble_eq_true rfl) dX8_order_52 rfl (fun v15 τ16 p17 => ?_)
            obtain ⟨rfl, hf2, hf12, hf16, hf23⟩ := p17
            refine g_aload_n X dX8_order_55 rfl ?_
            refine gf_X8_41 X fk12 dX8_order_56 ?_
            refine g_iload_n X dX8_order_59 rfl ?_
            refine g_iald X fk23 fl23 (by omega) (by omega) (by decide) (show τ16 23 ((i).toNat) = ((rowN s.1 (lastB s.1 h b.toNat).2 i.toNat : Nat) : Int) from (hf23 i.toNat (by omega))) dX8_order_60 ?_
            exact R _ _ _ _ dX8_order_61 (by unfold orderX; (repeat (first | rw [if_pos (by omega)] | rw [if_neg (by omega)])); exact ⟨rfl, hM.fQ (hf1.trans hf2), frQ.C (hf1.trans hf2)⟩)
          · skip
            refine g_bipush X dX8_order_46 (by decide) ?_
            exact R _ _ _ _ dX8_order_48 (by unfold orderX; (repeat (first | rw [if_pos (by omega)] | rw [if_neg (by omega)])); exact ⟨rfl, hM.fQ hf1, frQ.C hf1⟩)
        · skip
          refine g_bipush X dX8_order_35 (by decide) ?_
          exact R _ _ _ _ dX8_order_37 (by unfold orderX; (repeat (first | rw [if_pos (by omega)] | rw [if_neg (by omega)])); exact ⟨rfl, hM.fQ hf1, frQ.C hf1⟩)
      · skip
        refine g_iconst X dX8_order_21 ?_
        exact R _ _ _ _ dX8_order_22 (by unfold orderX; rw [if_neg (by omega)]; exact ⟨rfl, hM, frC.refl⟩)
    · skip
      skip
      refine g_if_eq X (tgt := 21) dX8_order_14 (by decide) ⟨by decide, by decide⟩ (fun _ => ?_) (fun q => absurd q (by decide))
      refine g_iconst X dX8_order_21 ?_
      exact R _ _ _ _ dX8_order_22 (by unfold orderX; rw [if_neg (by omega)]; exact ⟨rfl, hM, frC.refl⟩)
  · skip
    skip
    refine g_if_eq X (tgt := 21) dX8_order_4 (by decide) ⟨by decide, by decide⟩ (fun _ => ?_) (fun q => absurd q (by decide))
    refine g_iconst X dX8_order_21 ?_
    exact R _ _ _ _ dX8_order_22 (by unfold orderX; rw [if_neg (by omega)]; exact ⟨rfl, hM, frC.refl⟩)
set_option maxHeartbeats 1000000 in
set_option maxRecDepth 100000 in
theorem c_X8_leastLift (l : Launch) (E : wEnv) (σ : Mem) (s : St) (N : Int) (hM : MRep σ s) (hR : RInv s.1 N) (hN : N + 600 ≤ 400000) (h b : Int) (hh : I32 h) (hb : I32 b) : MetC l E yX8_leastLift cX8_leastLift 3 (some .int) 5 123 [rv E (12), iv (h), iv (b)] σ (fun v σ' => v = some (iv (leastX s h b)) ∧ MRep σ' s ∧ frC σ σ') := by
  refine MetC.of (own := RX8) (by decide) rfl (by simp [Value.category]) (Nat.le_of_ble_eq_true rfl) [some (rv E (12)), some (iv (h)), some (iv (b))] rfl (by simp) (fun K X R => ?_)
  have hM1 := hM.1
  have hM2 := hM.2.1
  have hM3 := hM.2.2
  have r19 := hR.2.2.2.2.1
  have r0 := hR.1
  have rN := hR.2.2.2.2.2.1
  refine g_iload_n X dX8_leastLift_0 rfl ?_
  refine cl_X8_139 X (c_X8_isFall l E σ h ⟨by omega, by omega⟩) ⟨Nat.le_of_ble_eq_true rfl, Nat.le_of_ble_eq_true rfl⟩ rfl (Nat.le_of_ble_eq_true rfl) dX8_leastLift_1 rfl (fun v1 τ2 p3 => ?_)
  obtain ⟨rfl, ⟨b4, rfl⟩ | ⟨b4, rfl⟩⟩ := p3
  · skip
    skip
    refine g_if_eq X (tgt := 17) dX8_leastLift_4 (by decide) ⟨by decide, by decide⟩ (fun q => absurd q (by decide)) (fun _ => ?_)
    refine g_iload_n X dX8_leastLift_7 rfl ?_
    refine g_iconst X dX8_leastLift_8 ?_
    refine g_bipush X dX8_leastLift_9 (by decide) ?_
    refine cl_X8_51 X (c_X8_in l E σ b 1 20 ⟨by omega, by omega⟩ ⟨by decide, by decide⟩ ⟨by decide, by decide⟩) ⟨Nat.le_of_ble_eq_true rfl, Nat.le_of_ble_eq_true rfl⟩ rfl (Nat.le_of_ble_eq_true rfl) dX8_leastLift_11 rfl (fun v5 τ6 p7 => ?_)
    obtain ⟨rfl, ⟨b8, rfl⟩ | ⟨b8, rfl⟩⟩ := p7
    · skip
      skip
      refine g_if_ne X (tgt := 19) dX8_leastLift_14 (by decide) ⟨by decide, by decide⟩ (fun _ => ?_) (fun q => absurd q (by decide))
      refine g_aload_n X dX8_leastLift_19 rfl ?_
      refine cl_X8_170 X (c_X8_findFresh l E σ s.1 N hM1 hR) fk12 ⟨Nat.le_of_ble_eq_true rfl, Nat.le_of_ble_eq_true rfl⟩ rfl (Nat.le_of_ble_eq_true rfl) dX8_leastLift_20 rfl (fun v9 τ10 p11 => ?_)
      obtain ⟨rfl, hL1, hf1⟩ := p11
      have fnl : (freshL s.1).length ≤ _ := filt_n (freshP s.1) (s.1 19).toNat
      refine g_aload_n X dX8_leastLift_23 rfl ?_
      refine gf_X8_158 X fk12 (show τ10 12 12 = (((freshL s.1).length : Nat) : Int) from hL1.1) dX8_leastLift_24 ?_
      refine g_iconst X dX8_leastLift_27 ?_
      refine g_icmp_le X (tgt := 34) dX8_leastLift_28 (by decide) ⟨by omega, by omega⟩ ⟨by decide, by decide⟩ (fun c12 => ?_) (fun c12 => ?_)
      · skip
        refine g_aload_n X dX8_leastLift_34 rfl ?_
        refine g_iload_n X dX8_leastLift_35 rfl ?_
        refine g_iload_n X dX8_leastLift_36 rfl ?_
        refine cl_X8_173 X (c_X8_findOrder l E τ10 s.1 N (hM.fQ hf1).1 hR (by omega) hL1 h b (by omega) (by omega)) fk12 ⟨Nat.le_of_ble_eq_true rfl, Nat.le_of_ble_eq_true rfl⟩ rfl (Nat.le_of_ble_eq_true rfl) dX8_leastLift_37 rfl (fun v13 τ14 p15 => ?_)
        obtain ⟨rfl, hf2, hf12, hf16, hf23⟩ := p15
        refine g_aload_n X dX8_leastLift_40 rfl ?_
        refine gf_X8_167 X fk12 (show τ14 12 16 = (lastB s.1 h b.toNat).1 from hf16) dX8_leastLift_41 ?_
        exact R _ _ _ _ dX8_leastLift_44 (by unfold leastX; (repeat (first | rw [if_pos (by omega)] | rw [if_neg (by omega)])); exact ⟨rfl, hM.fQ (hf1.trans hf2), frQ.C (hf1.trans hf2)⟩)
      · skip
        refine g_bipush X dX8_leastLift_31 (by decide) ?_
        exact R _ _ _ _ dX8_leastLift_33 (by unfold leastX; (repeat (first | rw [if_pos (by omega)] | rw [if_neg (by omega)])); exact ⟨rfl, hM.fQ hf1, frQ.C hf1⟩)
    · skip
      skip
      refine g_if_ne X (tgt := 19) dX8_leastLift_14 (by decide) ⟨by decide, by decide⟩ (fun q => absurd q (by decide)) (fun _ => ?_)
      refine g_iconst X dX8_leastLift_17 ?_
      exact R _ _ _ _ dX8_leastLift_18 (by unfold leastX; rw [if_neg (by omega)]; exact ⟨rfl, hM, frC.refl⟩)
  · skip
    skip
    refine g_if_eq X (tgt := 17) dX8_leastLift_4 (by decide) ⟨by decide, by decide⟩ (fun _ => ?_) (fun q => absurd q (by decide))
    refine g_iconst X dX8_leastLift_17 ?_
    exact R _ _ _ _ dX8_leastLift_18 (by unfold leastX; rw [if_neg (by omega)]; exact ⟨rfl, hM, frC.refl⟩)
