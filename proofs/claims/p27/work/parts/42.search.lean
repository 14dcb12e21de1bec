/-! ===== contracts: the search for an order, of the class ===== -/
set_option maxHeartbeats 1000000 in
set_option maxRecDepth 100000 in
theorem c_X3_nextOrder (l : Launch) (E : wEnv) (σ : Mem) (F : Nat) (hF5 : F ≤ 5) (φ : Nat → Int) (hφ : Gro φ F) (hφb : ∀ i, i < F → 0 ≤ φ i ∧ φ i ≤ 100) (p : Nat → Nat) (hp : ∀ i, i < F → p i < F) (h5 : σ 7 5 = F) (hT : TR σ F φ p) : MetC l E yX3_nextOrder cX3_nextOrder 5 (some .boolean) 1 23 [rv E (7)] σ (fun v σ' => (∀ y, y ≠ 10 → σ' y = σ y) ∧ (0 ≤ turnP p (F - 1) ∧ v = some (iv 1) ∧ TR σ' F φ (nextP F p) ∨ ¬ 0 ≤ turnP p (F - 1) ∧ v = some (iv 0) ∧ σ = σ')) := by
  refine MetC.of (own := RX3) (by decide) rfl (by simp [Value.category]) (Nat.le_of_ble_eq_true rfl) [some (rv E (7)), none, none, none, none] rfl (by simp) (fun K X R => ?_)
  refine g_aload_n X dX3_nextOrder_0 rfl ?_
  refine gf_X3_55 X fk7 h5 dX3_nextOrder_1 ?_
  refine g_iconst X dX3_nextOrder_4 ?_
  refine g_isub X dX3_nextOrder_5 ?_
  refine g_istore_n X (lw := [some (rv E (7)), some (iv (((F : Nat) : Int) - 2)), none, none, none]) dX3_nextOrder_6 (by decide) rfl rfl ?_
  have L1 : ∀ (fu : Nat) (t : Int), (-2 ≤ t) → (t ≤ (F : Int) - 2) → (turnP p (F - 1) = turnP p (t + 1).toNat) → t + 2 < (fu : Int) → K σ 7 [some (rv E (7)), some (iv (t)), none, none, none] [] := by
    intro fu
    induction fu with
    | zero =>
      intro t j1 j2 j3 hm
      exact absurd hm (by omega)
    | succ fu ih1 =>
      intro t j1 j2 j3 hm
      refine g_iload_n X dX3_nextOrder_7 rfl ?_
      refine g_if_lt X (tgt := 32) dX3_nextOrder_8 (by decide) ⟨by omega, by omega⟩ (fun c2 => ?_) (fun c2 => ?_)
      · skip
        refine g_iload_n X dX3_nextOrder_32 rfl ?_
        refine g_if_ge X (tgt := 38) dX3_nextOrder_33 (by decide) ⟨by omega, by omega⟩ (fun c3 => ?_) (fun c3 => ?_)
        · skip
          exfalso; omega
        · skip
          refine g_iconst X dX3_nextOrder_36 ?_
          exact R _ _ _ _ (Or.inl (by decide)) dX3_nextOrder_37 ⟨fun _ _ => rfl, Or.inr ⟨by rw [j3, show (t + 1).toNat = 0 by omega]; simp [turnP], rfl, rfl⟩⟩
      · skip
        refine g_aload_n X dX3_nextOrder_11 rfl ?_
        refine g_iload_n X dX3_nextOrder_12 rfl ?_
        refine cl_X3_73 X (c_X3_triedAt l E σ F (by omega) h5 t (by omega)) fk7 ⟨Nat.le_of_ble_eq_true rfl, Nat.le_of_ble_eq_true rfl⟩ rfl (Nat.le_of_ble_eq_true rfl) dX3_nextOrder_13 rfl (fun v4 τ5 p6 => ?_)
        obtain ⟨rfl, rfl⟩ := p6
        have gp13 := hp (t).toNat (by omega)
        rw [show σ 10 (t).toNat = φ (p (t).toNat) from hT _ (by omega)]
        have gb13 := hφb (p (t).toNat) gp13
        refine g_aload_n X dX3_nextOrder_16 rfl ?_
        refine g_iload_n X dX3_nextOrder_17 rfl ?_
        refine g_iconst X dX3_nextOrder_18 ?_
        refine g_iadd X dX3_nextOrder_19 ?_
        refine cl_X3_73 X (c_X3_triedAt l E σ F (by omega) h5 (t + 1) (by omega)) fk7 ⟨Nat.le_of_ble_eq_true rfl, Nat.le_of_ble_eq_true rfl⟩ rfl (Nat.le_of_ble_eq_true rfl) dX3_nextOrder_20 rfl (fun v7 τ8 p9 => ?_)
        obtain ⟨rfl, rfl⟩ := p9
        have gp20 := hp (t + 1).toNat (by omega)
        rw [show σ 10 (t + 1).toNat = φ (p (t + 1).toNat) from hT _ (by omega)]
        have gb20 := hφb (p (t + 1).toNat) gp20
        refine g_icmp_le X (tgt := 32) dX3_nextOrder_23 (by decide) ⟨by omega, by omega⟩ ⟨by omega, by omega⟩ (fun c10 => ?_) (fun c10 => ?_)
        · skip
          refine g_iload_n X dX3_nextOrder_32 rfl ?_
          refine g_if_ge X (tgt := 38) dX3_nextOrder_33 (by decide) ⟨by omega, by omega⟩ (fun c11 => ?_) (fun c11 => ?_)
          · skip
            have ht : turnP p (F - 1) = t := by rw [j3, show (t + 1).toNat = t.toNat + 1 by omega, turnP, if_neg (fun z => by have z2 := (hφ _ _ gp20 gp13).mpr (by rw [show (t + 1).toNat = t.toNat + 1 by omega]; exact z); omega)]; omega
            refine g_aload_n X dX3_nextOrder_38 rfl ?_
            refine gf_X3_55 X fk7 h5 dX3_nextOrder_39 ?_
            refine g_iconst X dX3_nextOrder_42 ?_
            refine g_isub X dX3_nextOrder_43 ?_
            refine g_istore_n X (lw := [some (rv E (7)), some (iv (t)), some (iv (((F : Nat) : Int) - 1)), none, none]) dX3_nextOrder_44 (by decide) rfl rfl ?_
            have L12 : ∀ (fu : Nat) (o : Int), (t ≤ o) → (o ≤ (F : Int) - 1) → (othP p t.toNat (F - 1) = othP p t.toNat o.toNat) → o - t < (fu : Int) → K σ 45 [some (rv E (7)), some (iv (t)), some (iv (o)), none, none] [] := by
              intro fu
              induction fu with
              | zero =>
                intro o o1 o2 jo hm
                exact absurd hm (by omega)
              | succ fu ih12 =>
                intro o o1 o2 jo hm
                refine g_iload_n X dX3_nextOrder_45 rfl ?_
                refine g_iload_n X dX3_nextOrder_46 rfl ?_
                refine g_icmp_le X (tgt := 69) dX3_nextOrder_47 (by decide) ⟨by omega, by omega⟩ ⟨by omega, by omega⟩ (fun c13 => ?_) (fun c13 => ?_)
                · skip
                  have ho : othP p t.toNat (F - 1) = o.toNat := by rw [jo]; by_cases y0 : o.toNat = 0; (rw [y0]; rfl); (rw [show o.toNat = (o.toNat - 1) + 1 by omega, othP, if_neg (fun z => by first | omega | (have z2 := (hφ _ _ gp52 gp57).mpr (by rw [show o.toNat = (o.toNat - 1) + 1 by omega]; exact z.2); omega))])
                  refine g_aload_n X dX3_nextOrder_69 rfl ?_
                  refine g_iload_n X dX3_nextOrder_70 rfl ?_
                  refine g_iload_n X dX3_nextOrder_71 rfl ?_
                  refine cl_X3_108 X (c_X3_swap l E σ t o (by omega) (by omega)) fk7 ⟨Nat.le_of_ble_eq_true rfl, Nat.le_of_ble_eq_true rfl⟩ rfl (Nat.le_of_ble_eq_true rfl) dX3_nextOrder_72 rfl (fun v14 τ15 p16 => ?_)
                  obtain ⟨rfl, hw72⟩ := p16
                  have hT72 : TR τ15 F φ (swP p (t).toNat (o).toNat) := by rw [← hw72]; exact hT.sw (by omega) (by omega)
                  have hf72 : ∀ y, y ≠ 10 → τ15 y = σ y := fun y hy => by rw [← hw72, up_neC _ _ hy, up_neC _ _ hy]
                  refine g_iload_n X dX3_nextOrder_75 rfl ?_
                  refine g_iconst X dX3_nextOrder_76 ?_
                  refine g_iadd X dX3_nextOrder_77 ?_
                  refine g_istore_n X (lw := [some (rv E (7)), some (iv (t)), some (iv (o)), some (iv (t + 1)), none]) dX3_nextOrder_78 (by decide) rfl rfl ?_
                  refine g_aload_n X dX3_nextOrder_79 rfl ?_
                  refine gf_X3_55 X fk7 (show τ15 7 5 = (F : Int) from (congrFun (hf72 7 (by decide)) 5).trans h5) dX3_nextOrder_80 ?_
                  refine g_iconst X dX3_nextOrder_83 ?_
                  refine g_isub X dX3_nextOrder_84 ?_
                  refine g_istore X (lw := [some (rv E (7)), some (iv (t)), some (iv (o)), some (iv (t + 1)), some (iv (((F : Nat) : Int) - 1))]) dX3_nextOrder_85 (by decide) rfl rfl ?_
                  have L17 : ∀ (fu : Nat) (τ : Mem) (q : Nat → Nat) (fu0 : Nat) (lo hi : Int), (t + 1 ≤ lo) → (hi ≤ (F : Int) - 1) → (hi - lo ≤ 2 * (fu0 : Int)) → (TR τ F φ q) → (∀ y, y ≠ 10 → τ y = σ y) → (revP 3 (swP p t.toNat o.toNat) (t.toNat + 1) (F - 1) = revP fu0 q lo.toNat hi.toNat) → (0 ≤ hi) → (lo ≤ 5) → hi < (fu : Int) → K τ 87 [some (rv E (7)), some (iv (t)), some (iv (o)), some (iv (lo)), some (iv (hi))] [] := by
                    intro fu
                    induction fu with
                    | zero =>
                      intro τ q fu0 lo hi r1 r2 r3 jT jf jr r4 r5 hm
                      exact absurd hm (by omega)
                    | succ fu ih17 =>
                      intro τ q fu0 lo hi r1 r2 r3 jT jf jr r4 r5 hm
                      refine g_iload_n X dX3_nextOrder_87 rfl ?_
                      refine g_iload X dX3_nextOrder_88 rfl ?_
                      refine g_icmp_ge X (tgt := 109) dX3_nextOrder_90 (by decide) ⟨by omega, by omega⟩ ⟨by omega, by omega⟩ (fun c18 => ?_) (fun c18 => ?_)
                      · skip
                        refine g_iconst X dX3_nextOrder_109 ?_
                        exact R _ _ _ _ (Or.inr (by decide)) dX3_nextOrder_110 ⟨jf, Or.inl ⟨by omega, rfl, by have e : nextP F p = q := (by unfold nextP; rw [ht, ho, jr]; cases fu0 with | zero => rfl | succ y => rw [revP, if_neg (by omega)]); rw [e]; exact jT⟩⟩
                      · skip
                        refine g_aload_n X dX3_nextOrder_93 rfl ?_
                        refine g_iload_n X dX3_nextOrder_94 rfl ?_
                        refine g_iload X dX3_nextOrder_95 rfl ?_
                        refine cl_X3_108 X (c_X3_swap l E τ lo hi (by omega) (by omega)) fk7 ⟨Nat.le_of_ble_eq_true rfl, Nat.le_of_ble_eq_true rfl⟩ rfl (Nat.le_of_ble_eq_true rfl) dX3_nextOrder_97 rfl (fun v19 τ20 p21 => ?_)
                        obtain ⟨rfl, hw97⟩ := p21
                        have hT97 : TR τ20 F φ (swP q (lo).toNat (hi).toNat) := by rw [← hw97]; exact jT.sw (by omega) (by omega)
                        have hf97 : ∀ y, y ≠ 10 → τ20 y = σ y := fun y hy => by rw [← hw97, up_neC _ _ hy, up_neC _ _ hy]; exact jf y hy
                        refine g_iinc X (lw := [some (rv E (7)), some (iv (t)), some (iv (o)), some (iv (lo + 1)), some (iv (hi))]) dX3_nextOrder_100 rfl (by decide) rfl rfl ?_
                        refine g_iinc X (lw := [some (rv E (7)), some (iv (t)), some (iv (o)), some (iv (lo + 1)), some (iv (hi + (-1)))]) dX3_nextOrder_103 rfl (by decide) rfl rfl ?_
                        refine g_goto X (tgt := 87) dX3_nextOrder_106 (by decide) ?_
                        exact ih17 τ20 ((swP q lo.toNat hi.toNat)) ((fu0 - 1)) (lo + 1) (hi + (-1)) (by omega) (by omega) (by omega) (by exact hT97) (by exact hf97) (by rw [jr, show fu0 = (fu0 - 1) + 1 by omega, revP, if_pos (by omega), show (lo + 1).toNat = lo.toNat + 1 by omega, show (hi + (-1)).toNat = hi.toNat - 1 by omega]; rfl) (by omega) (by omega) (by omega)
                  exact L17 _ τ15 ((swP p t.toNat o.toNat)) 3 (t + 1) (((F : Nat) : Int) - 1) (by omega) (by omega) (by omega) (by exact hT72) (by exact hf72) (by rw [show (t + 1).toNat = t.toNat + 1 by omega, show ((F : Int) - 1).toNat = F - 1 by omega]) (by omega) (by omega) (by exact Int.lt_toNat_succ _)
                · skip
                  refine g_aload_n X dX3_nextOrder_50 rfl ?_
                  refine g_iload_n X dX3_nextOrder_51 rfl ?_
                  refine cl_X3_73 X (c_X3_triedAt l E σ F (by omega) h5 o (by omega)) fk7 ⟨Nat.le_of_ble_eq_true rfl, Nat.le_of_ble_eq_true rfl⟩ rfl (Nat.le_of_ble_eq_true rfl) dX3_nextOrder_52 rfl (fun v22 τ23 p24 => ?_)
                  obtain ⟨rfl, rfl⟩ := p24
                  have gp52 := hp (o).toNat (by omega)
                  rw [show σ 10 (o).toNat = φ (p (o).toNat) from hT _ (by omega)]
                  have gb52 := hφb (p (o).toNat) gp52
                  refine g_aload_n X dX3_nextOrder_55 rfl ?_
                  refine g_iload_n X dX3_nextOrder_56 rfl ?_
                  refine cl_X3_73 X (c_X3_triedAt l E σ F (by omega) h5 t (by omega)) fk7 ⟨Nat.le_of_ble_eq_true rfl, Nat.le_of_ble_eq_true rfl⟩ rfl (Nat.le_of_ble_eq_true rfl) dX3_nextOrder_57 rfl (fun v25 τ26 p27 => ?_)
                  obtain ⟨rfl, rfl⟩ := p27
                  have gp57 := hp (t).toNat (by omega)
                  rw [show σ 10 (t).toNat = φ (p (t).toNat) from hT _ (by omega)]
                  have gb57 := hφb (p (t).toNat) gp57
                  refine g_icmp_ge X (tgt := 69) dX3_nextOrder_60 (by decide) ⟨by omega, by omega⟩ ⟨by omega, by omega⟩ (fun c28 => ?_) (fun c28 => ?_)
                  · skip
                    have ho : othP p t.toNat (F - 1) = o.toNat := by rw [jo]; by_cases y0 : o.toNat = 0; (rw [y0]; rfl); (rw [show o.toNat = (o.toNat - 1) + 1 by omega, othP, if_neg (fun z => by first | omega | (have z2 := (hφ _ _ gp52 gp57).mpr (by rw [show o.toNat = (o.toNat - 1) + 1 by omega]; exact z.2); omega))])
                    refine g_aload_n X dX3_nextOrder_69 rfl ?_
                    refine g_iload_n X dX3_nextOrder_70 rfl ?_
                    refine g_iload_n X dX3_nextOrder_71 rfl ?_
                    refine cl_X3_108 X (c_X3_swap l E σ t o (by omega) (by omega)) fk7 ⟨Nat.le_of_ble_eq_true rfl, Nat.le_of_ble_eq_true rfl⟩ rfl (Nat.le_of_ble_eq_true rfl) dX3_nextOrder_72 rfl (fun v29 τ30 p31 => ?_)
                    obtain ⟨rfl, hw72⟩ := p31
                    have hT72 : TR τ30 F φ (swP p (t).toNat (o).toNat) := by rw [← hw72]; exact hT.sw (by omega) (by omega)
                    have hf72 : ∀ y, y ≠ 10 → τ30 y = σ y := fun y hy => by rw [← hw72, up_neC _ _ hy, up_neC _ _ hy]
                    refine g_iload_n X dX3_nextOrder_75 rfl ?_
                    refine g_iconst X dX3_nextOrder_76 ?_
                    refine g_iadd X dX3_nextOrder_77 ?_
                    refine g_istore_n X (lw := [some (rv E (7)), some (iv (t)), some (iv (o)), some (iv (t + 1)), none]) dX3_nextOrder_78 (by decide) rfl rfl ?_
                    refine g_aload_n X dX3_nextOrder_79 rfl ?_
                    refine gf_X3_55 X fk7 (show τ30 7 5 = (F : Int) from (congrFun (hf72 7 (by decide)) 5).trans h5) dX3_nextOrder_80 ?_
                    refine g_iconst X dX3_nextOrder_83 ?_
                    refine g_isub X dX3_nextOrder_84 ?_
                    refine g_istore X (lw := [some (rv E (7)), some (iv (t)), some (iv (o)), some (iv (t + 1)), some (iv (((F : Nat) : Int) - 1))]) dX3_nextOrder_85 (by decide) rfl rfl ?_
                    have L32 : ∀ (fu : Nat) (τ : Mem) (q : Nat → Nat) (fu0 : Nat) (lo hi : Int), (t + 1 ≤ lo) → (hi ≤ (F : Int) - 1) → (hi - lo ≤ 2 * (fu0 : Int)) → (TR τ F φ q) → (∀ y, y ≠ 10 → τ y = σ y) → (revP 3 (swP p t.toNat o.toNat) (t.toNat + 1) (F - 1) = revP fu0 q lo.toNat hi.toNat) → (0 ≤ hi) → (lo ≤ 5) → hi < (fu : Int) → K τ 87 [some (rv E (7)), some (iv (t)), some (iv (o)), some (iv (lo)), some (iv (hi))] [] := by
                      intro fu
                      induction fu with
                      | zero =>
                        intro τ q fu0 lo hi r1 r2 r3 jT jf jr r4 r5 hm
                        exact absurd hm (by omega)
                      | succ fu ih32 =>
                        intro τ q fu0 lo hi r1 r2 r3 jT jf jr r4 r5 hm
                        refine g_iload_n X dX3_nextOrder_87 rfl ?_
                        refine g_iload X dX3_nextOrder_88 rfl ?_
                        refine g_icmp_ge X (tgt := 109) dX3_nextOrder_90 (by decide) ⟨by omega, by omega⟩ ⟨by omega, by omega⟩ (fun c33 => ?_) (fun c33 => ?_)
                        · skip
                          refine g_iconst X dX3_nextOrder_109 ?_
                          exact R _ _ _ _ (Or.inr (by decide)) dX3_nextOrder_110 ⟨jf, Or.inl ⟨by omega, rfl, by have e : nextP F p = q := (by unfold nextP; rw [ht, ho, jr]; cases fu0 with | zero => rfl | succ y => rw [revP, if_neg (by omega)]); rw [e]; exact jT⟩⟩
                        · skip
                          refine g_aload_n X dX3_nextOrder_93 rfl ?_
                          refine g_iload_n X dX3_nextOrder_94 rfl ?_
                          refine g_iload X dX3_nextOrder_95 rfl ?_
                          refine cl_X3_108 X (c_X3_swap l E τ lo hi (by omega) (by omega)) fk7 ⟨Nat.le_of_ble_eq_true rfl, Nat.le_of_ble_eq_true rfl⟩ rfl (Nat.le_of_ble_eq_true rfl) dX3_nextOrder_97 rfl (fun v34 τ35 p36 => ?_)
                          obtain ⟨rfl, hw97⟩ := p36
                          have hT97 : TR τ35 F φ (swP q (lo).toNat (hi).toNat) := by rw [← hw97]; exact jT.sw (by omega) (by omega)
                          have hf97 : ∀ y, y ≠ 10 → τ35 y = σ y := fun y hy => by rw [← hw97, up_neC _ _ hy, up_neC _ _ hy]; exact jf y hy
                          refine g_iinc X (lw := [some (rv E (7)), some (iv (t)), some (iv (o)), some (iv (lo + 1)), some (iv (hi))]) dX3_nextOrder_100 rfl (by decide) rfl rfl ?_
                          refine g_iinc X (lw := [some (rv E (7)), some (iv (t)), some (iv (o)), some (iv (lo + 1)), some (iv (hi + (-1)))]) dX3_nextOrder_103 rfl (by decide) rfl rfl ?_
                          refine g_goto X (tgt := 87) dX3_nextOrder_106 (by decide) ?_
                          exact ih32 τ35 ((swP q lo.toNat hi.toNat)) ((fu0 - 1)) (lo + 1) (hi + (-1)) (by omega) (by omega) (by omega) (by exact hT97) (by exact hf97) (by rw [jr, show fu0 = (fu0 - 1) + 1 by omega, revP, if_pos (by omega), show (lo + 1).toNat = lo.toNat + 1 by omega, show (hi + (-1)).toNat = hi.toNat - 1 by omega]; rfl) (by omega) (by omega) (by omega)
                    exact L32 _ τ30 ((swP p t.toNat o.toNat)) 3 (t + 1) (((F : Nat) : Int) - 1) (by omega) (by omega) (by omega) (by exact hT72) (by exact hf72) (by rw [show (t + 1).toNat = t.toNat + 1 by omega, show ((F : Int) - 1).toNat = F - 1 by omega]) (by omega) (by omega) (by exact Int.lt_toNat_succ _)
                  · skip
                    refine g_iinc X (lw := [some (rv E (7)), some (iv (t)), some (iv (o + (-1))), none, none]) dX3_nextOrder_63 rfl (by decide) rfl rfl ?_
                    refine g_goto X (tgt := 45) dX3_nextOrder_66 (by decide) ?_
                    exact ih12  (o + (-1)) (by omega) (by omega) (by rw [jo, show o.toNat = (o + (-1)).toNat + 1 by omega, othP, if_pos ⟨by omega, by have z := (hφ _ _ gp52 gp57).mp (by omega); rw [show o.toNat = (o + (-1)).toNat + 1 by omega] at z; exact z⟩]) (by omega)
            exact L12 _  (((F : Nat) : Int) - 1) (by omega) (by omega) (by rw [show ((F : Int) - 1).toNat = F - 1 by omega]) (by exact Int.lt_toNat_succ _)
          · skip
            refine g_iconst X dX3_nextOrder_36 ?_
            exact R _ _ _ _ (Or.inl (by decide)) dX3_nextOrder_37 ⟨fun _ _ => rfl, Or.inr ⟨by rw [j3, show (t + 1).toNat = 0 by omega]; simp [turnP], rfl, rfl⟩⟩
        · skip
          refine g_iinc X (lw := [some (rv E (7)), some (iv (t + (-1))), none, none, none]) dX3_nextOrder_26 rfl (by decide) rfl rfl ?_
          refine g_goto X (tgt := 7) dX3_nextOrder_29 (by decide) ?_
          exact ih1  (t + (-1)) (by omega) (by omega) (by rw [j3, show (t + 1).toNat = t.toNat + 1 by omega, turnP, if_pos (by have z := (hφ _ _ gp20 gp13).mp (by omega); rw [show (t + 1).toNat = t.toNat + 1 by omega] at z; exact z), show (t + (-1) + 1).toNat = t.toNat by omega]) (by omega)
  exact L1 _  (((F : Nat) : Int) - 2) (by omega) (by omega) (by rw [show ((F : Int) - 2 + 1).toNat = F - 1 by omega]) (by exact Int.lt_toNat_succ _)
set_option maxHeartbeats 1000000 in
set_option maxRecDepth 100000 in
theorem c_X3_bestAt (l : Launch) (E : wEnv) (σ : Mem) (F : Nat) (hF : F ≤ 5) (h5 : σ 7 5 = F) (k : Int) (hk : 0 ≤ k) (hk2 : I32 k) : MetC l E yX3_bestAt cX3_bestAt 2 (some .int) 0 0 [rv E (7), iv (k)] σ (fun v σ' => v = some (iv (if k < F then σ 11 k.toNat else -4)) ∧ σ = σ') := by
  refine MetC.of (own := RX3) (by decide) rfl (by simp [Value.category]) (Nat.le_of_ble_eq_true rfl) [some (rv E (7)), some (iv (k))] rfl (by simp) (fun K X R => ?_)
  refine g_iload_n X dX3_bestAt_0 rfl ?_
  refine g_if_lt X (tgt := 30) dX3_bestAt_1 (by decide) ⟨by omega, by omega⟩ (fun c1 => ?_) (fun c1 => ?_)
  · skip
    refine g_bipush X dX3_bestAt_30 (by decide) ?_
    exact R _ _ _ _ dX3_bestAt_32 ⟨congrArg (fun z => some (iv z)) (by first | (exfalso; omega) | (rw [if_neg (by omega)]; done) | (rw [if_pos (by omega)])), rfl⟩
  · skip
    refine g_iload_n X dX3_bestAt_4 rfl ?_
    refine g_aload_n X dX3_bestAt_5 rfl ?_
    refine gf_X3_55 X fk7 h5 dX3_bestAt_6 ?_
    refine g_icmp_ge X (tgt := 30) dX3_bestAt_9 (by decide) ⟨by omega, by omega⟩ ⟨by omega, by omega⟩ (fun c2 => ?_) (fun c2 => ?_)
    · skip
      refine g_bipush X dX3_bestAt_30 (by decide) ?_
      exact R _ _ _ _ dX3_bestAt_32 ⟨congrArg (fun z => some (iv z)) (by first | (exfalso; omega) | (rw [if_neg (by omega)]; done) | (rw [if_pos (by omega)])), rfl⟩
    · skip
      refine g_iload_n X dX3_bestAt_12 rfl ?_
      refine g_aload_n X dX3_bestAt_13 rfl ?_
      refine gf_X3_21 X fk7 dX3_bestAt_14 ?_
      refine g_alen13 X fk11 fl11 dX3_bestAt_17 ?_
      refine g_icmp_ge X (tgt := 30) dX3_bestAt_18 (by decide) ⟨by omega, by omega⟩ ⟨by decide, by decide⟩ (fun c3 => ?_) (fun c3 => ?_)
      · skip
        refine g_bipush X dX3_bestAt_30 (by decide) ?_
        exact R _ _ _ _ dX3_bestAt_32 ⟨congrArg (fun z => some (iv z)) (by first | (exfalso; omega) | (rw [if_neg (by omega)]; done) | (rw [if_pos (by omega)])), rfl⟩
      · skip
        refine g_aload_n X dX3_bestAt_21 rfl ?_
        refine gf_X3_21 X fk7 dX3_bestAt_22 ?_
        refine g_iload_n X dX3_bestAt_25 rfl ?_
        refine g_iald X fk11 fl11 (by omega) (by omega) (by decide) rfl dX3_bestAt_26 ?_
        refine g_goto X (tgt := 32) dX3_bestAt_27 (by decide) ?_
        exact R _ _ _ _ dX3_bestAt_32 ⟨congrArg (fun z => some (iv z)) (by first | (exfalso; omega) | (rw [if_neg (by omega)]; done) | (rw [if_pos (by omega)])), rfl⟩
set_option maxHeartbeats 1000000 in
set_option maxRecDepth 100000 in
theorem c_X3_search (l : Launch) (E : wEnv) (σ : Mem) (r : Row) (N : Int) (hS : SRep σ 25 r) (hR : RInv r N) (h5 : (freshL r).length < 6) (h b : Int) (h0 : 100 ≤ h ∧ h ≤ 3000) (hb : 1 ≤ b ∧ b ≤ 20) : MetC l E yX3_search cX3_search 8 none 5 122 [rv E (7), rv E (25), iv (h), iv (b)] σ (fun v σ' => v = none ∧ frO σ σ' ∧ σ' 7 5 = ((((freshL r).length) : Nat) : Int) ∧ σ' 7 6 = (lastB r h b.toNat).1 ∧ ∀ j, j < (freshL r).length → σ' 11 j = ((rowN r (lastB r h b.toNat).2 j : Nat) : Int)) := by
  refine MetC.of (own := RX3) (by decide) rfl (by simp [Value.category]) (Nat.le_of_ble_eq_true rfl) [some (rv E (7)), some (rv E (25)), some (iv (h)), some (iv (b)), none, none, none, none] rfl (by simp) (fun K X R => ?_)
  have r19 := hR.2.2.2.2.1
  have r0 := hR.1
  have rN := hR.2.2.2.2.2.1
  refine g_aload_n X dX3_search_0 rfl ?_
  refine g_aload_n X dX3_search_1 rfl ?_
  refine cl_X3_24 X (c_X3_collect l E σ r N hS hR h5) fk7 ⟨Nat.le_of_ble_eq_true rfl, Nat.le_of_ble_eq_true rfl⟩ rfl (Nat.le_of_ble_eq_true rfl) dX3_search_2 rfl (fun v1 τ2 p3 => ?_)
  obtain ⟨rfl, cL, cf, cg⟩ := p3
  have hSc : SRep τ2 25 r := hS.fr hR (fun x _ _ => cf x (by omega) (by omega))
  refine g_aload_n X dX3_search_5 rfl ?_
  refine g_iload_n X dX3_search_6 rfl ?_
  refine cl_X3_28 X (c_X6_energyOf l E τ2 25 r N now_k hSc hR h  (by omega) (by omega)) now_k ⟨Nat.le_of_ble_eq_true rfl, Nat.le_of_ble_eq_true rfl⟩ rfl (Nat.le_of_ble_eq_true rfl) dX3_search_7 rfl (fun v4 τ5 p6 => ?_)
  obtain ⟨rfl, rfl⟩ := p6
  have eb7 := (energyR_bd hR (h := h) (by omega) (by omega)).2.2
  refine g_istore X (lw := [some (rv E (7)), some (rv E (25)), some (iv (h)), some (iv (b)), some (iv (energyR r h)), none, none, none]) dX3_search_10 (by decide) rfl rfl ?_
  refine g_aload_n X dX3_search_12 rfl ?_
  refine g_ldc X (n := 2147483647) dX3_search_13 wK_X3_36 (by decide) ?_
  refine pf_X3_37 X fk7 dX3_search_15 ?_
  refine g_iconst X dX3_search_18 ?_
  refine g_istore X (lw := [some (rv E (7)), some (rv E (25)), some (iv (h)), some (iv (b)), some (iv (energyR r h)), some (iv (1)), none, none]) dX3_search_19 (by decide) rfl rfl ?_
  refine g_iconst X dX3_search_21 ?_
  refine g_istore X (lw := [some (rv E (7)), some (rv E (25)), some (iv (h)), some (iv (b)), some (iv (energyR r h)), some (iv (1)), some (iv (0)), none]) dX3_search_22 (by decide) rfl rfl ?_
  have L7 : ∀ (fu : Nat) (τ : Mem) (g k : Int), (0 ≤ k) → (g = 0 ∨ g = 1) → (frO σ τ) → (τ 7 5 = ((((freshL r).length) : Nat) : Int)) → (g = 1 → k.toNat < fac (freshL r).length ∧ (∀ j, j < (freshL r).length → τ 10 j = ((rowN r k.toNat j : Nat) : Int)) ∧ ((k = 0 ∧ τ 7 6 = 2147483647) ∨ (1 ≤ k ∧ τ 7 6 = (bestF r h b.toNat (k - 1).toNat).1 ∧ ∀ j, j < (freshL r).length → τ 11 j = ((rowN r (bestF r h b.toNat (k - 1).toNat).2 j : Nat) : Int)))) → (g = 0 → τ 7 6 = (lastB r h b.toNat).1 ∧ ∀ j, j < (freshL r).length → τ 11 j = ((rowN r (lastB r h b.toNat).2 j : Nat) : Int)) → (k ≤ 120) → 120 - k < (fu : Int) → K τ 24 [some (rv E (7)), some (rv E (25)), some (iv (h)), some (iv (b)), some (iv (energyR r h)), some (iv (g)), some (iv (k)), none] [] := by
    intro fu
    induction fu with
    | zero =>
      intro τ g k j1 jg jf j5 jA jB jk hm
      exact absurd hm (by omega)
    | succ fu ih7 =>
      intro τ g k j1 jg jf j5 jA jB jk hm
      have jS : SRep τ 25 r := hS.fO hR jf
      have fb := fac_bd _ h5
      have bb := best_b hR h5 (h := h) (b := b.toNat) (by omega) (k - 1).toNat
      have hls : g = 1 → I32 (τ 7 6) := fun q => by { obtain ⟨q1, -, q2⟩ := jA q; rcases q2 with ⟨z1, z2⟩ | ⟨z1, z2, -⟩; (rw [z2]; exact ⟨by decide, by decide⟩); (have z3 := bb (by omega); rw [z2]; exact ⟨by omega, by omega⟩) }
      have jA1 : g = 1 → k.toNat < fac (freshL r).length := fun q => (jA q).1
      refine g_iload X dX3_search_24 rfl ?_
      refine g_bipush X dX3_search_26 (by decide) ?_
      refine g_icmp_ge X (tgt := 102) dX3_search_28 (by decide) ⟨by omega, by omega⟩ ⟨by decide, by decide⟩ (fun c8 => ?_) (fun c8 => ?_)
      · skip
        exact R _ _ _ dX3_search_102 (by have z : g = 0 := (by rcases jg with z | z; exact z; (have z2 := (jA z).1; omega)); exact ⟨rfl, jf, j5, (jB z).1, (jB z).2⟩)
      · skip
        refine g_iload X dX3_search_31 rfl ?_
        refine g_if_eq X (tgt := 102) dX3_search_33 (by decide) ⟨by omega, by omega⟩ (fun c9 => ?_) (fun c9 => ?_)
        · skip
          exact R _ _ _ dX3_search_102 (by have z : g = 0 := (by rcases jg with z | z; exact z; (have z2 := (jA z).1; omega)); exact ⟨rfl, jf, j5, (jB z).1, (jB z).2⟩)
        · skip
          have c34 : g = 1 := by omega
          have hA := jA c34
          have hls0 := hls c34
          have hA2 : (k.toNat = 0 ∧ τ 7 6 = 2147483647) ∨ (1 ≤ k.toNat ∧ τ 7 6 = (bestF r h b.toNat (k.toNat - 1)).1) := by rcases hA.2.2 with ⟨z1, z2⟩ | ⟨z1, z2, -⟩; exact Or.inl ⟨by omega, z2⟩; exact Or.inr ⟨by omega, by rw [z2, show (k - 1).toNat = k.toNat - 1 by omega]⟩
          refine g_aload_n X dX3_search_36 rfl ?_
          refine g_aload_n X dX3_search_37 rfl ?_
          refine g_iload X dX3_search_38 rfl ?_
          refine g_iload_n X dX3_search_40 rfl ?_
          refine cl_X3_41 X (c_X3_liftsOfTried l E τ r N jS hR (freshL r).length (by omega) (rowN r k.toNat) j5 (jA c34).2.1 (fun j hj => row_lt h5 (by omega) hj) (τ 7 6) rfl (hls c34) (energyR r h) b (by omega) (by omega) (by omega)) fk7 ⟨Nat.le_of_ble_eq_true rfl, Nat.le_of_ble_eq_true rfl⟩ rfl (Nat.le_of_ble_eq_true rfl) dX3_search_41 rfl (fun v10 τ11 p12 => ?_)
          obtain ⟨m, rfl, m0, m1, mA, mB, hfm⟩ := p12
          replace mA : totF r h b.toNat k.toNat < τ 7 6 → m = totF r h b.toNat k.toNat := mA
          replace mB : τ 7 6 ≤ totF r h b.toNat k.toNat → τ 7 6 ≤ m := mB
          refine g_istore X (lw := [some (rv E (7)), some (rv E (25)), some (iv (h)), some (iv (b)), some (iv (energyR r h)), some (iv (g)), some (iv (k)), some (iv (m))]) dX3_search_44 (by decide) rfl rfl ?_
          refine g_iload X dX3_search_46 rfl ?_
          refine g_aload_n X dX3_search_48 rfl ?_
          refine gf_X3_37 X fk7 (show τ11 7 6 = τ 7 6 from (hfm.2 6 (by decide))) dX3_search_49 ?_
          refine g_icmp_ge X (tgt := 75) dX3_search_52 (by decide) ⟨by omega, by omega⟩ ⟨by omega, by omega⟩ (fun c13 => ?_) (fun c13 => ?_)
          · skip
            have sk := srch_keep hR h5 (by omega) (k := k.toNat) (by omega) hA2 mA (by omega) m1
            obtain ⟨ν, hν, n5, n6, n10, n11, nf⟩ : ∃ ν : Mem, ν = τ11 ∧ ν 7 5 = ((((freshL r).length) : Nat) : Int) ∧ ν 7 6 = (bestF r h b.toNat k.toNat).1 ∧ (∀ j, j < (freshL r).length → ν 10 j = ((rowN r k.toNat j : Nat) : Int)) ∧ (∀ j, j < (freshL r).length → ν 11 j = ((rowN r (bestF r h b.toNat k.toNat).2 j : Nat) : Int)) ∧ frO σ ν := by
              refine ⟨_, rfl, (hfm.2 5 (by decide)).trans j5, ?_, fun j hj => (congrFun (hfm.1 10 (by decide) (by decide) (by decide)) j).trans (hA.2.1 j hj), fun j hj => ?_, jf.trans hfm.O⟩
              · rw [hfm.2 6 (by decide), sk.2]; rcases hA2 with z | z; (have := sk.1; omega); exact z.2
              · rw [hfm.1 11 (by decide) (by decide) (by decide), sk.2]; rcases hA.2.2 with z | z; (have := sk.1; omega); (rw [show k.toNat - 1 = (k - 1).toNat by omega]; exact z.2.2 j hj)
            rw [← hν]
            have nb := best_b hR h5 (h := h) (b := b.toNat) (by omega) k.toNat (by omega)
            refine g_aload_n X dX3_search_75 rfl ?_
            refine gf_X3_37 X fk7 rfl dX3_search_76 ?_
            refine g_if_le X (tgt := 93) dX3_search_79 (by decide) ⟨by omega, by omega⟩ (fun c14 => ?_) (fun c14 => ?_)
            · skip
              refine g_iconst X dX3_search_93 ?_
              refine g_istore X (lw := [some (rv E (7)), some (rv E (25)), some (iv (h)), some (iv (b)), some (iv (energyR r h)), some (iv (0)), some (iv (k)), some (iv (m))]) dX3_search_94 (by decide) rfl rfl ?_
              refine g_iinc X (lw := [some (rv E (7)), some (rv E (25)), some (iv (h)), some (iv (b)), some (iv (energyR r h)), some (iv (0)), some (iv (k + 1)), some (iv (m))]) dX3_search_96 rfl (by decide) rfl rfl ?_
              refine g_goto X (tgt := 24) dX3_search_99 (by decide) ?_
              refine g_kill X 7 (lw := [some (rv E (7)), some (rv E (25)), some (iv (h)), some (iv (b)), some (iv (energyR r h)), some (iv (0)), some (iv (k + 1)), none]) rfl ?_
              exact ih7 ν  0 (k + 1) (by omega) (by omega) (by exact nf) (by exact n5) (by intro z; exact absurd z (by decide)) (by intro _; first | (rw [last_of h5 (k := k.toNat) (by omega) tn]; exact ⟨n6, n11⟩) | (rw [last_0 hR h5 (k := k.toNat) (by omega) (by omega) (by omega)]; exact ⟨n6, n11⟩)) (by omega) (by omega)
            · skip
              refine g_aload_n X dX3_search_82 rfl ?_
              refine cl_X3_51 X (c_X3_nextOrder l E ν (freshL r).length (by omega) (fun i => (((freshL r).getD i 0 : Nat) : Int)) (fresh_gro r) (fun i hi => by have z := (filt_lt (freshP r) (r 19).toNat i hi).1; show 0 ≤ (((freshL r).getD i 0 : Nat) : Int) ∧ (((freshL r).getD i 0 : Nat) : Int) ≤ 100; unfold freshL; omega) (layP (freshL r).length k.toNat) (fun i hi => (lay_ok _ h5 k.toNat (by omega) i hi).1) n5 n10) fk7 ⟨Nat.le_of_ble_eq_true rfl, Nat.le_of_ble_eq_true rfl⟩ rfl (Nat.le_of_ble_eq_true rfl) dX3_search_83 rfl (fun v15 τ16 p17 => ?_)
              obtain ⟨of, ⟨ht0, rfl, oT⟩ | ⟨ht0, rfl, rfl⟩⟩ := p17
              · skip
                have tn := (lay_turn _ h5 k.toNat (by omega)).mp ht0
                refine g_if_eq X (tgt := 93) dX3_search_86 (by decide) ⟨by decide, by decide⟩ (fun q => absurd q (by decide)) (fun _ => ?_)
                refine g_iconst X dX3_search_89 ?_
                refine g_goto X (tgt := 94) dX3_search_90 (by decide) ?_
                refine g_istore X (lw := [some (rv E (7)), some (rv E (25)), some (iv (h)), some (iv (b)), some (iv (energyR r h)), some (iv (1)), some (iv (k)), some (iv (m))]) dX3_search_94 (by decide) rfl rfl ?_
                refine g_iinc X (lw := [some (rv E (7)), some (rv E (25)), some (iv (h)), some (iv (b)), some (iv (energyR r h)), some (iv (1)), some (iv (k + 1)), some (iv (m))]) dX3_search_96 rfl (by decide) rfl rfl ?_
                refine g_goto X (tgt := 24) dX3_search_99 (by decide) ?_
                refine g_kill X 7 (lw := [some (rv E (7)), some (rv E (25)), some (iv (h)), some (iv (b)), some (iv (energyR r h)), some (iv (1)), some (iv (k + 1)), none]) rfl ?_
                exact ih7 τ16  1 (k + 1) (by omega) (by omega) (by exact nf.trans (fun x a1 a2 a3 a4 a5 => of x a4)) (by exact (congrFun (of 7 (by decide)) 5).trans n5) (by intro _; rw [show (k + 1).toNat = k.toNat + 1 by omega, show (k + 1 - 1).toNat = k.toNat by omega]; refine ⟨tn, fun j hj => ?_, Or.inr ⟨by omega, (congrFun (of 7 (by decide)) 6).trans n6, fun j hj => (congrFun (of 11 (by decide)) j).trans (n11 j hj)⟩⟩; rw [oT j hj]; show (((freshL r).getD (nextP (freshL r).length (layP (freshL r).length k.toNat) j) 0 : Nat) : Int) = ((rowN r (k.toNat + 1) j : Nat) : Int); unfold rowN; rw [lay_next _ h5 k.toNat (by omega) tn j hj]) (by intro z; exact absurd z (by decide)) (by omega) (by omega)
              · skip
                have tn : ¬ k.toNat + 1 < fac (freshL r).length := fun z => ht0 ((lay_turn _ h5 k.toNat (by omega)).mpr z)
                refine g_if_eq X (tgt := 93) dX3_search_86 (by decide) ⟨by decide, by decide⟩ (fun _ => ?_) (fun q => absurd q (by decide))
                refine g_iconst X dX3_search_93 ?_
                refine g_istore X (lw := [some (rv E (7)), some (rv E (25)), some (iv (h)), some (iv (b)), some (iv (energyR r h)), some (iv (0)), some (iv (k)), some (iv (m))]) dX3_search_94 (by decide) rfl rfl ?_
                refine g_iinc X (lw := [some (rv E (7)), some (rv E (25)), some (iv (h)), some (iv (b)), some (iv (energyR r h)), some (iv (0)), some (iv (k + 1)), some (iv (m))]) dX3_search_96 rfl (by decide) rfl rfl ?_
                refine g_goto X (tgt := 24) dX3_search_99 (by decide) ?_
                refine g_kill X 7 (lw := [some (rv E (7)), some (rv E (25)), some (iv (h)), some (iv (b)), some (iv (energyR r h)), some (iv (0)), some (iv (k + 1)), none]) rfl ?_
                exact ih7 ν  0 (k + 1) (by omega) (by omega) (by exact nf) (by exact n5) (by intro z; exact absurd z (by decide)) (by intro _; first | (rw [last_of h5 (k := k.toNat) (by omega) tn]; exact ⟨n6, n11⟩) | (rw [last_0 hR h5 (k := k.toNat) (by omega) (by omega) (by omega)]; exact ⟨n6, n11⟩)) (by omega) (by omega)
          · skip
            refine g_aload_n X dX3_search_55 rfl ?_
            refine g_iload X dX3_search_56 rfl ?_
            refine pf_X3_37 X fk7 dX3_search_58 ?_
            refine g_aload_n X dX3_search_61 rfl ?_
            refine gf_X3_18 X fk7 dX3_search_62 ?_
            refine g_iconst X dX3_search_65 ?_
            refine g_aload_n X dX3_search_66 rfl ?_
            refine gf_X3_21 X fk7 dX3_search_67 ?_
            refine g_iconst X dX3_search_70 ?_
            refine g_iconst X dX3_search_71 ?_
            refine g_copy X wL_X3_45 fk10 fk11 fl10 fl11 (by omega) (by omega) (by omega) (by omega) (by omega) (by decide) (by decide) (Nat.le_of_ble_eq_true rfl) (by decide +kernel) dX3_search_72 ?_
            have sn := srch_new hR h5 (by omega) (k := k.toNat) (by omega) hA2 mA mB (by omega)
            obtain ⟨ν, hν, n5, n6, n10, n11, nf⟩ : ∃ ν : Mem, ν = (cpy (up τ11 7 6 (m)) 10 0 11 0 5) ∧ ν 7 5 = ((((freshL r).length) : Nat) : Int) ∧ ν 7 6 = (bestF r h b.toNat k.toNat).1 ∧ (∀ j, j < (freshL r).length → ν 10 j = ((rowN r k.toNat j : Nat) : Int)) ∧ (∀ j, j < (freshL r).length → ν 11 j = ((rowN r (bestF r h b.toNat k.toNat).2 j : Nat) : Int)) ∧ frO σ ν := by
              refine ⟨_, rfl, ?_, ?_, fun j hj => ?_, fun j hj => ?_, ?_⟩
              · exact cpy_ne (by decide) ((up_ne _ _ (Or.inr (by decide))).trans ((hfm.2 5 (by decide)).trans j5))
              · rw [sn]; exact cpy_ne (by decide) (up_same _ _ _ _)
              · exact cpy_ne (by decide) ((up_ne _ _ (Or.inl (by decide))).trans ((congrFun (hfm.1 10 (by decide) (by decide) (by decide)) j).trans (hA.2.1 j hj)))
              · rw [sn]; unfold cpy; rw [if_pos ⟨rfl, by omega, by omega⟩, Nat.zero_add, Nat.sub_zero]; exact (up_ne _ _ (Or.inl (by decide))).trans ((congrFun (hfm.1 10 (by decide) (by decide) (by decide)) j).trans (hA.2.1 j hj))
              · intro x a1 a2 a3 a4 a5; funext j; exact cpy_ne a5 ((up_ne _ _ (Or.inl a1)).trans ((congrFun ((jf.trans hfm.O) x a1 a2 a3 a4 a5) j)))
            show K (cpy (up τ11 7 6 (m)) 10 0 11 0 5) _ _ _
            rw [← hν]
            have nb := best_b hR h5 (h := h) (b := b.toNat) (by omega) k.toNat (by omega)
            refine g_aload_n X dX3_search_75 rfl ?_
            refine gf_X3_37 X fk7 rfl dX3_search_76 ?_
            refine g_if_le X (tgt := 93) dX3_search_79 (by decide) ⟨by omega, by omega⟩ (fun c18 => ?_) (fun c18 => ?_)
            · skip
              refine g_iconst X dX3_search_93 ?_
              refine g_istore X (lw := [some (rv E (7)), some (rv E (25)), some (iv (h)), some (iv (b)), some (iv (energyR r h)), some (iv (0)), some (iv (k)), some (iv (m))]) dX3_search_94 (by decide) rfl rfl ?_
              refine g_iinc X (lw := [some (rv E (7)), some (rv E (25)), some (iv (h)), some (iv (b)), some (iv (energyR r h)), some (iv (0)), some (iv (k + 1)), some (iv (m))]) dX3_search_96 rfl (by decide) rfl rfl ?_
              refine g_goto X (tgt := 24) dX3_search_99 (by decide) ?_
              refine g_kill X 7 (lw := [some (rv E (7)), some (rv E (25)), some (iv (h)), some (iv (b)), some (iv (energyR r h)), some (iv (0)), some (iv (k + 1)), none]) rfl ?_
              exact ih7 ν  0 (k + 1) (by omega) (by omega) (by exact nf) (by exact n5) (by intro z; exact absurd z (by decide)) (by intro _; first | (rw [last_of h5 (k := k.toNat) (by omega) tn]; exact ⟨n6, n11⟩) | (rw [last_0 hR h5 (k := k.toNat) (by omega) (by omega) (by omega)]; exact ⟨n6, n11⟩)) (by omega) (by omega)
            · skip
              refine g_aload_n X dX3_search_82 rfl ?_
              refine cl_X3_51 X (c_X3_nextOrder l E ν (freshL r).length (by omega) (fun i => (((freshL r).getD i 0 : Nat) : Int)) (fresh_gro r) (fun i hi => by have z := (filt_lt (freshP r) (r 19).toNat i hi).1; show 0 ≤ (((freshL r).getD i 0 : Nat) : Int) ∧ (((freshL r).getD i 0 : Nat) : Int) ≤ 100; unfold freshL; omega) (layP (freshL r).length k.toNat) (fun i hi => (lay_ok _ h5 k.toNat (by omega) i hi).1) n5 n10) fk7 ⟨Nat.le_of_ble_eq_true rfl, Nat.le_of_ble_eq_true rfl⟩ rfl (Nat.le_of_ble_eq_true rfl) dX3_search_83 rfl (fun v19 τ20 p21 => ?_)
              obtain ⟨of, ⟨ht0, rfl, oT⟩ | ⟨ht0, rfl, rfl⟩⟩ := p21
              · skip
                have tn := (lay_turn _ h5 k.toNat (by omega)).mp ht0
                refine g_if_eq X (tgt := 93) dX3_search_86 (by decide) ⟨by decide, by decide⟩ (fun q => absurd q (by decide)) (fun _ => ?_)
                refine g_iconst X dX3_search_89 ?_
                refine g_goto X (tgt := 94) dX3_search_90 (by decide) ?_
                refine g_istore X (lw := [some (rv E (7)), some (rv E (25)), some (iv (h)), some (iv (b)), some (iv (energyR r h)), some (iv (1)), some (iv (k)), some (iv (m))]) dX3_search_94 (by decide) rfl rfl ?_
                refine g_iinc X (lw := [some (rv E (7)), some (rv E (25)), some (iv (h)), some (iv (b)), some (iv (energyR r h)), some (iv (1)), some (iv (k + 1)), some (iv (m))]) dX3_search_96 rfl (by decide) rfl rfl ?_
                refine g_goto X (tgt := 24) dX3_search_99 (by decide) ?_
                refine g_kill X 7 (lw := [some (rv E (7)), some (rv E (25)), some (iv (h)), some (iv (b)), some (iv (energyR r h)), some (iv (1)), some (iv (k + 1)), none]) rfl ?_
                exact ih7 τ20  1 (k + 1) (by omega) (by omega) (by exact nf.trans (fun x a1 a2 a3 a4 a5 => of x a4)) (by exact (congrFun (of 7 (by decide)) 5).trans n5) (by intro _; rw [show (k + 1).toNat = k.toNat + 1 by omega, show (k + 1 - 1).toNat = k.toNat by omega]; refine ⟨tn, fun j hj => ?_, Or.inr ⟨by omega, (congrFun (of 7 (by decide)) 6).trans n6, fun j hj => (congrFun (of 11 (by decide)) j).trans (n11 j hj)⟩⟩; rw [oT j hj]; show (((freshL r).getD (nextP (freshL r).length (layP (freshL r).length k.toNat) j) 0 : Nat) : Int) = ((rowN r (k.toNat + 1) j : Nat) : Int); unfold rowN; rw [lay_next _ h5 k.toNat (by omega) tn j hj]) (by intro z; exact absurd z (by decide)) (by omega) (by omega)
              · skip
                have tn : ¬ k.toNat + 1 < fac (freshL r).length := fun z => ht0 ((lay_turn _ h5 k.toNat (by omega)).mpr z)
                refine g_if_eq X (tgt := 93) dX3_search_86 (by decide) ⟨by decide, by decide⟩ (fun _ => ?_) (fun q => absurd q (by decide))
                refine g_iconst X dX3_search_93 ?_
                refine g_istore X (lw := [some (rv E (7)), some (rv E (25)), some (iv (h)), some (iv (b)), some (iv (energyR r h)), some (iv (0)), some (iv (k)), some (iv (m))]) dX3_search_94 (by decide) rfl rfl ?_
                refine g_iinc X (lw := [some (rv E (7)), some (rv E (25)), some (iv (h)), some (iv (b)), some (iv (energyR r h)), some (iv (0)), some (iv (k + 1)), some (iv (m))]) dX3_search_96 rfl (by decide) rfl rfl ?_
                refine g_goto X (tgt := 24) dX3_search_99 (by decide) ?_
                refine g_kill X 7 (lw := [some (rv E (7)), some (rv E (25)), some (iv (h)), some (iv (b)), some (iv (energyR r h)), some (iv (0)), some (iv (k + 1)), none]) rfl ?_
                exact ih7 ν  0 (k + 1) (by omega) (by omega) (by exact nf) (by exact n5) (by intro z; exact absurd z (by decide)) (by intro _; first | (rw [last_of h5 (k := k.toNat) (by omega) tn]; exact ⟨n6, n11⟩) | (rw [last_0 hR h5 (k := k.toNat) (by omega) (by omega) (by omega)]; exact ⟨n6, n11⟩)) (by omega) (by omega)
  exact L7 _ (up τ2 7 6 (2147483647))  1 0 (by omega) (by omega) (by intro x a1 a2 a3 a4 a5; rw [up_neC _ _ a1]; exact cf x a1 a4) (by exact (up_ne _ _ (Or.inr (by decide))).trans cL.1) (by intro _; refine ⟨by have := fac_bd _ h5; show 0 < fac (freshL r).length; omega, fun j hj => ?_, Or.inl ⟨rfl, up_same _ _ _ _⟩⟩; rw [up_ne _ _ (Or.inl (by decide)), cL.2 j hj]; show (((freshL r).getD j 0 : Nat) : Int) = ((rowN r 0 j : Nat) : Int); unfold rowN; rw [lay_id _ h5 j hj]) (by intro z; exact absurd z (by decide)) (by omega) (by exact Int.lt_toNat_succ _)
set_option maxHeartbeats 1000000 in
set_option maxRecDepth 100000 in
theorem c_X7_order (l : Launch) (E : wEnv) (σ : Mem) (s : St) (N : Int) (hC : CRep σ s N) (hN : N + 600 ≤ 400000) (h b i : Int) (hh : I32 h) (hb : I32 b) (hi : I32 i) : MetC l E yX7_order cX7_order 4 (some .int) 6 149 [rv E (0), iv (h), iv (b), iv (i)] σ (fun v σ' => v = some (iv (orderX s h b i)) ∧ CRep σ' s (N + 600) ∧ frM σ σ') := by
  refine MetC.of (own := RX7) (by decide) rfl (by simp [Value.category]) (Nat.le_of_ble_eq_true rfl) [some (rv E (0)), some (iv (h)), some (iv (b)), some (iv (i))] rfl (by simp) (fun K X R => ?_)
  have hS := hC.1
  have hR := hC.2.1
  have hH := hC.2.2.1
  have hI := hC.2.2.2.1
  have hT := hC.2.2.2.2
  have r19 := hR.2.2.2.2.1
  have r0 := hR.1
  have rN := hR.2.2.2.2.2.1
  have fl : (((freshL s.1).length : Nat) : Int) = cnt (fun j => decide (s.1 (24 + 91 * j + 4) = 0)) (s.1 19).toNat := filt_len (freshP s.1) _
  refine g_iload_n X dX7_order_0 rfl ?_
  refine cl_X7_199 X (c_X7_isFall l E σ h ⟨by omega, by omega⟩) ⟨Nat.le_of_ble_eq_true rfl, Nat.le_of_ble_eq_true rfl⟩ rfl (Nat.le_of_ble_eq_true rfl) dX7_order_1 rfl (fun v1 τ2 p3 => ?_)
  obtain ⟨rfl, ⟨b4, rfl⟩ | ⟨b4, rfl⟩⟩ := p3
  · skip
    skip
    refine g_if_eq X (tgt := 21) dX7_order_4 (by decide) ⟨by decide, by decide⟩ (fun q => absurd q (by decide)) (fun _ => ?_)
    refine g_iload_n X dX7_order_7 rfl ?_
    refine g_iconst X dX7_order_8 ?_
    refine g_bipush X dX7_order_9 (by decide) ?_
    refine cl_X7_54 X (c_X7_inRange l E σ b 1 20 ⟨by omega, by omega⟩ ⟨by decide, by decide⟩ ⟨by decide, by decide⟩) ⟨Nat.le_of_ble_eq_true rfl, Nat.le_of_ble_eq_true rfl⟩ rfl (Nat.le_of_ble_eq_true rfl) dX7_order_11 rfl (fun v5 τ6 p7 => ?_)
    obtain ⟨rfl, ⟨b8, rfl⟩ | ⟨b8, rfl⟩⟩ := p7
    · skip
      skip
      refine g_if_eq X (tgt := 21) dX7_order_14 (by decide) ⟨by decide, by decide⟩ (fun q => absurd q (by decide)) (fun _ => ?_)
      refine g_iload_n X dX7_order_17 rfl ?_
      refine g_if_ge X (tgt := 23) dX7_order_18 (by decide) ⟨by omega, by omega⟩ (fun c9 => ?_) (fun c9 => ?_)
      · skip
        refine g_aload_n X dX7_order_23 rfl ?_
        refine gf_X7_10 X fk0 dX7_order_24 ?_
        refine cl_X7_235 X (c_X6_pilesWithoutBlows l E σ 25 s.1 N now_k hS hR   ) now_k ⟨Nat.le_of_ble_eq_true rfl, Nat.le_of_ble_eq_true rfl⟩ rfl (Nat.le_of_ble_eq_true rfl) dX7_order_27 rfl (fun v10 τ11 p12 => ?_)
        obtain ⟨rfl, rfl⟩ := p12
        have cb27 := cnt_bd (fun j => decide (s.1 (24 + 91 * j + 4) = 0)) (s.1 19).toNat
        have r1927 := hR.2.2.2.2.1
        refine g_iconst X dX7_order_30 ?_
        refine g_icmp_le X (tgt := 37) dX7_order_31 (by decide) ⟨by omega, by omega⟩ ⟨by decide, by decide⟩ (fun c13 => ?_) (fun c13 => ?_)
        · skip
          refine g_aload_n X dX7_order_37 rfl ?_
          refine gf_X7_40 X fk0 dX7_order_38 ?_
          refine g_aload_n X dX7_order_41 rfl ?_
          refine gf_X7_10 X fk0 dX7_order_42 ?_
          refine g_iload_n X dX7_order_45 rfl ?_
          refine g_iload_n X dX7_order_46 rfl ?_
          refine cl_X7_238 X (c_X3_search l E σ s.1 N hS hR (by omega) h b (by omega) (by omega)) fk7 ⟨Nat.le_of_ble_eq_true rfl, Nat.le_of_ble_eq_true rfl⟩ rfl (Nat.le_of_ble_eq_true rfl) dX7_order_47 rfl (fun v14 τ15 p16 => ?_)
          obtain ⟨rfl, hf, hs5, hs6, hs11⟩ := p16
          refine g_aload_n X dX7_order_50 rfl ?_
          refine gf_X7_40 X fk0 dX7_order_51 ?_
          refine g_iload_n X dX7_order_54 rfl ?_
          refine cl_X7_242 X (c_X3_bestAt l E τ15 (freshL s.1).length (by omega) hs5 i (by omega) (by omega)) fk7 ⟨Nat.le_of_ble_eq_true rfl, Nat.le_of_ble_eq_true rfl⟩ rfl (Nat.le_of_ble_eq_true rfl) dX7_order_55 rfl (fun v17 τ18 p19 => ?_)
          obtain ⟨rfl, rfl⟩ := p19
          exact R _ _ _ _ dX7_order_58 (by unfold orderX; rw [if_pos (by omega), if_neg (by omega)]; by_cases q : i < (((freshL s.1).length : Nat) : Int); (rw [if_pos q, if_neg (by omega), hs11 i.toNat (by omega)]; exact ⟨rfl, (hC.fO hf).mono (by omega) hN, fun x h1 h2 => hf x (by omega) (by omega) (by omega) (by omega) (by omega)⟩); (rw [if_neg q, if_pos (by omega)]; exact ⟨rfl, (hC.fO hf).mono (by omega) hN, fun x h1 h2 => hf x (by omega) (by omega) (by omega) (by omega) (by omega)⟩))
        · skip
          refine g_bipush X dX7_order_34 (by decide) ?_
          exact R _ _ _ _ dX7_order_36 (by unfold orderX; (repeat (first | rw [if_pos (by omega)] | rw [if_neg (by omega)])); exact ⟨rfl, hC.mono (by omega) hN, frM.refl⟩)
      · skip
        refine g_iconst X dX7_order_21 ?_
        exact R _ _ _ _ dX7_order_22 (by unfold orderX; (repeat (first | rw [if_pos (by omega)] | rw [if_neg (by omega)])); exact ⟨rfl, hC.mono (by omega) hN, frM.refl⟩)
    · skip
      skip
      refine g_if_eq X (tgt := 21) dX7_order_14 (by decide) ⟨by decide, by decide⟩ (fun _ => ?_) (fun q => absurd q (by decide))
      refine g_iconst X dX7_order_21 ?_
      exact R _ _ _ _ dX7_order_22 (by unfold orderX; (repeat (first | rw [if_pos (by omega)] | rw [if_neg (by omega)])); exact ⟨rfl, hC.mono (by omega) hN, frM.refl⟩)
  · skip
    skip
    refine g_if_eq X (tgt := 21) dX7_order_4 (by decide) ⟨by decide, by decide⟩ (fun _ => ?_) (fun q => absurd q (by decide))
    refine g_iconst X dX7_order_21 ?_
    exact R _ _ _ _ dX7_order_22 (by unfold orderX; (repeat (first | rw [if_pos (by omega)] | rw [if_neg (by omega)])); exact ⟨rfl, hC.mono (by omega) hN, frM.refl⟩)
set_option maxHeartbeats 1000000 in
set_option maxRecDepth 100000 in
theorem c_X7_leastLift (l : Launch) (E : wEnv) (σ : Mem) (s : St) (N : Int) (hC : CRep σ s N) (hN : N + 600 ≤ 400000) (h b : Int) (hh : I32 h) (hb : I32 b) : MetC l E yX7_leastLift cX7_leastLift 3 (some .int) 6 149 [rv E (0), iv (h), iv (b)] σ (fun v σ' => v = some (iv (leastX s h b)) ∧ CRep σ' s (N + 600) ∧ frM σ σ') := by
  refine MetC.of (own := RX7) (by decide) rfl (by simp [Value.category]) (Nat.le_of_ble_eq_true rfl) [some (rv E (0)), some (iv (h)), some (iv (b))] rfl (by simp) (fun K X R => ?_)
  have hS := hC.1
  have hR := hC.2.1
  have hH := hC.2.2.1
  have hI := hC.2.2.2.1
  have hT := hC.2.2.2.2
  have r19 := hR.2.2.2.2.1
  have r0 := hR.1
  have rN := hR.2.2.2.2.2.1
  have fl : (((freshL s.1).length : Nat) : Int) = cnt (fun j => decide (s.1 (24 + 91 * j + 4) = 0)) (s.1 19).toNat := filt_len (freshP s.1) _
  refine g_iload_n X dX7_leastLift_0 rfl ?_
  refine cl_X7_199 X (c_X7_isFall l E σ h ⟨by omega, by omega⟩) ⟨Nat.le_of_ble_eq_true rfl, Nat.le_of_ble_eq_true rfl⟩ rfl (Nat.le_of_ble_eq_true rfl) dX7_leastLift_1 rfl (fun v1 τ2 p3 => ?_)
  obtain ⟨rfl, ⟨b4, rfl⟩ | ⟨b4, rfl⟩⟩ := p3
  · skip
    skip
    refine g_if_eq X (tgt := 17) dX7_leastLift_4 (by decide) ⟨by decide, by decide⟩ (fun q => absurd q (by decide)) (fun _ => ?_)
    refine g_iload_n X dX7_leastLift_7 rfl ?_
    refine g_iconst X dX7_leastLift_8 ?_
    refine g_bipush X dX7_leastLift_9 (by decide) ?_
    refine cl_X7_54 X (c_X7_inRange l E σ b 1 20 ⟨by omega, by omega⟩ ⟨by decide, by decide⟩ ⟨by decide, by decide⟩) ⟨Nat.le_of_ble_eq_true rfl, Nat.le_of_ble_eq_true rfl⟩ rfl (Nat.le_of_ble_eq_true rfl) dX7_leastLift_11 rfl (fun v5 τ6 p7 => ?_)
    obtain ⟨rfl, ⟨b8, rfl⟩ | ⟨b8, rfl⟩⟩ := p7
    · skip
      skip
      refine g_if_ne X (tgt := 19) dX7_leastLift_14 (by decide) ⟨by decide, by decide⟩ (fun _ => ?_) (fun q => absurd q (by decide))
      refine g_aload_n X dX7_leastLift_19 rfl ?_
      refine gf_X7_10 X fk0 dX7_leastLift_20 ?_
      refine cl_X7_235 X (c_X6_pilesWithoutBlows l E σ 25 s.1 N now_k hS hR   ) now_k ⟨Nat.le_of_ble_eq_true rfl, Nat.le_of_ble_eq_true rfl⟩ rfl (Nat.le_of_ble_eq_true rfl) dX7_leastLift_23 rfl (fun v9 τ10 p11 => ?_)
      obtain ⟨rfl, rfl⟩ := p11
      have cb23 := cnt_bd (fun j => decide (s.1 (24 + 91 * j + 4) = 0)) (s.1 19).toNat
      have r1923 := hR.2.2.2.2.1
      refine g_iconst X dX7_leastLift_26 ?_
      refine g_icmp_le X (tgt := 33) dX7_leastLift_27 (by decide) ⟨by omega, by omega⟩ ⟨by decide, by decide⟩ (fun c12 => ?_) (fun c12 => ?_)
      · skip
        refine g_aload_n X dX7_leastLift_33 rfl ?_
        refine gf_X7_40 X fk0 dX7_leastLift_34 ?_
        refine g_aload_n X dX7_leastLift_37 rfl ?_
        refine gf_X7_10 X fk0 dX7_leastLift_38 ?_
        refine g_iload_n X dX7_leastLift_41 rfl ?_
        refine g_iload_n X dX7_leastLift_42 rfl ?_
        refine cl_X7_238 X (c_X3_search l E σ s.1 N hS hR (by omega) h b (by omega) (by omega)) fk7 ⟨Nat.le_of_ble_eq_true rfl, Nat.le_of_ble_eq_true rfl⟩ rfl (Nat.le_of_ble_eq_true rfl) dX7_leastLift_43 rfl (fun v13 τ14 p15 => ?_)
        obtain ⟨rfl, hf, hs5, hs6, hs11⟩ := p15
        refine g_aload_n X dX7_leastLift_46 rfl ?_
        refine gf_X7_40 X fk0 dX7_leastLift_47 ?_
        refine gf_X7_245 X fk7 (show τ14 7 6 = (lastB s.1 h b.toNat).1 from hs6) dX7_leastLift_50 ?_
        exact R _ _ _ _ dX7_leastLift_53 (by unfold leastX; rw [if_pos (by omega), if_neg (by omega)]; exact ⟨rfl, (hC.fO hf).mono (by omega) hN, fun x h1 h2 => hf x (by omega) (by omega) (by omega) (by omega) (by omega)⟩)
      · skip
        refine g_bipush X dX7_leastLift_30 (by decide) ?_
        exact R _ _ _ _ dX7_leastLift_32 (by unfold leastX; (repeat (first | rw [if_pos (by omega)] | rw [if_neg (by omega)])); exact ⟨rfl, hC.mono (by omega) hN, frM.refl⟩)
    · skip
      skip
      refine g_if_ne X (tgt := 19) dX7_leastLift_14 (by decide) ⟨by decide, by decide⟩ (fun q => absurd q (by decide)) (fun _ => ?_)
      refine g_iconst X dX7_leastLift_17 ?_
      exact R _ _ _ _ dX7_leastLift_18 (by unfold leastX; (repeat (first | rw [if_pos (by omega)] | rw [if_neg (by omega)])); exact ⟨rfl, hC.mono (by omega) hN, frM.refl⟩)
  · skip
    skip
    refine g_if_eq X (tgt := 17) dX7_leastLift_4 (by decide) ⟨by decide, by decide⟩ (fun _ => ?_) (fun q => absurd q (by decide))
    refine g_iconst X dX7_leastLift_17 ?_
    exact R _ _ _ _ dX7_leastLift_18 (by unfold leastX; (repeat (first | rw [if_pos (by omega)] | rw [if_neg (by omega)])); exact ⟨rfl, hC.mono (by omega) hN, frM.refl⟩)
