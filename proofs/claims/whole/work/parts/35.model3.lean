/-! ===== contracts: the reference's history and public methods ===== -/
set_option maxHeartbeats 1000000 in
set_option maxRecDepth 100000 in
theorem c_X8_records (l : Launch) (E : wEnv) (σ : Mem) (hs : Nat → Row) (n : Nat) (r : Row) (hM : RR σ r) (hH : MH σ hs n) : MetC l E yX8_records cX8_records 2 none 0 0 [rv E (12)] σ (fun v σ' => v = none ∧ MH σ' (pushH hs n r) (min 4 (n + 1)) ∧ (∀ x, x ≠ 12 → x ≠ 14 → x ≠ 16 → σ' x = σ x) ∧ ∀ j, j ≠ 4 → σ' 12 j = σ 12 j) := by
  refine MetC.of (own := RX8) (by decide) rfl (by simp [Value.category]) (Nat.le_of_ble_eq_true rfl) [some (rv E (12)), none] rfl (by simp) (fun K X R => ?_)
  have h4 := hH.1
  have hn4 := hH.2.1
  have J : ∀ (μ : Mem) (m : Nat), m ≤ 3 → m + 1 = min 4 (n + 1) → μ 12 4 = m → RR μ r → (∀ i, i < m → (∀ j, j < 934 → μ 14 (934 * i + j) = pushH hs n r i j) ∧ μ 16 (2 * i) = pushH hs n r i 934 ∧ μ 16 (2 * i + 1) = pushH hs n r i 935) → pushH hs n r m = r → (∀ x, x ≠ 12 → x ≠ 14 → x ≠ 16 → μ x = σ x) → (∀ j, j ≠ 4 → μ 12 j = σ 12 j) → K μ 77 [some (rv E (12)), none] [] := by
    intro μ m m3 mn m4 mR mP mr mF mG
    refine g_iconst X dX8_records_77 ?_
    refine g_istore_n X (lw := [some (rv E (12)), some (iv (0))]) dX8_records_78 (by decide) rfl rfl ?_
    have L1 : ∀ (fu : Nat) (χ : Mem) (k : Int), (0 ≤ k) → (k ≤ 934) → (∀ j, j < k.toNat → χ 14 (934 * m + j) = r j) → (∀ q, q < 934 * m → χ 14 q = μ 14 q) → (∀ x, x ≠ 14 → χ x = μ x) → 934 - k < (fu : Int) → K χ 79 [some (rv E (12)), some (iv (k))] [] := by
      intro fu
      induction fu with
      | zero =>
        intro χ k j1 j2 vc1 vc2 vc3 hm
        exact absurd hm (by omega)
      | succ fu ih1 =>
        intro χ k j1 j2 vc1 vc2 vc3 hm
        have hχ := mR.fr (vc3 13 (by decide)) (vc3 15 (by decide))
        refine g_iload_n X dX8_records_79 rfl ?_
        refine g_sipush X dX8_records_80 (by decide) ?_
        refine g_icmp_ge X (tgt := 113) dX8_records_83 (by decide) ⟨by omega, by omega⟩ ⟨by decide, by decide⟩ (fun c2 => ?_) (fun c2 => ?_)
        · skip
          refine g_aload_n X dX8_records_113 rfl ?_
          refine gf_X8_20 X fk12 dX8_records_114 ?_
          refine g_iconst X dX8_records_117 ?_
          refine g_aload_n X dX8_records_118 rfl ?_
          refine gf_X8_47 X fk12 (show χ 12 4 = ((m : Nat) : Int) from ((congrFun (vc3 12 (by decide)) 4).trans m4)) dX8_records_119 ?_
          refine g_imul X dX8_records_122 ?_
          refine g_aload_n X dX8_records_123 rfl ?_
          refine gf_X8_16 X fk12 dX8_records_124 ?_
          refine g_iconst X dX8_records_127 ?_
          refine g_lald X fk15 fl15 (by omega) (by omega) (by decide) hχ.2.1 dX8_records_128 ?_
          refine g_last X fk16 fl16 (by omega) (by omega) (by decide) dX8_records_129 ?_
          refine g_aload_n X dX8_records_130 rfl ?_
          refine gf_X8_20 X fk12 dX8_records_131 ?_
          refine g_iconst X dX8_records_134 ?_
          refine g_aload_n X dX8_records_135 rfl ?_
          refine gf_X8_47 X fk12 (up_ne1 (by omega) (show χ 12 4 = ((m : Nat) : Int) from ((congrFun (vc3 12 (by decide)) 4).trans m4))) dX8_records_136 ?_
          refine g_imul X dX8_records_139 ?_
          refine g_iconst X dX8_records_140 ?_
          refine g_iadd X dX8_records_141 ?_
          refine g_aload_n X dX8_records_142 rfl ?_
          refine gf_X8_16 X fk12 dX8_records_143 ?_
          refine g_iconst X dX8_records_146 ?_
          refine g_lald X fk15 fl15 (by omega) (by omega) (by decide) (up_ne1 (by omega) hχ.2.2) dX8_records_147 ?_
          refine g_last X fk16 fl16 (by omega) (by omega) (by decide) dX8_records_148 ?_
          refine g_aload_n X dX8_records_149 rfl ?_
          refine g_dup X dX8_records_150 rfl ?_
          refine gf_X8_47 X fk12 (up_ne1 (by omega) (up_ne1 (by omega) (show χ 12 4 = ((m : Nat) : Int) from ((congrFun (vc3 12 (by decide)) 4).trans m4)))) dX8_records_151 ?_
          refine g_iconst X dX8_records_154 ?_
          refine g_iadd X dX8_records_155 ?_
          refine pf_X8_47 X fk12 dX8_records_156 ?_
          exact R _ _ _ dX8_records_159 ⟨rfl, by rw [← mn]; exact rec_fin m3 mP mr (fun j hj => vc1 j (by omega)) vc2 vc3, fun x x1 x2 x3 => by rw [up_neC _ _ x1, up_neC _ _ x3, up_neC _ _ x3, vc3 x x2]; exact mF x x1 x2 x3, fun j hj => by rw [up_ne _ _ (Or.inr hj), up_ne _ _ (Or.inl (by decide)), up_ne _ _ (Or.inl (by decide)), vc3 12 (by decide)]; exact mG j hj⟩
        · skip
          refine g_aload_n X dX8_records_86 rfl ?_
          refine gf_X8_13 X fk12 dX8_records_87 ?_
          refine g_sipush X dX8_records_90 (by decide) ?_
          refine g_aload_n X dX8_records_93 rfl ?_
          refine gf_X8_47 X fk12 (show χ 12 4 = ((m : Nat) : Int) from ((congrFun (vc3 12 (by decide)) 4).trans m4)) dX8_records_94 ?_
          refine g_imul X dX8_records_97 ?_
          refine g_iload_n X dX8_records_98 rfl ?_
          refine g_iadd X dX8_records_99 ?_
          refine g_aload_n X dX8_records_100 rfl ?_
          refine gf_X8_7 X fk12 dX8_records_101 ?_
          refine g_iload_n X dX8_records_104 rfl ?_
          refine g_iald X fk13 fl13 (by omega) (by omega) (by decide) (hχ.at (n := k.toNat) (by omega) (by omega)) dX8_records_105 ?_
          refine g_iast X fk14 fl14 (by omega) (by omega) (by decide) dX8_records_106 ?_
          refine g_iinc X (lw := [some (rv E (12)), some (iv (k + 1))]) dX8_records_107 rfl (by decide) rfl rfl ?_
          refine g_goto X (tgt := 79) dX8_records_110 (by decide) ?_
          exact ih1 (up χ 14 ((934 * (((m : Nat) : Int)) + k).toNat) (r k.toNat))  (k + 1) (by omega) (by omega) (by intro j hj; by_cases e : 934 * m + j = (934 * ((m : Nat) : Int) + k).toNat; (rw [e, up_same]; exact congrArg r (by omega)); (rw [up_ne _ _ (Or.inr e)]; exact vc1 j (by omega))) (by intro q hq; rw [up_ne _ _ (Or.inr (by omega))]; exact vc2 q hq) (by intro x hx; rw [up_neC _ _ hx]; exact vc3 x hx) (by omega)
    exact L1 _ μ  0 (by omega) (by omega) (by intro j hj; omega) (by intro q hq; rfl) (by intro x hx; rfl) (by exact Int.lt_toNat_succ _)
  refine g_aload_n X dX8_records_0 rfl ?_
  refine gf_X8_47 X fk12 (show σ 12 4 = ((n : Nat) : Int) from hH.2.1) dX8_records_1 ?_
  refine g_iconst X dX8_records_4 ?_
  refine g_icmp_ne X (tgt := 77) dX8_records_5 (by decide) ⟨by omega, by omega⟩ ⟨by decide, by decide⟩ (fun c3 => ?_) (fun c3 => ?_)
  · skip
    exact J σ n (by omega) (by omega) hH.2.1 hM (fun i hi => by unfold pushH; rw [if_pos (by omega), if_neg (by omega)]; exact hH.2.2 i hi) (by unfold pushH; rw [if_pos (by omega), if_pos rfl]) (fun _ _ _ _ => rfl) (fun _ _ => rfl)
  · skip
    refine g_iconst X dX8_records_8 ?_
    refine g_istore_n X (lw := [some (rv E (12)), some (iv (0))]) dX8_records_9 (by decide) rfl rfl ?_
    have L4 : ∀ (fu : Nat) (τ : Mem) (k : Int), (0 ≤ k) → (k ≤ 2802) → (∀ j, j < k.toNat → τ 14 j = σ 14 (j + 934)) → (∀ j, k.toNat ≤ j → τ 14 j = σ 14 j) → (∀ x, x ≠ 14 → τ x = σ x) → 2802 - k < (fu : Int) → K τ 10 [some (rv E (12)), some (iv (k))] [] := by
      intro fu
      induction fu with
      | zero =>
        intro τ k j1 j2 a1 a2 a3 hm
        exact absurd hm (by omega)
      | succ fu ih4 =>
        intro τ k j1 j2 a1 a2 a3 hm
        refine g_iload_n X dX8_records_10 rfl ?_
        refine g_sipush X dX8_records_11 (by decide) ?_
        refine g_icmp_ge X (tgt := 39) dX8_records_14 (by decide) ⟨by omega, by omega⟩ ⟨by decide, by decide⟩ (fun c5 => ?_) (fun c5 => ?_)
        · skip
          refine g_iconst X dX8_records_39 ?_
          refine g_istore_n X (lw := [some (rv E (12)), some (iv (0))]) dX8_records_40 (by decide) rfl rfl ?_
          have L6 : ∀ (fu : Nat) (κ : Mem) (k : Int), (0 ≤ k) → (k ≤ 6) → (∀ j, j < k.toNat → κ 16 j = σ 16 (j + 2)) → (∀ j, k.toNat ≤ j → κ 16 j = σ 16 j) → (∀ x, x ≠ 16 → κ x = τ x) → 6 - k < (fu : Int) → K κ 41 [some (rv E (12)), some (iv (k))] [] := by
            intro fu
            induction fu with
            | zero =>
              intro κ k i1 i2 b1 b2 b3 hm
              exact absurd hm (by omega)
            | succ fu ih6 =>
              intro κ k i1 i2 b1 b2 b3 hm
              refine g_iload_n X dX8_records_41 rfl ?_
              refine g_bipush X dX8_records_42 (by decide) ?_
              refine g_icmp_ge X (tgt := 67) dX8_records_44 (by decide) ⟨by omega, by omega⟩ ⟨by decide, by decide⟩ (fun c7 => ?_) (fun c7 => ?_)
              · skip
                refine g_aload_n X dX8_records_67 rfl ?_
                refine g_dup X dX8_records_68 rfl ?_
                refine gf_X8_47 X fk12 (show κ 12 4 = ((n : Nat) : Int) from ((congrFun (b3 12 (by decide)) 4).trans ((congrFun (a3 12 (by decide)) 4).trans hH.2.1))) dX8_records_69 ?_
                refine g_iconst X dX8_records_72 ?_
                refine g_isub X dX8_records_73 ?_
                refine pf_X8_47 X fk12 dX8_records_74 ?_
                refine g_kill X 1 (lw := [some (rv E (12)), none]) rfl ?_
                exact J _ 3 (by omega) (by omega) (by rw [up_same]; omega) ((hM.fr ((b3 13 (by decide)).trans (a3 13 (by decide))) ((b3 15 (by decide)).trans (a3 15 (by decide)))).fr (up_neC _ _ (by decide)) (up_neC _ _ (by decide))) (fun i hi => by unfold pushH; rw [if_neg (by omega), if_neg (by omega)]; have q := hH.2.2 (i + 1) (by omega); refine ⟨fun j hj => ?_, ?_, ?_⟩; (rw [up_ne _ _ (Or.inl (by decide)), b3 14 (by decide), a1 _ (by omega), ← q.1 j hj]; exact congrArg (σ 14) (by omega)); (rw [up_ne _ _ (Or.inl (by decide)), b1 _ (by omega), ← q.2.1]; exact congrArg (σ 16) (by omega)); (rw [up_ne _ _ (Or.inl (by decide)), b1 _ (by omega), ← q.2.2]; exact congrArg (σ 16) (by omega))) (by unfold pushH; rw [if_neg (by omega), if_pos rfl]) (fun x x1 x2 x3 => by rw [up_neC _ _ x1, b3 x x3, a3 x x2]) (fun j hj => by rw [up_ne _ _ (Or.inr hj), b3 12 (by decide), a3 12 (by decide)])
              · skip
                refine g_aload_n X dX8_records_47 rfl ?_
                refine gf_X8_20 X fk12 dX8_records_48 ?_
                refine g_iload_n X dX8_records_51 rfl ?_
                refine g_aload_n X dX8_records_52 rfl ?_
                refine gf_X8_20 X fk12 dX8_records_53 ?_
                refine g_iload_n X dX8_records_56 rfl ?_
                refine g_iconst X dX8_records_57 ?_
                refine g_iadd X dX8_records_58 ?_
                refine g_lald X fk16 fl16 (by omega) (by omega) (by decide) rfl dX8_records_59 ?_
                refine g_last X fk16 fl16 (by omega) (by omega) (by decide) dX8_records_60 ?_
                refine g_iinc X (lw := [some (rv E (12)), some (iv (k + 1))]) dX8_records_61 rfl (by decide) rfl rfl ?_
                refine g_goto X (tgt := 41) dX8_records_64 (by decide) ?_
                exact ih6 (up κ 16 ((k).toNat) (κ 16 ((k + 2).toNat)))  (k + 1) (by omega) (by omega) (by intro j hj; by_cases e : j = (k).toNat; (subst e; rw [up_same, b2 _ (by omega)]; exact congrArg (σ 16) (by omega)); (rw [up_ne _ _ (Or.inr e)]; exact b1 j (by omega))) (by intro j hj; rw [up_ne _ _ (Or.inr (by omega))]; exact b2 j (by omega)) (by intro x hx; rw [up_neC _ _ hx]; exact b3 x hx) (by omega)
          exact L6 _ τ  0 (by omega) (by omega) (by intro j hj; omega) (by intro j hj; rw [a3 16 (by decide)]) (by intro x hx; rfl) (by exact Int.lt_toNat_succ _)
        · skip
          refine g_aload_n X dX8_records_17 rfl ?_
          refine gf_X8_13 X fk12 dX8_records_18 ?_
          refine g_iload_n X dX8_records_21 rfl ?_
          refine g_aload_n X dX8_records_22 rfl ?_
          refine gf_X8_13 X fk12 dX8_records_23 ?_
          refine g_iload_n X dX8_records_26 rfl ?_
          refine g_sipush X dX8_records_27 (by decide) ?_
          refine g_iadd X dX8_records_30 ?_
          refine g_iald X fk14 fl14 (by omega) (by omega) (by decide) rfl dX8_records_31 ?_
          refine g_iast X fk14 fl14 (by omega) (by omega) (by decide) dX8_records_32 ?_
          refine g_iinc X (lw := [some (rv E (12)), some (iv (k + 1))]) dX8_records_33 rfl (by decide) rfl rfl ?_
          refine g_goto X (tgt := 10) dX8_records_36 (by decide) ?_
          exact ih4 (up τ 14 ((k).toNat) (τ 14 ((k + 934).toNat)))  (k + 1) (by omega) (by omega) (by intro j hj; by_cases e : j = (k).toNat; (subst e; rw [up_same, a2 _ (by omega)]; exact congrArg (σ 14) (by omega)); (rw [up_ne _ _ (Or.inr e)]; exact a1 j (by omega))) (by intro j hj; rw [up_ne _ _ (Or.inr (by omega))]; exact a2 j (by omega)) (by intro x hx; rw [up_neC _ _ hx]; exact a3 x hx) (by omega)
    exact L4 _ σ  0 (by omega) (by omega) (by intro j hj; omega) (by intro j hj; rfl) (by intro x hx; rfl) (by exact Int.lt_toNat_succ _)
theorem undo_fin {σ χ : Mem} {s : St} (hM : MRep σ s) (hn : 0 < s.2.2.1) (d1 : ∀ j, j < 934 → χ 13 j = s.2.1 (s.2.2.1 - 1) j) (d3 : ∀ x, x ≠ 13 → χ x = (up σ 12 4 (((s.2.2.1 : Nat) : Int) - 1)) x) : MRep (up (up χ 15 0 (s.2.1 (s.2.2.1 - 1) 934)) 15 1 (s.2.1 (s.2.2.1 - 1) 935)) (s.2.1 (s.2.2.1 - 1), s.2.1, s.2.2.1 - 1, s.2.2.2.1, s.2.2.2.2) ∧ frC σ (up (up χ 15 0 (s.2.1 (s.2.2.1 - 1) 934)) 15 1 (s.2.1 (s.2.2.1 - 1) 935)) := by
  obtain ⟨h1, ⟨h2, h3, h4⟩, t1, t2, t3⟩ := hM
  have fr : ∀ x, x ≠ 13 → x ≠ 15 → x ≠ 12 → (up (up χ 15 0 (s.2.1 (s.2.2.1 - 1) 934)) 15 1 (s.2.1 (s.2.2.1 - 1) 935)) x = σ x := fun x a b c => by
    rw [up_neC _ _ b, up_neC _ _ b, d3 x a, up_neC _ _ c]
  have e12 : ∀ j, (up (up χ 15 0 (s.2.1 (s.2.2.1 - 1) 934)) 15 1 (s.2.1 (s.2.2.1 - 1) 935)) 12 j = up σ 12 4 (((s.2.2.1 : Nat) : Int) - 1) 12 j := fun j => by
    rw [up_ne _ _ (Or.inl (by decide)), up_ne _ _ (Or.inl (by decide)), d3 12 (by decide)]
  refine ⟨⟨⟨fun j hj => ?_, ?_, ?_⟩, ⟨by show s.2.2.1 - 1 ≤ 4; omega, ?_, fun i hi => ?_⟩, ⟨t1, ?_, fun j hj => ?_⟩⟩, fun x hx => fr x (by omega) (by omega) (by omega)⟩
  · rw [up_ne _ _ (Or.inl (by decide)), up_ne _ _ (Or.inl (by decide))]; exact d1 j hj
  · rw [up_ne _ _ (Or.inr (by decide)), up_same]
  · rw [up_same]
  · rw [e12, up_same]; show ((s.2.2.1 : Nat) : Int) - 1 = ((s.2.2.1 - 1 : Nat) : Int); omega
  · have hi2 : i < s.2.2.1 - 1 := hi
    rw [fr 14 (by decide) (by decide) (by decide), fr 16 (by decide) (by decide) (by decide)]
    exact h4 i (by omega)
  · rw [e12, up_ne _ _ (Or.inr (by decide))]; exact t2
  · rw [fr 17 (by decide) (by decide) (by decide)]; exact t3 j hj
set_option maxHeartbeats 1000000 in
set_option maxRecDepth 100000 in
theorem c_X8_undo (l : Launch) (E : wEnv) (σ : Mem) (s : St) (N : Int) (hM : MRep σ s) (hR : RInv s.1 N) (hN : N + 600 ≤ 400000) : MetC l E yX8_undo cX8_undo 2 (some .int) 0 0 [rv E (12)] σ (fun v σ' => v = some (iv (undoX s).1) ∧ MRep σ' (undoX s).2 ∧ frC σ σ') := by
  refine MetC.of (own := RX8) (by decide) rfl (by simp [Value.category]) (Nat.le_of_ble_eq_true rfl) [some (rv E (12)), none] rfl (by simp) (fun K X R => ?_)
  have hM1 := hM.1
  have hM2 := hM.2.1
  have hM3 := hM.2.2
  have r19 := hR.2.2.2.2.1
  have r0 := hR.1
  have rN := hR.2.2.2.2.2.1
  have hn4 := hM2.1
  refine g_aload_n X dX8_undo_0 rfl ?_
  refine gf_X8_47 X fk12 (show σ 12 4 = ((s.2.2.1 : Nat) : Int) from hM2.2.1) dX8_undo_1 ?_
  refine g_if_ne X (tgt := 10) dX8_undo_4 (by decide) ⟨by omega, by omega⟩ (fun c1 => ?_) (fun c1 => ?_)
  · skip
    refine g_aload_n X dX8_undo_10 rfl ?_
    refine g_dup X dX8_undo_11 rfl ?_
    refine gf_X8_47 X fk12 (show σ 12 4 = ((s.2.2.1 : Nat) : Int) from hM2.2.1) dX8_undo_12 ?_
    refine g_iconst X dX8_undo_15 ?_
    refine g_isub X dX8_undo_16 ?_
    refine pf_X8_47 X fk12 dX8_undo_17 ?_
    refine g_iconst X dX8_undo_20 ?_
    refine g_istore_n X (lw := [some (rv E (12)), some (iv (0))]) dX8_undo_21 (by decide) rfl rfl ?_
    have L2 : ∀ (fu : Nat) (χ : Mem) (k : Int), (0 ≤ k) → (k ≤ 934) → (∀ j, j < k.toNat → χ 13 j = s.2.1 (s.2.2.1 - 1) j) → (∀ x, x ≠ 13 → χ x = (up σ 12 4 (((s.2.2.1 : Nat) : Int) - 1)) x) → 934 - k < (fu : Int) → K χ 22 [some (rv E (12)), some (iv (k))] [] := by
      intro fu
      induction fu with
      | zero =>
        intro χ k j1 j2 d1 d3 hm
        exact absurd hm (by omega)
      | succ fu ih2 =>
        intro χ k j1 j2 d1 d3 hm
        refine g_iload_n X dX8_undo_22 rfl ?_
        refine g_sipush X dX8_undo_23 (by decide) ?_
        refine g_icmp_ge X (tgt := 56) dX8_undo_26 (by decide) ⟨by omega, by omega⟩ ⟨by decide, by decide⟩ (fun c3 => ?_) (fun c3 => ?_)
        · skip
          refine g_aload_n X dX8_undo_56 rfl ?_
          refine gf_X8_16 X fk12 dX8_undo_57 ?_
          refine g_iconst X dX8_undo_60 ?_
          refine g_aload_n X dX8_undo_61 rfl ?_
          refine gf_X8_20 X fk12 dX8_undo_62 ?_
          refine g_iconst X dX8_undo_65 ?_
          refine g_aload_n X dX8_undo_66 rfl ?_
          refine gf_X8_47 X fk12 (show χ 12 4 = ((s.2.2.1 : Nat) : Int) - 1 from ((congrFun (d3 12 (by decide)) 4).trans (up_same _ _ _ _))) dX8_undo_67 ?_
          refine g_imul X dX8_undo_70 ?_
          refine g_lald X fk16 fl16 (by omega) (by omega) (by decide) (show χ 16 ((2 * (((s.2.2.1 : Nat) : Int) - 1)).toNat) = s.2.1 (s.2.2.1 - 1) 934 from (by rw [d3 16 (by decide), up_ne _ _ (Or.inl (by decide)), ← (hM2.2.2 (s.2.2.1 - 1) (by omega)).2.1]; exact congrArg (σ 16) (by omega))) dX8_undo_71 ?_
          refine g_last X fk15 fl15 (by omega) (by omega) (by decide) dX8_undo_72 ?_
          refine g_aload_n X dX8_undo_73 rfl ?_
          refine gf_X8_16 X fk12 dX8_undo_74 ?_
          refine g_iconst X dX8_undo_77 ?_
          refine g_aload_n X dX8_undo_78 rfl ?_
          refine gf_X8_20 X fk12 dX8_undo_79 ?_
          refine g_iconst X dX8_undo_82 ?_
          refine g_aload_n X dX8_undo_83 rfl ?_
          refine gf_X8_47 X fk12 (up_ne1 (by omega) (show χ 12 4 = ((s.2.2.1 : Nat) : Int) - 1 from ((congrFun (d3 12 (by decide)) 4).trans (up_same _ _ _ _)))) dX8_undo_84 ?_
          refine g_imul X dX8_undo_87 ?_
          refine g_iconst X dX8_undo_88 ?_
          refine g_iadd X dX8_undo_89 ?_
          refine g_lald X fk16 fl16 (by omega) (by omega) (by decide) (up_ne1 (by omega) (show χ 16 ((2 * (((s.2.2.1 : Nat) : Int) - 1) + 1).toNat) = s.2.1 (s.2.2.1 - 1) 935 from (by rw [d3 16 (by decide), up_ne _ _ (Or.inl (by decide)), ← (hM2.2.2 (s.2.2.1 - 1) (by omega)).2.2]; exact congrArg (σ 16) (by omega)))) dX8_undo_90 ?_
          refine g_last X fk15 fl15 (by omega) (by omega) (by decide) dX8_undo_91 ?_
          refine g_aload_n X dX8_undo_92 rfl ?_
          refine gf_X8_47 X fk12 (up_ne1 (by omega) (up_ne1 (by omega) (show χ 12 4 = ((s.2.2.1 : Nat) : Int) - 1 from ((congrFun (d3 12 (by decide)) 4).trans (up_same _ _ _ _))))) dX8_undo_93 ?_
          exact R _ _ _ _ dX8_undo_96 (by unfold undoX; rw [if_neg (by omega)]; exact ⟨congrArg (fun z => some (iv z)) (by omega), undo_fin hM (by omega) (fun j hj => d1 j (by omega)) d3⟩)
        · skip
          refine g_aload_n X dX8_undo_29 rfl ?_
          refine gf_X8_7 X fk12 dX8_undo_30 ?_
          refine g_iload_n X dX8_undo_33 rfl ?_
          refine g_aload_n X dX8_undo_34 rfl ?_
          refine gf_X8_13 X fk12 dX8_undo_35 ?_
          refine g_sipush X dX8_undo_38 (by decide) ?_
          refine g_aload_n X dX8_undo_41 rfl ?_
          refine gf_X8_47 X fk12 (show χ 12 4 = ((s.2.2.1 : Nat) : Int) - 1 from ((congrFun (d3 12 (by decide)) 4).trans (up_same _ _ _ _))) dX8_undo_42 ?_
          refine g_imul X dX8_undo_45 ?_
          refine g_iload_n X dX8_undo_46 rfl ?_
          refine g_iadd X dX8_undo_47 ?_
          refine g_iald X fk14 fl14 (by omega) (by omega) (by decide) (show χ 14 ((934 * (((s.2.2.1 : Nat) : Int) - 1) + k).toNat) = s.2.1 (s.2.2.1 - 1) k.toNat from (by rw [d3 14 (by decide), up_ne _ _ (Or.inl (by decide)), ← (hM2.2.2 (s.2.2.1 - 1) (by omega)).1 k.toNat (by omega)]; exact congrArg (σ 14) (by omega))) dX8_undo_48 ?_
          refine g_iast X fk13 fl13 (by omega) (by omega) (by decide) dX8_undo_49 ?_
          refine g_iinc X (lw := [some (rv E (12)), some (iv (k + 1))]) dX8_undo_50 rfl (by decide) rfl rfl ?_
          refine g_goto X (tgt := 22) dX8_undo_53 (by decide) ?_
          exact ih2 (up χ 13 ((k).toNat) (s.2.1 (s.2.2.1 - 1) k.toNat))  (k + 1) (by omega) (by omega) (by intro j hj; by_cases e : j = (k).toNat; (subst e; rw [up_same]); (rw [up_ne _ _ (Or.inr e)]; exact d1 j (by omega))) (by intro x hx; rw [up_neC _ _ hx]; exact d3 x hx) (by omega)
    exact L2 _ (up σ 12 4 (((s.2.2.1 : Nat) : Int) - 1))  0 (by omega) (by omega) (by intro j hj; omega) (by intro x hx; rfl) (by exact Int.lt_toNat_succ _)
  · skip
    refine g_bipush X dX8_undo_7 (by decide) ?_
    exact R _ _ _ _ dX8_undo_9 (by first | (exfalso; omega) | (unfold undoX; (repeat (first | rw [if_pos (by omega)] | rw [if_neg (by omega)])); exact ⟨rfl, hM, frC.refl⟩))
set_option maxHeartbeats 1000000 in
set_option maxRecDepth 100000 in
theorem c_X8_stratum (l : Launch) (E : wEnv) (σ : Mem) (s : St) (N : Int) (hM : MRep σ s) (hR : RInv s.1 N) (hN : N + 600 ≤ 400000) (k t h : Int) (hk : I32 k) (ht : I32 t) (hh : I32 h) : MetC l E yX8_stratum cX8_stratum 4 (some .int) 1 22 [rv E (12), iv (k), iv (t), iv (h)] σ (fun v σ' => v = some (iv (stratumX s k t h).1) ∧ MRep σ' (stratumX s k t h).2 ∧ frC σ σ') := by
  refine MetC.of (own := RX8) (by decide) rfl (by simp [Value.category]) (Nat.le_of_ble_eq_true rfl) [some (rv E (12)), some (iv (k)), some (iv (t)), some (iv (h))] rfl (by simp) (fun K X R => ?_)
  have hM1 := hM.1
  have hM2 := hM.2.1
  have hM3 := hM.2.2
  have r19 := hR.2.2.2.2.1
  have r0 := hR.1
  have rN := hR.2.2.2.2.2.1
  refine g_iload_n X dX8_stratum_0 rfl ?_
  refine g_iconst X dX8_stratum_1 ?_
  refine g_aload_n X dX8_stratum_2 rfl ?_
  refine gf_X8_7 X fk12 dX8_stratum_3 ?_
  refine g_iconst X dX8_stratum_6 ?_
  refine g_iald X fk13 fl13 (by omega) (by omega) (by decide) (hM1.at (n := 0) (by omega) (by omega)) dX8_stratum_7 ?_
  refine cl_X8_51 X (c_X8_in l E σ k 0 (s.1 0) ⟨by omega, by omega⟩ ⟨by decide, by decide⟩ ⟨by omega, by omega⟩) ⟨Nat.le_of_ble_eq_true rfl, Nat.le_of_ble_eq_true rfl⟩ rfl (Nat.le_of_ble_eq_true rfl) dX8_stratum_8 rfl (fun v1 τ2 p3 => ?_)
  obtain ⟨rfl, ⟨b4, rfl⟩ | ⟨b4, rfl⟩⟩ := p3
  · skip
    skip
    refine g_if_eq X (tgt := 37) dX8_stratum_11 (by decide) ⟨by decide, by decide⟩ (fun q => absurd q (by decide)) (fun _ => ?_)
    refine g_iload_n X dX8_stratum_14 rfl ?_
    refine g_bipush X dX8_stratum_15 (by decide) ?_
    refine g_sipush X dX8_stratum_17 (by decide) ?_
    refine cl_X8_51 X (c_X8_in l E σ t 100 20000 ⟨by omega, by omega⟩ ⟨by decide, by decide⟩ ⟨by decide, by decide⟩) ⟨Nat.le_of_ble_eq_true rfl, Nat.le_of_ble_eq_true rfl⟩ rfl (Nat.le_of_ble_eq_true rfl) dX8_stratum_20 rfl (fun v5 τ6 p7 => ?_)
    obtain ⟨rfl, ⟨b8, rfl⟩ | ⟨b8, rfl⟩⟩ := p7
    · skip
      skip
      refine g_if_eq X (tgt := 37) dX8_stratum_23 (by decide) ⟨by decide, by decide⟩ (fun q => absurd q (by decide)) (fun _ => ?_)
      refine g_iload_n X dX8_stratum_26 rfl ?_
      refine g_iconst X dX8_stratum_27 ?_
      refine g_sipush X dX8_stratum_28 (by decide) ?_
      refine cl_X8_51 X (c_X8_in l E σ h 1 500 ⟨by omega, by omega⟩ ⟨by decide, by decide⟩ ⟨by decide, by decide⟩) ⟨Nat.le_of_ble_eq_true rfl, Nat.le_of_ble_eq_true rfl⟩ rfl (Nat.le_of_ble_eq_true rfl) dX8_stratum_31 rfl (fun v9 τ10 p11 => ?_)
      obtain ⟨rfl, ⟨b12, rfl⟩ | ⟨b12, rfl⟩⟩ := p11
      · skip
        skip
        refine g_if_ne X (tgt := 39) dX8_stratum_34 (by decide) ⟨by decide, by decide⟩ (fun _ => ?_) (fun q => absurd q (by decide))
        refine g_iload_n X dX8_stratum_39 rfl ?_
        refine g_bipush X dX8_stratum_40 (by decide) ?_
        refine g_icmp_ne X (tgt := 48) dX8_stratum_42 (by decide) ⟨by omega, by omega⟩ ⟨by decide, by decide⟩ (fun c13 => ?_) (fun c13 => ?_)
        · skip
          refine g_aload_n X dX8_stratum_48 rfl ?_
          refine cl_X8_55 X (c_X8_records l E σ s.2.1 s.2.2.1 s.1 hM1 hM2) fk12 ⟨Nat.le_of_ble_eq_true rfl, Nat.le_of_ble_eq_true rfl⟩ rfl (Nat.le_of_ble_eq_true rfl) dX8_stratum_49 rfl (fun v14 τ15 p16 => ?_)
          obtain ⟨rfl, hH49, hF49, hG49⟩ := p16
          have hM49 := hM1.fr (hF49 13 (by decide) (by decide) (by decide)) (hF49 15 (by decide) (by decide) (by decide))
          refine g_aload_n X dX8_stratum_52 rfl ?_
          refine gf_X8_7 X fk12 dX8_stratum_53 ?_
          refine g_iconst X dX8_stratum_56 ?_
          refine g_iload_n X dX8_stratum_57 rfl ?_
          refine g_iadd X dX8_stratum_58 ?_
          refine g_iload_n X dX8_stratum_59 rfl ?_
          refine g_iast X fk13 fl13 (by omega) (by omega) (by decide) dX8_stratum_60 ?_
          refine g_aload_n X dX8_stratum_61 rfl ?_
          refine gf_X8_7 X fk12 dX8_stratum_62 ?_
          refine g_bipush X dX8_stratum_65 (by decide) ?_
          refine g_iload_n X dX8_stratum_67 rfl ?_
          refine g_iadd X dX8_stratum_68 ?_
          refine g_iload_n X dX8_stratum_69 rfl ?_
          refine g_iast X fk13 fl13 (by omega) (by omega) (by decide) dX8_stratum_70 ?_
          refine g_aload_n X dX8_stratum_71 rfl ?_
          refine gf_X8_7 X fk12 dX8_stratum_72 ?_
          refine g_iconst X dX8_stratum_75 ?_
          refine g_dup2 X dX8_stratum_76 rfl rfl ?_
          refine g_iald X fk13 fl13 (by omega) (by omega) (by decide) (up_ne2 (by omega) (up_ne2 (by omega) (hM49.at (n := 0) (by omega) (by omega)))) dX8_stratum_77 ?_
          refine g_iload_n X dX8_stratum_78 rfl ?_
          refine g_aload_n X dX8_stratum_79 rfl ?_
          refine gf_X8_7 X fk12 dX8_stratum_80 ?_
          refine g_iconst X dX8_stratum_83 ?_
          refine g_iald X fk13 fl13 (by omega) (by omega) (by decide) (up_ne2 (by omega) (up_ne2 (by omega) (hM49.at (n := 0) (by omega) (by omega)))) dX8_stratum_84 ?_
          refine g_icmp_ne X (tgt := 92) dX8_stratum_85 (by decide) ⟨by omega, by omega⟩ ⟨by omega, by omega⟩ (fun c17 => ?_) (fun c17 => ?_)
          · skip
            refine g_iconst X dX8_stratum_92 ?_
            refine g_iadd X dX8_stratum_93 ?_
            refine g_iast X fk13 fl13 (by omega) (by omega) (by decide) dX8_stratum_94 ?_
            refine g_aload_n X dX8_stratum_95 rfl ?_
            refine gf_X8_7 X fk12 dX8_stratum_96 ?_
            refine g_iconst X dX8_stratum_99 ?_
            refine g_iald X fk13 fl13 (by omega) (by omega) (by decide) (up_same _ _ _ _) dX8_stratum_100 ?_
            exact R _ _ _ _ dX8_stratum_101 (by have hq := (((hM49.put (n := 1 + k.toNat) (v := t) (by omega)).put (n := 7 + k.toNat) (v := h) (by omega)).put (n := 0) (v := s.1 0 + 0) (by omega)).congr (r' := putR s.1 k.toNat t h) (fun n _ => put_eq (by omega) (by omega) n); unfold stratumX; (repeat (first | rw [if_pos (by omega)] | rw [if_neg (by omega)])); exact ⟨congrArg (fun z => some (iv z)) (by unfold putR; (repeat (first | rw [if_pos (by omega)] | rw [if_neg (by omega)])); omega), hM.chg hH49 hF49 hG49 (by rw [show (1 + k).toNat = 1 + k.toNat by omega, show (7 + k).toNat = 7 + k.toNat by omega]; exact hq) (((frR.refl.up (Or.inl rfl)).up (Or.inl rfl)).up (Or.inl rfl))⟩)
          · skip
            refine g_iconst X dX8_stratum_88 ?_
            refine g_goto X (tgt := 93) dX8_stratum_89 (by decide) ?_
            refine g_iadd X dX8_stratum_93 ?_
            refine g_iast X fk13 fl13 (by omega) (by omega) (by decide) dX8_stratum_94 ?_
            refine g_aload_n X dX8_stratum_95 rfl ?_
            refine gf_X8_7 X fk12 dX8_stratum_96 ?_
            refine g_iconst X dX8_stratum_99 ?_
            refine g_iald X fk13 fl13 (by omega) (by omega) (by decide) (up_same _ _ _ _) dX8_stratum_100 ?_
            exact R _ _ _ _ dX8_stratum_101 (by have hq := (((hM49.put (n := 1 + k.toNat) (v := t) (by omega)).put (n := 7 + k.toNat) (v := h) (by omega)).put (n := 0) (v := s.1 0 + 1) (by omega)).congr (r' := putR s.1 k.toNat t h) (fun n _ => put_eq (by omega) (by omega) n); unfold stratumX; (repeat (first | rw [if_pos (by omega)] | rw [if_neg (by omega)])); exact ⟨congrArg (fun z => some (iv z)) (by unfold putR; (repeat (first | rw [if_pos (by omega)] | rw [if_neg (by omega)])); omega), hM.chg hH49 hF49 hG49 (by rw [show (1 + k).toNat = 1 + k.toNat by omega, show (7 + k).toNat = 7 + k.toNat by omega]; exact hq) (((frR.refl.up (Or.inl rfl)).up (Or.inl rfl)).up (Or.inl rfl))⟩)
        · skip
          refine g_bipush X dX8_stratum_45 (by decide) ?_
          exact R _ _ _ _ dX8_stratum_47 (by first | (exfalso; omega) | (unfold stratumX; (repeat (first | rw [if_pos (by omega)] | rw [if_neg (by omega)])); exact ⟨rfl, hM, frC.refl⟩))
      · skip
        skip
        refine g_if_ne X (tgt := 39) dX8_stratum_34 (by decide) ⟨by decide, by decide⟩ (fun q => absurd q (by decide)) (fun _ => ?_)
        refine g_iconst X dX8_stratum_37 ?_
        exact R _ _ _ _ dX8_stratum_38 (by first | (exfalso; omega) | (unfold stratumX; (repeat (first | rw [if_pos (by omega)] | rw [if_neg (by omega)])); exact ⟨rfl, hM, frC.refl⟩))
    · skip
      skip
      refine g_if_eq X (tgt := 37) dX8_stratum_23 (by decide) ⟨by decide, by decide⟩ (fun _ => ?_) (fun q => absurd q (by decide))
      refine g_iconst X dX8_stratum_37 ?_
      exact R _ _ _ _ dX8_stratum_38 (by first | (exfalso; omega) | (unfold stratumX; (repeat (first | rw [if_pos (by omega)] | rw [if_neg (by omega)])); exact ⟨rfl, hM, frC.refl⟩))
  · skip
    skip
    refine g_if_eq X (tgt := 37) dX8_stratum_11 (by decide) ⟨by decide, by decide⟩ (fun _ => ?_) (fun q => absurd q (by decide))
    refine g_iconst X dX8_stratum_37 ?_
    exact R _ _ _ _ dX8_stratum_38 (by first | (exfalso; omega) | (unfold stratumX; (repeat (first | rw [if_pos (by omega)] | rw [if_neg (by omega)])); exact ⟨rfl, hM, frC.refl⟩))
set_option maxHeartbeats 1000000 in
set_option maxRecDepth 100000 in
theorem c_X8_cut (l : Launch) (E : wEnv) (σ : Mem) (s : St) (N : Int) (hM : MRep σ s) (hR : RInv s.1 N) (hN : N + 600 ≤ 400000) : MetC l E yX8_cut cX8_cut 1 (some .int) 1 21 [rv E (12)] σ (fun v σ' => v = some (iv (cutX s).1) ∧ MRep σ' (cutX s).2 ∧ frC σ σ') := by
  refine MetC.of (own := RX8) (by decide) rfl (by simp [Value.category]) (Nat.le_of_ble_eq_true rfl) [some (rv E (12))] rfl (by simp) (fun K X R => ?_)
  have hM1 := hM.1
  have hM2 := hM.2.1
  have hM3 := hM.2.2
  have r19 := hR.2.2.2.2.1
  have r0 := hR.1
  have rN := hR.2.2.2.2.2.1
  refine g_aload_n X dX8_cut_0 rfl ?_
  refine gf_X8_7 X fk12 dX8_cut_1 ?_
  refine g_iconst X dX8_cut_4 ?_
  refine g_iald X fk13 fl13 (by omega) (by omega) (by decide) (hM1.at (n := 0) (by omega) (by omega)) dX8_cut_5 ?_
  refine g_iconst X dX8_cut_6 ?_
  refine g_icmp_ne X (tgt := 13) dX8_cut_7 (by decide) ⟨by omega, by omega⟩ ⟨by decide, by decide⟩ (fun c1 => ?_) (fun c1 => ?_)
  · skip
    refine g_aload_n X dX8_cut_13 rfl ?_
    refine cl_X8_55 X (c_X8_records l E σ s.2.1 s.2.2.1 s.1 hM1 hM2) fk12 ⟨Nat.le_of_ble_eq_true rfl, Nat.le_of_ble_eq_true rfl⟩ rfl (Nat.le_of_ble_eq_true rfl) dX8_cut_14 rfl (fun v2 τ3 p4 => ?_)
    obtain ⟨rfl, hH14, hF14, hG14⟩ := p4
    have hM14 := hM1.fr (hF14 13 (by decide) (by decide) (by decide)) (hF14 15 (by decide) (by decide) (by decide))
    refine g_aload_n X dX8_cut_17 rfl ?_
    refine gf_X8_7 X fk12 dX8_cut_18 ?_
    refine g_iconst X dX8_cut_21 ?_
    refine g_dup2 X dX8_cut_22 rfl rfl ?_
    refine g_iald X fk13 fl13 (by omega) (by omega) (by decide) (hM14.at (n := 0) (by omega) (by omega)) dX8_cut_23 ?_
    refine g_iconst X dX8_cut_24 ?_
    refine g_isub X dX8_cut_25 ?_
    refine g_iast X fk13 fl13 (by omega) (by omega) (by decide) dX8_cut_26 ?_
    refine g_aload_n X dX8_cut_27 rfl ?_
    refine gf_X8_7 X fk12 dX8_cut_28 ?_
    refine g_iconst X dX8_cut_31 ?_
    refine g_iald X fk13 fl13 (by omega) (by omega) (by decide) (up_same _ _ _ _) dX8_cut_32 ?_
    exact R _ _ _ _ dX8_cut_33 (by unfold cutX; (repeat (first | rw [if_pos (by omega)] | rw [if_neg (by omega)])); exact ⟨rfl, hM.chg hH14 hF14 hG14 ((hM14.put (n := 0) (v := s.1 0 - 1) (by omega)).congr (fun n _ => cut_eq n)) (frR.refl.up (Or.inl rfl))⟩)
  · skip
    refine g_bipush X dX8_cut_10 (by decide) ?_
    exact R _ _ _ _ dX8_cut_12 (by first | (exfalso; omega) | (unfold cutX; (repeat (first | rw [if_pos (by omega)] | rw [if_neg (by omega)])); exact ⟨rfl, hM, frC.refl⟩))
set_option maxHeartbeats 1000000 in
set_option maxRecDepth 100000 in
theorem c_X8_ground (l : Launch) (E : wEnv) (σ : Mem) (s : St) (N : Int) (hM : MRep σ s) (hR : RInv s.1 N) (hN : N + 600 ≤ 400000) (k w : Int) (hk : I32 k) (hw : I32 w) : MetC l E yX8_ground cX8_ground 3 (some .int) 2 46 [rv E (12), iv (k), iv (w)] σ (fun v σ' => v = some (iv (groundX s k w)) ∧ σ = σ') := by
  refine MetC.of (own := RX8) (by decide) rfl (by simp [Value.category]) (Nat.le_of_ble_eq_true rfl) [some (rv E (12)), some (iv (k)), some (iv (w))] rfl (by simp) (fun K X R => ?_)
  have hM1 := hM.1
  have hM2 := hM.2.1
  have hM3 := hM.2.2
  have r19 := hR.2.2.2.2.1
  have r0 := hR.1
  have rN := hR.2.2.2.2.2.1
  refine g_iload_n X dX8_ground_0 rfl ?_
  refine g_iconst X dX8_ground_1 ?_
  refine g_aload_n X dX8_ground_2 rfl ?_
  refine gf_X8_7 X fk12 dX8_ground_3 ?_
  refine g_iconst X dX8_ground_6 ?_
  refine g_iald X fk13 fl13 (by omega) (by omega) (by decide) (hM1.at (n := 0) (by omega) (by omega)) dX8_ground_7 ?_
  refine g_iconst X dX8_ground_8 ?_
  refine g_isub X dX8_ground_9 ?_
  refine cl_X8_51 X (c_X8_in l E σ k 0 (s.1 0 - 1) ⟨by omega, by omega⟩ ⟨by decide, by decide⟩ ⟨by omega, by omega⟩) ⟨Nat.le_of_ble_eq_true rfl, Nat.le_of_ble_eq_true rfl⟩ rfl (Nat.le_of_ble_eq_true rfl) dX8_ground_10 rfl (fun v1 τ2 p3 => ?_)
  obtain ⟨rfl, ⟨b4, rfl⟩ | ⟨b4, rfl⟩⟩ := p3
  · skip
    skip
    refine g_if_eq X (tgt := 25) dX8_ground_13 (by decide) ⟨by decide, by decide⟩ (fun q => absurd q (by decide)) (fun _ => ?_)
    refine g_iload_n X dX8_ground_16 rfl ?_
    refine g_iconst X dX8_ground_17 ?_
    refine g_iconst X dX8_ground_18 ?_
    refine cl_X8_51 X (c_X8_in l E σ w 0 3 ⟨by omega, by omega⟩ ⟨by decide, by decide⟩ ⟨by decide, by decide⟩) ⟨Nat.le_of_ble_eq_true rfl, Nat.le_of_ble_eq_true rfl⟩ rfl (Nat.le_of_ble_eq_true rfl) dX8_ground_19 rfl (fun v5 τ6 p7 => ?_)
    obtain ⟨rfl, ⟨b8, rfl⟩ | ⟨b8, rfl⟩⟩ := p7
    · skip
      skip
      refine g_if_ne X (tgt := 27) dX8_ground_22 (by decide) ⟨by decide, by decide⟩ (fun _ => ?_) (fun q => absurd q (by decide))
      refine g_iload_n X dX8_ground_27 rfl ?_
      rcases (show w = 0 ∨ w = 1 ∨ w = 2 ∨ (w < 0 ∨ 2 < w) by omega) with c9 | c9 | c9 | c9
      · skip
        refine g_tblIn X (tgt := 56) (off := 28) dX8_ground_28 ⟨by omega, by omega⟩ (by omega) (by omega) (by rw [c9]; decide) (by decide) ?_
        refine g_aload_n X dX8_ground_56 rfl ?_
        refine gf_X8_7 X fk12 dX8_ground_57 ?_
        refine g_iconst X dX8_ground_60 ?_
        refine g_iload_n X dX8_ground_61 rfl ?_
        refine g_iadd X dX8_ground_62 ?_
        refine g_iald X fk13 fl13 (by omega) (by omega) (by decide) (hM1.at (n := (1 + k.toNat)) (by omega) (by omega)) dX8_ground_63 ?_
        exact R _ _ _ _ dX8_ground_64 ⟨congrArg (fun z => some (iv z)) (by first | (exfalso; omega) | (unfold groundX; (repeat (first | rw [if_pos (by omega)] | rw [if_neg (by omega)])); (first | done | rfl | exact congrArg s.1 (by omega)))), rfl⟩
      · skip
        refine g_tblIn X (tgt := 65) (off := 37) dX8_ground_28 ⟨by omega, by omega⟩ (by omega) (by omega) (by rw [c9]; decide) (by decide) ?_
        refine g_aload_n X dX8_ground_65 rfl ?_
        refine gf_X8_7 X fk12 dX8_ground_66 ?_
        refine g_bipush X dX8_ground_69 (by decide) ?_
        refine g_iload_n X dX8_ground_71 rfl ?_
        refine g_iadd X dX8_ground_72 ?_
        refine g_iald X fk13 fl13 (by omega) (by omega) (by decide) (hM1.at (n := (7 + k.toNat)) (by omega) (by omega)) dX8_ground_73 ?_
        exact R _ _ _ _ dX8_ground_74 ⟨congrArg (fun z => some (iv z)) (by first | (exfalso; omega) | (unfold groundX; (repeat (first | rw [if_pos (by omega)] | rw [if_neg (by omega)])); (first | done | rfl | exact congrArg s.1 (by omega)))), rfl⟩
      · skip
        refine g_tblIn X (tgt := 75) (off := 47) dX8_ground_28 ⟨by omega, by omega⟩ (by omega) (by omega) (by rw [c9]; decide) (by decide) ?_
        refine g_aload_n X dX8_ground_75 rfl ?_
        refine g_iload_n X dX8_ground_76 rfl ?_
        refine cl_X8_66 X (c_X8_begins l E σ s.1 N hM1 hR k (by omega) (by omega)) fk12 ⟨Nat.le_of_ble_eq_true rfl, Nat.le_of_ble_eq_true rfl⟩ rfl (Nat.le_of_ble_eq_true rfl) dX8_ground_77 rfl (fun v10 τ11 p12 => ?_)
        obtain ⟨rfl, rfl⟩ := p12
        exact R _ _ _ _ dX8_ground_80 ⟨congrArg (fun z => some (iv z)) (by first | (exfalso; omega) | (unfold groundX; (repeat (first | rw [if_pos (by omega)] | rw [if_neg (by omega)])); (first | done | rfl | exact congrArg s.1 (by omega)))), rfl⟩
      · skip
        refine g_tblOut X (tgt := 81) dX8_ground_28 ⟨by omega, by omega⟩ c9 (by decide) ?_
        refine g_aload_n X dX8_ground_81 rfl ?_
        refine g_iload_n X dX8_ground_82 rfl ?_
        refine cl_X8_69 X (c_X8_feetIn l E σ s.1 N hM1 hR k (by omega)) fk12 ⟨Nat.le_of_ble_eq_true rfl, Nat.le_of_ble_eq_true rfl⟩ rfl (Nat.le_of_ble_eq_true rfl) dX8_ground_83 rfl (fun v13 τ14 p15 => ?_)
        obtain ⟨rfl, rfl⟩ := p15
        have cb83 := cnt_bd ((feetP s.1 k)) (s.1 19).toNat
        exact R _ _ _ _ dX8_ground_86 ⟨congrArg (fun z => some (iv z)) (by first | (exfalso; omega) | (unfold groundX; (repeat (first | rw [if_pos (by omega)] | rw [if_neg (by omega)])); (first | done | rfl | exact congrArg s.1 (by omega)))), rfl⟩
    · skip
      skip
      refine g_if_ne X (tgt := 27) dX8_ground_22 (by decide) ⟨by decide, by decide⟩ (fun q => absurd q (by decide)) (fun _ => ?_)
      refine g_iconst X dX8_ground_25 ?_
      exact R _ _ _ _ dX8_ground_26 ⟨congrArg (fun z => some (iv z)) (by first | (exfalso; omega) | (unfold groundX; (repeat (first | rw [if_pos (by omega)] | rw [if_neg (by omega)])); (first | done | rfl | exact congrArg s.1 (by omega)))), rfl⟩
  · skip
    skip
    refine g_if_eq X (tgt := 25) dX8_ground_13 (by decide) ⟨by decide, by decide⟩ (fun _ => ?_) (fun q => absurd q (by decide))
    refine g_iconst X dX8_ground_25 ?_
    exact R _ _ _ _ dX8_ground_26 ⟨congrArg (fun z => some (iv z)) (by first | (exfalso; omega) | (unfold groundX; (repeat (first | rw [if_pos (by omega)] | rw [if_neg (by omega)])); (first | done | rfl | exact congrArg s.1 (by omega)))), rfl⟩
set_option maxHeartbeats 1000000 in
set_option maxRecDepth 100000 in
theorem c_X8_at (l : Launch) (E : wEnv) (σ : Mem) (s : St) (N : Int) (hM : MRep σ s) (hR : RInv s.1 N) (hN : N + 600 ≤ 400000) (d : Int) (hd : I32 d) : MetC l E yX8_at cX8_at 2 (some .int) 1 23 [rv E (12), iv (d)] σ (fun v σ' => v = some (iv (atX s d)) ∧ σ = σ') := by
  refine MetC.of (own := RX8) (by decide) rfl (by simp [Value.category]) (Nat.le_of_ble_eq_true rfl) [some (rv E (12)), some (iv (d))] rfl (by simp) (fun K X R => ?_)
  have hM1 := hM.1
  have hM2 := hM.2.1
  have hM3 := hM.2.2
  have r19 := hR.2.2.2.2.1
  have r0 := hR.1
  have rN := hR.2.2.2.2.2.1
  refine g_iload_n X dX8_at_0 rfl ?_
  refine g_iconst X dX8_at_1 ?_
  refine g_ldc X (n := 200000) dX8_at_2 wK_X8_72 (by decide) ?_
  refine cl_X8_51 X (c_X8_in l E σ d 0 200000 ⟨by omega, by omega⟩ ⟨by decide, by decide⟩ ⟨by decide, by decide⟩) ⟨Nat.le_of_ble_eq_true rfl, Nat.le_of_ble_eq_true rfl⟩ rfl (Nat.le_of_ble_eq_true rfl) dX8_at_4 rfl (fun v1 τ2 p3 => ?_)
  obtain ⟨rfl, ⟨b4, rfl⟩ | ⟨b4, rfl⟩⟩ := p3
  · skip
    skip
    refine g_if_eq X (tgt := 18) dX8_at_7 (by decide) ⟨by decide, by decide⟩ (fun q => absurd q (by decide)) (fun _ => ?_)
    refine g_aload_n X dX8_at_10 rfl ?_
    refine g_iload_n X dX8_at_11 rfl ?_
    refine cl_X8_58 X (c_X8_stratumAt l E σ s.1 N hM1 hR d ⟨by omega, by omega⟩) fk12 ⟨Nat.le_of_ble_eq_true rfl, Nat.le_of_ble_eq_true rfl⟩ rfl (Nat.le_of_ble_eq_true rfl) dX8_at_12 rfl (fun v5 τ6 p7 => ?_)
    obtain ⟨rfl, rfl⟩ := p7
    have ly12 := layR_le s.1 d
    refine g_goto X (tgt := 19) dX8_at_15 (by decide) ?_
    exact R _ _ _ _ dX8_at_19 ⟨congrArg (fun z => some (iv z)) (by first | (exfalso; omega) | (unfold atX; (repeat (first | rw [if_pos (by omega)] | rw [if_neg (by omega)])); (first | done | rfl | omega))), rfl⟩
  · skip
    skip
    refine g_if_eq X (tgt := 18) dX8_at_7 (by decide) ⟨by decide, by decide⟩ (fun _ => ?_) (fun q => absurd q (by decide))
    refine g_iconst X dX8_at_18 ?_
    exact R _ _ _ _ dX8_at_19 ⟨congrArg (fun z => some (iv z)) (by first | (exfalso; omega) | (unfold atX; (repeat (first | rw [if_pos (by omega)] | rw [if_neg (by omega)])); (first | done | rfl | omega))), rfl⟩
set_option maxHeartbeats 1000000 in
set_option maxRecDepth 100000 in
theorem c_X8_canBe (l : Launch) (E : wEnv) (σ : Mem) (k x : Int) (hk : I32 k) (hx : I32 x) : MetC l E yX8_canBe cX8_canBe 2 (some .boolean) 1 22 [iv (k), iv (x)] σ (fun v σ' => σ = σ' ∧ (((0 ≤ k ∧ k < 6) ∧ leastS.getD k.toNat 0 ≤ x ∧ x ≤ mostS.getD k.toNat 0) ∧ v = some (iv 1) ∨ ¬ ((0 ≤ k ∧ k < 6) ∧ leastS.getD k.toNat 0 ≤ x ∧ x ≤ mostS.getD k.toNat 0) ∧ v = some (iv 0))) := by
  refine MetC.of (own := RX8) (by decide) rfl (by simp [Value.category]) (Nat.le_of_ble_eq_true rfl) [some (iv (k)), some (iv (x))] rfl (by simp) (fun K X R => ?_)
  have lk : (k = 0 → leastS.getD k.toNat 0 = 100 ∧ mostS.getD k.toNat 0 = 10000) ∧ (k = 1 → leastS.getD k.toNat 0 = 10 ∧ mostS.getD k.toNat 0 = 100) ∧ (k = 2 → leastS.getD k.toNat 0 = 0 ∧ mostS.getD k.toNat 0 = 50) ∧ (k = 3 → leastS.getD k.toNat 0 = 100 ∧ mostS.getD k.toNat 0 = 500) ∧ (k = 4 → leastS.getD k.toNat 0 = 0 ∧ mostS.getD k.toNat 0 = 10000) ∧ (k = 5 → leastS.getD k.toNat 0 = 0 ∧ mostS.getD k.toNat 0 = 50) := by refine ⟨?_, ?_, ?_, ?_, ?_, ?_⟩ <;> (rintro rfl; decide)
  refine g_iload_n X dX8_canBe_0 rfl ?_
  rcases (show k = 0 ∨ k = 1 ∨ k = 2 ∨ k = 3 ∨ k = 4 ∨ k = 5 ∨ (k < 0 ∨ 5 < k) by omega) with c1 | c1 | c1 | c1 | c1 | c1 | c1
  · skip
    refine g_tblIn X (tgt := 40) (off := 39) dX8_canBe_1 ⟨by omega, by omega⟩ (by omega) (by omega) (by rw [c1]; decide) (by decide) ?_
    refine g_iload_n X dX8_canBe_40 rfl ?_
    refine g_bipush X dX8_canBe_41 (by decide) ?_
    refine g_sipush X dX8_canBe_43 (by decide) ?_
    refine cl_X8_51 X (c_X8_in l E σ x 100 10000 ⟨by omega, by omega⟩ ⟨by decide, by decide⟩ ⟨by decide, by decide⟩) ⟨Nat.le_of_ble_eq_true rfl, Nat.le_of_ble_eq_true rfl⟩ rfl (Nat.le_of_ble_eq_true rfl) dX8_canBe_46 rfl (fun v2 τ3 p4 => ?_)
    obtain ⟨rfl, ⟨b5, rfl⟩ | ⟨b5, rfl⟩⟩ := p4
    · skip
      skip
      exact R _ _ _ _ (Or.inr (by decide)) dX8_canBe_49 ⟨rfl, Or.inl ⟨by omega, rfl⟩⟩
    · skip
      skip
      exact R _ _ _ _ (Or.inl (by decide)) dX8_canBe_49 ⟨rfl, Or.inr ⟨by omega, rfl⟩⟩
  · skip
    refine g_tblIn X (tgt := 50) (off := 49) dX8_canBe_1 ⟨by omega, by omega⟩ (by omega) (by omega) (by rw [c1]; decide) (by decide) ?_
    refine g_iload_n X dX8_canBe_50 rfl ?_
    refine g_bipush X dX8_canBe_51 (by decide) ?_
    refine g_bipush X dX8_canBe_53 (by decide) ?_
    refine cl_X8_51 X (c_X8_in l E σ x 10 100 ⟨by omega, by omega⟩ ⟨by decide, by decide⟩ ⟨by decide, by decide⟩) ⟨Nat.le_of_ble_eq_true rfl, Nat.le_of_ble_eq_true rfl⟩ rfl (Nat.le_of_ble_eq_true rfl) dX8_canBe_55 rfl (fun v6 τ7 p8 => ?_)
    obtain ⟨rfl, ⟨b9, rfl⟩ | ⟨b9, rfl⟩⟩ := p8
    · skip
      skip
      exact R _ _ _ _ (Or.inr (by decide)) dX8_canBe_58 ⟨rfl, Or.inl ⟨by omega, rfl⟩⟩
    · skip
      skip
      exact R _ _ _ _ (Or.inl (by decide)) dX8_canBe_58 ⟨rfl, Or.inr ⟨by omega, rfl⟩⟩
  · skip
    refine g_tblIn X (tgt := 59) (off := 58) dX8_canBe_1 ⟨by omega, by omega⟩ (by omega) (by omega) (by rw [c1]; decide) (by decide) ?_
    refine g_iload_n X dX8_canBe_59 rfl ?_
    refine g_iconst X dX8_canBe_60 ?_
    refine g_bipush X dX8_canBe_61 (by decide) ?_
    refine cl_X8_51 X (c_X8_in l E σ x 0 50 ⟨by omega, by omega⟩ ⟨by decide, by decide⟩ ⟨by decide, by decide⟩) ⟨Nat.le_of_ble_eq_true rfl, Nat.le_of_ble_eq_true rfl⟩ rfl (Nat.le_of_ble_eq_true rfl) dX8_canBe_63 rfl (fun v10 τ11 p12 => ?_)
    obtain ⟨rfl, ⟨b13, rfl⟩ | ⟨b13, rfl⟩⟩ := p12
    · skip
      skip
      exact R _ _ _ _ (Or.inr (by decide)) dX8_canBe_66 ⟨rfl, Or.inl ⟨by omega, rfl⟩⟩
    · skip
      skip
      exact R _ _ _ _ (Or.inl (by decide)) dX8_canBe_66 ⟨rfl, Or.inr ⟨by omega, rfl⟩⟩
  · skip
    refine g_tblIn X (tgt := 67) (off := 66) dX8_canBe_1 ⟨by omega, by omega⟩ (by omega) (by omega) (by rw [c1]; decide) (by decide) ?_
    refine g_iload_n X dX8_canBe_67 rfl ?_
    refine g_bipush X dX8_canBe_68 (by decide) ?_
    refine g_sipush X dX8_canBe_70 (by decide) ?_
    refine cl_X8_51 X (c_X8_in l E σ x 100 500 ⟨by omega, by omega⟩ ⟨by decide, by decide⟩ ⟨by decide, by decide⟩) ⟨Nat.le_of_ble_eq_true rfl, Nat.le_of_ble_eq_true rfl⟩ rfl (Nat.le_of_ble_eq_true rfl) dX8_canBe_73 rfl (fun v14 τ15 p16 => ?_)
    obtain ⟨rfl, ⟨b17, rfl⟩ | ⟨b17, rfl⟩⟩ := p16
    · skip
      skip
      exact R _ _ _ _ (Or.inr (by decide)) dX8_canBe_76 ⟨rfl, Or.inl ⟨by omega, rfl⟩⟩
    · skip
      skip
      exact R _ _ _ _ (Or.inl (by decide)) dX8_canBe_76 ⟨rfl, Or.inr ⟨by omega, rfl⟩⟩
  · skip
    refine g_tblIn X (tgt := 77) (off := 76) dX8_canBe_1 ⟨by omega, by omega⟩ (by omega) (by omega) (by rw [c1]; decide) (by decide) ?_
    refine g_iload_n X dX8_canBe_77 rfl ?_
    refine g_iconst X dX8_canBe_78 ?_
    refine g_icmp_ne X (tgt := 97) dX8_canBe_79 (by decide) ⟨by omega, by omega⟩ ⟨by decide, by decide⟩ (fun c18 => ?_) (fun c18 => ?_)
    · skip
      refine g_iconst X dX8_canBe_97 ?_
      exact R _ _ _ _ (Or.inl (by decide)) dX8_canBe_98 ⟨rfl, Or.inr ⟨by omega, rfl⟩⟩
    · skip
      refine g_iload_n X dX8_canBe_82 rfl ?_
      refine g_iconst X dX8_canBe_83 ?_
      refine g_sipush X dX8_canBe_84 (by decide) ?_
      refine cl_X8_51 X (c_X8_in l E σ x 0 10000 ⟨by omega, by omega⟩ ⟨by decide, by decide⟩ ⟨by decide, by decide⟩) ⟨Nat.le_of_ble_eq_true rfl, Nat.le_of_ble_eq_true rfl⟩ rfl (Nat.le_of_ble_eq_true rfl) dX8_canBe_87 rfl (fun v19 τ20 p21 => ?_)
      obtain ⟨rfl, ⟨b22, rfl⟩ | ⟨b22, rfl⟩⟩ := p21
      · skip
        skip
        refine g_if_eq X (tgt := 97) dX8_canBe_90 (by decide) ⟨by decide, by decide⟩ (fun q => absurd q (by decide)) (fun _ => ?_)
        refine g_iconst X dX8_canBe_93 ?_
        refine g_goto X (tgt := 98) dX8_canBe_94 (by decide) ?_
        exact R _ _ _ _ (Or.inr (by decide)) dX8_canBe_98 ⟨rfl, Or.inl ⟨by omega, rfl⟩⟩
      · skip
        skip
        refine g_if_eq X (tgt := 97) dX8_canBe_90 (by decide) ⟨by decide, by decide⟩ (fun _ => ?_) (fun q => absurd q (by decide))
        refine g_iconst X dX8_canBe_97 ?_
        exact R _ _ _ _ (Or.inl (by decide)) dX8_canBe_98 ⟨rfl, Or.inr ⟨by omega, rfl⟩⟩
  · skip
    refine g_tblIn X (tgt := 59) (off := 58) dX8_canBe_1 ⟨by omega, by omega⟩ (by omega) (by omega) (by rw [c1]; decide) (by decide) ?_
    refine g_iload_n X dX8_canBe_59 rfl ?_
    refine g_iconst X dX8_canBe_60 ?_
    refine g_bipush X dX8_canBe_61 (by decide) ?_
    refine cl_X8_51 X (c_X8_in l E σ x 0 50 ⟨by omega, by omega⟩ ⟨by decide, by decide⟩ ⟨by decide, by decide⟩) ⟨Nat.le_of_ble_eq_true rfl, Nat.le_of_ble_eq_true rfl⟩ rfl (Nat.le_of_ble_eq_true rfl) dX8_canBe_63 rfl (fun v23 τ24 p25 => ?_)
    obtain ⟨rfl, ⟨b26, rfl⟩ | ⟨b26, rfl⟩⟩ := p25
    · skip
      skip
      exact R _ _ _ _ (Or.inr (by decide)) dX8_canBe_66 ⟨rfl, Or.inl ⟨by omega, rfl⟩⟩
    · skip
      skip
      exact R _ _ _ _ (Or.inl (by decide)) dX8_canBe_66 ⟨rfl, Or.inr ⟨by omega, rfl⟩⟩
  · skip
    refine g_tblOut X (tgt := 77) dX8_canBe_1 ⟨by omega, by omega⟩ c1 (by decide) ?_
    refine g_iload_n X dX8_canBe_77 rfl ?_
    refine g_iconst X dX8_canBe_78 ?_
    refine g_icmp_ne X (tgt := 97) dX8_canBe_79 (by decide) ⟨by omega, by omega⟩ ⟨by decide, by decide⟩ (fun c27 => ?_) (fun c27 => ?_)
    · skip
      refine g_iconst X dX8_canBe_97 ?_
      exact R _ _ _ _ (Or.inl (by decide)) dX8_canBe_98 ⟨rfl, Or.inr ⟨by omega, rfl⟩⟩
    · skip
      refine g_iload_n X dX8_canBe_82 rfl ?_
      refine g_iconst X dX8_canBe_83 ?_
      refine g_sipush X dX8_canBe_84 (by decide) ?_
      refine cl_X8_51 X (c_X8_in l E σ x 0 10000 ⟨by omega, by omega⟩ ⟨by decide, by decide⟩ ⟨by decide, by decide⟩) ⟨Nat.le_of_ble_eq_true rfl, Nat.le_of_ble_eq_true rfl⟩ rfl (Nat.le_of_ble_eq_true rfl) dX8_canBe_87 rfl (fun v28 τ29 p30 => ?_)
      obtain ⟨rfl, ⟨b31, rfl⟩ | ⟨b31, rfl⟩⟩ := p30
      · skip
        skip
        refine g_if_eq X (tgt := 97) dX8_canBe_90 (by decide) ⟨by decide, by decide⟩ (fun q => absurd q (by decide)) (fun _ => ?_)
        refine g_iconst X dX8_canBe_93 ?_
        refine g_goto X (tgt := 98) dX8_canBe_94 (by decide) ?_
        exact R _ _ _ _ (Or.inr (by decide)) dX8_canBe_98 ⟨rfl, Or.inl ⟨by omega, rfl⟩⟩
      · skip
        skip
        refine g_if_eq X (tgt := 97) dX8_canBe_90 (by decide) ⟨by decide, by decide⟩ (fun _ => ?_) (fun q => absurd q (by decide))
        refine g_iconst X dX8_canBe_97 ?_
        exact R _ _ _ _ (Or.inl (by decide)) dX8_canBe_98 ⟨rfl, Or.inr ⟨by omega, rfl⟩⟩
set_option maxHeartbeats 1000000 in
set_option maxRecDepth 100000 in
theorem c_X8_set (l : Launch) (E : wEnv) (σ : Mem) (s : St) (N : Int) (hM : MRep σ s) (hR : RInv s.1 N) (hN : N + 600 ≤ 400000) (k x : Int) (hk : I32 k) (hx : I32 x) : MetC l E yX8_set cX8_set 4 (some .int) 2 43 [rv E (12), iv (k), iv (x)] σ (fun v σ' => v = some (iv (setX s k x).1) ∧ MRep σ' (setX s k x).2 ∧ frC σ σ') := by
  refine MetC.of (own := RX8) (by decide) rfl (by simp [Value.category]) (Nat.le_of_ble_eq_true rfl) [some (rv E (12)), some (iv (k)), some (iv (x)), none] rfl (by simp) (fun K X R => ?_)
  have hM1 := hM.1
  have hM2 := hM.2.1
  have hM3 := hM.2.2
  have r19 := hR.2.2.2.2.1
  have r0 := hR.1
  have rN := hR.2.2.2.2.2.1
  refine g_iload_n X dX8_set_0 rfl ?_
  refine g_iload_n X dX8_set_1 rfl ?_
  refine cl_X8_73 X (c_X8_canBe l E σ k x ⟨by omega, by omega⟩ ⟨by omega, by omega⟩) ⟨Nat.le_of_ble_eq_true rfl, Nat.le_of_ble_eq_true rfl⟩ rfl (Nat.le_of_ble_eq_true rfl) dX8_set_2 rfl (fun v1 τ2 p3 => ?_)
  obtain ⟨rfl, ⟨b4, rfl⟩ | ⟨b4, rfl⟩⟩ := p3
  · skip
    skip
    refine g_if_ne X (tgt := 10) dX8_set_5 (by decide) ⟨by decide, by decide⟩ (fun _ => ?_) (fun q => absurd q (by decide))
    refine g_aload_n X dX8_set_10 rfl ?_
    refine cl_X8_55 X (c_X8_records l E σ s.2.1 s.2.2.1 s.1 hM1 hM2) fk12 ⟨Nat.le_of_ble_eq_true rfl, Nat.le_of_ble_eq_true rfl⟩ rfl (Nat.le_of_ble_eq_true rfl) dX8_set_11 rfl (fun v5 τ6 p7 => ?_)
    obtain ⟨rfl, hH11, hF11, hG11⟩ := p7
    have hM11 := hM1.fr (hF11 13 (by decide) (by decide) (by decide)) (hF11 15 (by decide) (by decide) (by decide))
    refine g_aload_n X dX8_set_14 rfl ?_
    refine gf_X8_7 X fk12 dX8_set_15 ?_
    refine g_bipush X dX8_set_18 (by decide) ?_
    refine g_iload_n X dX8_set_20 rfl ?_
    refine g_iadd X dX8_set_21 ?_
    refine g_iald X fk13 fl13 (by omega) (by omega) (by decide) (hM11.at (n := (13 + k.toNat)) (by omega) (by omega)) dX8_set_22 ?_
    refine g_istore_n X (lw := [some (rv E (12)), some (iv (k)), some (iv (x)), some (iv (s.1 (13 + k.toNat)))]) dX8_set_23 (by decide) rfl rfl ?_
    refine g_aload_n X dX8_set_24 rfl ?_
    refine gf_X8_7 X fk12 dX8_set_25 ?_
    refine g_bipush X dX8_set_28 (by decide) ?_
    refine g_iload_n X dX8_set_30 rfl ?_
    refine g_iadd X dX8_set_31 ?_
    refine g_iload_n X dX8_set_32 rfl ?_
    refine g_iast X fk13 fl13 (by omega) (by omega) (by decide) dX8_set_33 ?_
    refine g_iload_n X dX8_set_34 rfl ?_
    exact R _ _ _ _ dX8_set_35 (by unfold setX; (repeat (first | rw [if_pos (by omega)] | rw [if_neg (by omega)])); exact ⟨rfl, hM.chg hH11 hF11 hG11 (by rw [show (13 + k).toNat = 13 + k.toNat by omega]; exact (hM11.put (n := 13 + k.toNat) (v := x) (by omega)).congr (fun n _ => sett_eq n)) (frR.refl.up (Or.inl rfl))⟩)
  · skip
    skip
    refine g_if_ne X (tgt := 10) dX8_set_5 (by decide) ⟨by decide, by decide⟩ (fun q => absurd q (by decide)) (fun _ => ?_)
    refine g_iconst X dX8_set_8 ?_
    exact R _ _ _ _ dX8_set_9 (by first | (exfalso; omega) | (unfold setX; (repeat (first | rw [if_pos (by omega)] | rw [if_neg (by omega)])); exact ⟨rfl, hM, frC.refl⟩))
theorem mtype_rep {σ : Mem} {s : St} (hM : MRep σ s) {c : Int} (hL : s.2.2.2.1 < 80) : MRep (up (up σ 17 (((s.2.2.2.1 : Nat) : Int)).toNat c) 12 6 (((s.2.2.2.1 : Nat) : Int) + 1)) (s.1, s.2.1, s.2.2.1, s.2.2.2.1 + 1, fun j => if j = s.2.2.2.1 then c else s.2.2.2.2 j) ∧ frC σ (up (up σ 17 (((s.2.2.2.1 : Nat) : Int)).toNat c) 12 6 (((s.2.2.2.1 : Nat) : Int) + 1)) := by
  obtain ⟨h1, h2, t1, t2, t3⟩ := hM
  have fr : ∀ x, x ≠ 12 → x ≠ 17 → (up (up σ 17 (((s.2.2.2.1 : Nat) : Int)).toNat c) 12 6 (((s.2.2.2.1 : Nat) : Int) + 1)) x = σ x := fun x a b => by rw [up_neC _ _ a, up_neC _ _ b]
  have e12 : ∀ j, j ≠ 6 → (up (up σ 17 (((s.2.2.2.1 : Nat) : Int)).toNat c) 12 6 (((s.2.2.2.1 : Nat) : Int) + 1)) 12 j = σ 12 j := fun j hj => by rw [up_ne _ _ (Or.inr hj), up_ne _ _ (Or.inl (by decide))]
  refine ⟨⟨h1.fr (fr 13 (by decide) (by decide)) (fr 15 (by decide) (by decide)), ?_, ?_⟩, fun x hx => fr x (by omega) (by omega)⟩
  · unfold MH
    rw [e12 4 (by decide), fr 14 (by decide) (by decide), fr 16 (by decide) (by decide)]
    exact h2
  · refine ⟨by show s.2.2.2.1 + 1 ≤ 80; omega, by rw [up_same]; rfl, fun j hj => ?_⟩
    have hj2 : j < s.2.2.2.1 + 1 := hj
    show (up (up σ 17 (((s.2.2.2.1 : Nat) : Int)).toNat c) 12 6 (((s.2.2.2.1 : Nat) : Int) + 1)) 17 j = (if j = s.2.2.2.1 then c else s.2.2.2.2 j)
    rw [up_ne _ _ (Or.inl (by decide)), Int.toNat_natCast]
    by_cases h : j = s.2.2.2.1
    · subst h; rw [if_pos rfl, up_same]
    · rw [if_neg h, up_ne _ _ (Or.inr h)]
      exact t3 j (by omega)
theorem mclear_rep {σ : Mem} {s : St} (hM : MRep σ s) : MRep (up σ 12 6 0) (s.1, s.2.1, s.2.2.1, 0, s.2.2.2.2) ∧ frC σ (up σ 12 6 0) := by
  obtain ⟨h1, h2, t1, t2, t3⟩ := hM
  have fr : ∀ x, x ≠ 12 → (up σ 12 6 0) x = σ x := fun x a => by rw [up_neC _ _ a]
  refine ⟨⟨h1.fr (fr 13 (by decide)) (fr 15 (by decide)), ?_, ?_⟩, fun x hx => fr x (by omega)⟩
  · unfold MH
    rw [up_ne _ _ (Or.inr (by decide)), fr 14 (by decide), fr 16 (by decide)]
    exact h2
  · exact ⟨by show (0 : Nat) ≤ 80; omega, by rw [up_same]; rfl, fun j hj => absurd hj (Nat.not_lt_zero j)⟩
set_option maxHeartbeats 1000000 in
set_option maxRecDepth 100000 in
theorem c_X8_type (l : Launch) (E : wEnv) (σ : Mem) (s : St) (N : Int) (hM : MRep σ s) (hR : RInv s.1 N) (hN : N + 600 ≤ 400000) (c : Int) (hc : I32 c) : MetC l E yX8_type cX8_type 2 (some .int) 1 22 [rv E (12), iv (c)] σ (fun v σ' => v = some (iv (typeX s c).1) ∧ MRep σ' (typeX s c).2 ∧ frC σ σ') := by
  refine MetC.of (own := RX8) (by decide) rfl (by simp [Value.category]) (Nat.le_of_ble_eq_true rfl) [some (rv E (12)), some (iv (c))] rfl (by simp) (fun K X R => ?_)
  have hM1 := hM.1
  have hM2 := hM.2.1
  have hM3 := hM.2.2
  have r19 := hR.2.2.2.2.1
  have r0 := hR.1
  have rN := hR.2.2.2.2.2.1
  have hL := hM3.1
  refine g_iload_n X dX8_type_0 rfl ?_
  refine g_bipush X dX8_type_1 (by decide) ?_
  refine g_bipush X dX8_type_3 (by decide) ?_
  refine cl_X8_51 X (c_X8_in l E σ c 32 126 ⟨by omega, by omega⟩ ⟨by decide, by decide⟩ ⟨by decide, by decide⟩) ⟨Nat.le_of_ble_eq_true rfl, Nat.le_of_ble_eq_true rfl⟩ rfl (Nat.le_of_ble_eq_true rfl) dX8_type_5 rfl (fun v1 τ2 p3 => ?_)
  obtain ⟨rfl, ⟨b4, rfl⟩ | ⟨b4, rfl⟩⟩ := p3
  · skip
    skip
    refine g_if_ne X (tgt := 13) dX8_type_8 (by decide) ⟨by decide, by decide⟩ (fun _ => ?_) (fun q => absurd q (by decide))
    refine g_aload_n X dX8_type_13 rfl ?_
    refine gf_X8_81 X fk12 (show σ 12 6 = ((s.2.2.2.1 : Nat) : Int) from hM3.2.1) dX8_type_14 ?_
    refine g_bipush X dX8_type_17 (by decide) ?_
    refine g_icmp_ne X (tgt := 25) dX8_type_19 (by decide) ⟨by omega, by omega⟩ ⟨by decide, by decide⟩ (fun c5 => ?_) (fun c5 => ?_)
    · skip
      refine g_aload_n X dX8_type_25 rfl ?_
      refine gf_X8_23 X fk12 dX8_type_26 ?_
      refine g_aload_n X dX8_type_29 rfl ?_
      refine gf_X8_81 X fk12 (show σ 12 6 = ((s.2.2.2.1 : Nat) : Int) from hM3.2.1) dX8_type_30 ?_
      refine g_iload_n X dX8_type_33 rfl ?_
      refine g_iast X fk17 fl17 (by omega) (by omega) (by decide) dX8_type_34 ?_
      refine g_aload_n X dX8_type_35 rfl ?_
      refine g_dup X dX8_type_36 rfl ?_
      refine gf_X8_81 X fk12 (up_ne1 (by omega) (show σ 12 6 = ((s.2.2.2.1 : Nat) : Int) from hM3.2.1)) dX8_type_37 ?_
      refine g_iconst X dX8_type_40 ?_
      refine g_iadd X dX8_type_41 ?_
      refine pf_X8_81 X fk12 dX8_type_42 ?_
      refine g_aload_n X dX8_type_45 rfl ?_
      refine gf_X8_81 X fk12 (up_same _ _ _ _) dX8_type_46 ?_
      exact R _ _ _ _ dX8_type_49 (by unfold typeX; (repeat (first | rw [if_pos (by omega)] | rw [if_neg (by omega)])); exact ⟨rfl, mtype_rep hM (by omega)⟩)
    · skip
      refine g_bipush X dX8_type_22 (by decide) ?_
      exact R _ _ _ _ dX8_type_24 (by first | (exfalso; omega) | (unfold typeX; (repeat (first | rw [if_pos (by omega)] | rw [if_neg (by omega)])); exact ⟨rfl, hM, frC.refl⟩))
  · skip
    skip
    refine g_if_ne X (tgt := 13) dX8_type_8 (by decide) ⟨by decide, by decide⟩ (fun q => absurd q (by decide)) (fun _ => ?_)
    refine g_iconst X dX8_type_11 ?_
    exact R _ _ _ _ dX8_type_12 (by first | (exfalso; omega) | (unfold typeX; (repeat (first | rw [if_pos (by omega)] | rw [if_neg (by omega)])); exact ⟨rfl, hM, frC.refl⟩))
set_option maxHeartbeats 1000000 in
set_option maxRecDepth 100000 in
theorem c_X8_clearText (l : Launch) (E : wEnv) (σ : Mem) (s : St) (N : Int) (hM : MRep σ s) (hR : RInv s.1 N) (hN : N + 600 ≤ 400000) : MetC l E yX8_clearText cX8_clearText 2 (some .int) 0 0 [rv E (12)] σ (fun v σ' => v = some (iv (clearX s).1) ∧ MRep σ' (clearX s).2 ∧ frC σ σ') := by
  refine MetC.of (own := RX8) (by decide) rfl (by simp [Value.category]) (Nat.le_of_ble_eq_true rfl) [some (rv E (12)), none] rfl (by simp) (fun K X R => ?_)
  have hM1 := hM.1
  have hM2 := hM.2.1
  have hM3 := hM.2.2
  have r19 := hR.2.2.2.2.1
  have r0 := hR.1
  have rN := hR.2.2.2.2.2.1
  have hL := hM3.1
  refine g_aload_n X dX8_clearText_0 rfl ?_
  refine gf_X8_81 X fk12 (show σ 12 6 = ((s.2.2.2.1 : Nat) : Int) from hM3.2.1) dX8_clearText_1 ?_
  refine g_istore_n X (lw := [some (rv E (12)), some (iv (((s.2.2.2.1 : Nat) : Int)))]) dX8_clearText_4 (by decide) rfl rfl ?_
  refine g_aload_n X dX8_clearText_5 rfl ?_
  refine g_iconst X dX8_clearText_6 ?_
  refine pf_X8_81 X fk12 dX8_clearText_7 ?_
  refine g_iload_n X dX8_clearText_10 rfl ?_
  exact R _ _ _ _ dX8_clearText_11 ⟨rfl, mclear_rep hM⟩
