/-! ===== contracts: orders of driving, of the class ===== -/
set_option maxHeartbeats 1000000 in
set_option maxRecDepth 100000 in
theorem c_X3_collect (l : Launch) (E : wEnv) (σ : Mem) (r : Row) (N : Int) (hS : SRep σ 25 r) (hR : RInv r N) (h5 : (freshL r).length < 6) : MetC l E yX3_collect cX3_collect 4 none 1 21 [rv E (7), rv E (25)] σ (fun v σ' => v = none ∧ LstR σ' 7 5 10 (freshP r) (r 19).toNat ∧ (∀ x, x ≠ 7 → x ≠ 10 → σ' x = σ x) ∧ ∀ j, j ≠ 5 → σ' 7 j = σ 7 j) := by
  refine MetC.of (own := RX3) (by decide) rfl (by simp [Value.category]) (Nat.le_of_ble_eq_true rfl) [some (rv E (7)), some (rv E (25)), none, none] rfl (by simp) (fun K X R => ?_)
  have r19 := hR.2.2.2.2.1
  have r0 := hR.1
  have rN := hR.2.2.2.2.2.1
  refine g_aload_n X dX3_collect_0 rfl ?_
  refine g_iconst X dX3_collect_1 ?_
  refine pf_X3_55 X fk7 dX3_collect_2 ?_
  refine g_iconst X dX3_collect_5 ?_
  refine g_istore_n X (lw := [some (rv E (7)), some (rv E (25)), some (iv (0)), none]) dX3_collect_6 (by decide) rfl rfl ?_
  have L1 : ∀ (fu : Nat) (τ : Mem) (i : Int), (0 ≤ i) → (i ≤ r 19) → (LstR τ 7 5 10 (freshP r) i.toNat) → ((∀ x, x ≠ 7 → x ≠ 10 → τ x = σ x) ∧ ∀ j, j ≠ 5 → τ 7 j = σ 7 j) → r 19 - i < (fu : Int) → K τ 7 [some (rv E (7)), some (rv E (25)), some (iv (i)), none] [] := by
    intro fu
    induction fu with
    | zero =>
      intro τ i j1 j2 jL jf hm
      exact absurd hm (by omega)
    | succ fu ih1 =>
      intro τ i j1 j2 jL jf hm
      have fs : i < r 19 → r (24 + 91 * i.toNat + 4) = 0 → (((filt (freshP r) i.toNat).length : Nat) : Int) + 1 ≤ 5 := fun a b => by { have q := filt_s (freshP r) (m := i.toNat) (n := (r 19).toNat) (by omega) (decide_eq_true b); unfold freshL at h5; omega }
      have fn := filt_n (freshP r) i.toNat
      have jS : SRep τ 25 r := hS.fr hR (fun x _ _ => jf.1 x (by omega) (by omega))
      have jL1 := jL.1
      refine g_iload_n X dX3_collect_7 rfl ?_
      refine g_aload_n X dX3_collect_8 rfl ?_
      refine gf_X3_58 X now_k (jS.2.2.2.2.1) dX3_collect_9 ?_
      refine g_icmp_ge X (tgt := 70) dX3_collect_12 (by decide) ⟨by omega, by omega⟩ ⟨by omega, by omega⟩ (fun c2 => ?_) (fun c2 => ?_)
      · skip
        exact R _ _ _ dX3_collect_70 ⟨rfl, by rw [show i.toNat = (r 19).toNat by omega] at jL; exact jL, jf⟩
      · skip
        refine g_aload_n X dX3_collect_15 rfl ?_
        refine g_iload_n X dX3_collect_16 rfl ?_
        refine cl_X3_61 X (cs_X6_pileAt l E τ 25 r N now_k jS hR i (by omega) (by omega)) now_k ⟨Nat.le_of_ble_eq_true rfl, Nat.le_of_ble_eq_true rfl⟩ rfl (Nat.le_of_ble_eq_true rfl) dX3_collect_17 rfl (fun v3 τ4 p5 => ?_)
        obtain ⟨rfl, rfl⟩ := p5
        have hp17 := (jS.2.2.2.2.2.2 (i).toNat (by omega))
        have hf17 := hp17.f
        have hi17 := hR.2.2.2.2.2.2 (i).toNat (by omega)
        have hj17 := hi17.f
        refine g_astore_n X (lw := [some (rv E (7)), some (rv E (25)), some (iv (i)), some (rv E ((25 + 5 + 1 + 3 * (i).toNat)))]) dX3_collect_20 (by decide) rfl rfl ?_
        refine g_aload_n X dX3_collect_21 rfl ?_
        refine g_ifnull X dX3_collect_22 ?_
        refine g_aload_n X dX3_collect_25 rfl ?_
        refine gf_X3_65 X (stP now_k (i).toNat (by omega)) ((jS.2.2.2.2.2.2 (i).toNat (by omega)).f.2.2.2.2.2.1) dX3_collect_26 ?_
        refine g_if_ne X (tgt := 64) dX3_collect_29 (by decide) ⟨by omega, by omega⟩ (fun c6 => ?_) (fun c6 => ?_)
        · skip
          refine g_iinc X (lw := [some (rv E (7)), some (rv E (25)), some (iv (i + 1)), some (rv E ((25 + 5 + 1 + 3 * (i).toNat)))]) dX3_collect_64 rfl (by decide) rfl rfl ?_
          refine g_goto X (tgt := 7) dX3_collect_67 (by decide) ?_
          refine g_kill X 3 (lw := [some (rv E (7)), some (rv E (25)), some (iv (i + 1)), none]) rfl ?_
          exact ih1 τ  (i + 1) (by omega) (by omega) (by rw [show (i + 1).toNat = i.toNat + 1 by omega]; exact lst_no jL (fun q => absurd (of_decide_eq_true q) (by omega))) (by exact jf) (by omega)
        · skip
          refine g_aload_n X dX3_collect_32 rfl ?_
          refine gf_X3_55 X fk7 (show τ 7 5 = (((filt (freshP r) i.toNat).length : Nat) : Int) from jL.1) dX3_collect_33 ?_
          refine g_aload_n X dX3_collect_36 rfl ?_
          refine gf_X3_18 X fk7 dX3_collect_37 ?_
          refine g_alen13 X fk10 fl10 dX3_collect_40 ?_
          refine g_icmp_ge X (tgt := 64) dX3_collect_41 (by decide) ⟨by omega, by omega⟩ ⟨by decide, by decide⟩ (fun c7 => ?_) (fun c7 => ?_)
          · skip
            refine g_iinc X (lw := [some (rv E (7)), some (rv E (25)), some (iv (i + 1)), some (rv E ((25 + 5 + 1 + 3 * (i).toNat)))]) dX3_collect_64 rfl (by decide) rfl rfl ?_
            refine g_goto X (tgt := 7) dX3_collect_67 (by decide) ?_
            refine g_kill X 3 (lw := [some (rv E (7)), some (rv E (25)), some (iv (i + 1)), none]) rfl ?_
            exact ih1 τ  (i + 1) (by omega) (by omega) (by rw [show (i + 1).toNat = i.toNat + 1 by omega]; exact lst_no jL (fun q => absurd (of_decide_eq_true q) (by omega))) (by exact jf) (by omega)
          · skip
            refine g_aload_n X dX3_collect_44 rfl ?_
            refine gf_X3_18 X fk7 dX3_collect_45 ?_
            refine g_aload_n X dX3_collect_48 rfl ?_
            refine gf_X3_55 X fk7 (show τ 7 5 = (((filt (freshP r) i.toNat).length : Nat) : Int) from jL.1) dX3_collect_49 ?_
            refine g_iload_n X dX3_collect_52 rfl ?_
            refine g_iast X fk10 fl10 (by omega) (by omega) (by decide) dX3_collect_53 ?_
            refine g_aload_n X dX3_collect_54 rfl ?_
            refine g_dup X dX3_collect_55 rfl ?_
            refine gf_X3_55 X fk7 (up_ne1 (by omega) (show τ 7 5 = (((filt (freshP r) i.toNat).length : Nat) : Int) from jL.1)) dX3_collect_56 ?_
            refine g_iconst X dX3_collect_59 ?_
            refine g_iadd X dX3_collect_60 ?_
            refine pf_X3_55 X fk7 dX3_collect_61 ?_
            refine g_iinc X (lw := [some (rv E (7)), some (rv E (25)), some (iv (i + 1)), some (rv E ((25 + 5 + 1 + 3 * (i).toNat)))]) dX3_collect_64 rfl (by decide) rfl rfl ?_
            refine g_goto X (tgt := 7) dX3_collect_67 (by decide) ?_
            refine g_kill X 3 (lw := [some (rv E (7)), some (rv E (25)), some (iv (i + 1)), none]) rfl ?_
            exact ih1 (up (up τ 10 (((((filt (freshP r) i.toNat).length : Nat) : Int)).toNat) (i)) 7 5 ((((filt (freshP r) i.toNat).length : Nat) : Int) + 1))  (i + 1) (by omega) (by omega) (by rw [show (i + 1).toNat = i.toNat + 1 by omega]; first | exact lst_yes jL (decide_eq_true (by omega)) (by decide) (by omega) (by omega) (by omega)) (by exact ⟨fun x a b => by rw [up_neC _ _ a, up_neC _ _ b]; exact jf.1 x a b, fun j hj => by rw [up_ne _ _ (Or.inr hj), up_ne _ _ (Or.inl (by decide))]; exact jf.2 j hj⟩) (by omega)
  exact L1 _ (up σ 7 5 (0))  0 (by omega) (by omega) (by exact ⟨up_same _ _ _ _, fun j hj => absurd hj (Nat.not_lt_zero j)⟩) (by exact ⟨fun x a b => up_neC _ _ a, fun j hj => up_ne _ _ (Or.inr hj)⟩) (by exact Int.lt_toNat_succ _)
set_option maxHeartbeats 1000000 in
set_option maxRecDepth 100000 in
theorem c_X3_findNear (l : Launch) (E : wEnv) (σ : Mem) (r : Row) (N : Int) (hS : SRep σ 25 r) (hR : RInv r N) (p : Nat) (hp : (p : Int) < r 19) : MetC l E yX3_findNear cX3_findNear 5 none 2 44 [rv E (7), rv E (25), rv E ((25 + 5 + 1 + 3 * p))] σ (fun v σ' => v = none ∧ LstR σ' 7 2 9 (nearB r p) (r 19).toNat ∧ (∀ x, x ≠ 7 → x ≠ 9 → σ' x = σ x) ∧ ∀ j, j ≠ 2 → σ' 7 j = σ 7 j) := by
  refine MetC.of (own := RX3) (by decide) rfl (by simp [Value.category]) (Nat.le_of_ble_eq_true rfl) [some (rv E (7)), some (rv E (25)), some (rv E ((25 + 5 + 1 + 3 * p))), none, none] rfl (by simp) (fun K X R => ?_)
  have r19 := hR.2.2.2.2.1
  have r0 := hR.1
  have rN := hR.2.2.2.2.2.1
  refine g_aload_n X dX3_findNear_0 rfl ?_
  refine g_iconst X dX3_findNear_1 ?_
  refine pf_X3_98 X fk7 dX3_findNear_2 ?_
  refine g_iconst X dX3_findNear_5 ?_
  refine g_istore_n X (lw := [some (rv E (7)), some (rv E (25)), some (rv E ((25 + 5 + 1 + 3 * p))), some (iv (0)), none]) dX3_findNear_6 (by decide) rfl rfl ?_
  have L1 : ∀ (fu : Nat) (τ : Mem) (i : Int), (0 ≤ i) → (i ≤ r 19) → (LstR τ 7 2 9 (nearB r p) i.toNat) → ((∀ x, x ≠ 7 → x ≠ 9 → τ x = σ x) ∧ ∀ j, j ≠ 2 → τ 7 j = σ 7 j) → r 19 - i < (fu : Int) → K τ 7 [some (rv E (7)), some (rv E (25)), some (rv E ((25 + 5 + 1 + 3 * p))), some (iv (i)), none] [] := by
    intro fu
    induction fu with
    | zero =>
      intro τ i j1 j2 jL jf hm
      exact absurd hm (by omega)
    | succ fu ih1 =>
      intro τ i j1 j2 jL jf hm
      have fn := filt_n (nearB r p) i.toNat
      have jS : SRep τ 25 r := hS.fr hR (fun x _ _ => jf.1 x (by omega) (by omega))
      have jL1 := jL.1
      refine g_iload_n X dX3_findNear_7 rfl ?_
      refine g_aload_n X dX3_findNear_8 rfl ?_
      refine gf_X3_58 X now_k (jS.2.2.2.2.1) dX3_findNear_9 ?_
      refine g_icmp_ge X (tgt := 75) dX3_findNear_12 (by decide) ⟨by omega, by omega⟩ ⟨by omega, by omega⟩ (fun c2 => ?_) (fun c2 => ?_)
      · skip
        exact R _ _ _ dX3_findNear_75 ⟨rfl, by rw [show i.toNat = (r 19).toNat by omega] at jL; exact jL, jf⟩
      · skip
        refine g_aload_n X dX3_findNear_15 rfl ?_
        refine gf_X3_98 X fk7 (show τ 7 2 = (((filt (nearB r p) i.toNat).length : Nat) : Int) from jL.1) dX3_findNear_16 ?_
        refine g_aload_n X dX3_findNear_19 rfl ?_
        refine gf_X3_15 X fk7 dX3_findNear_20 ?_
        refine g_alen13 X fk9 fl9 dX3_findNear_23 ?_
        refine g_icmp_ge X (tgt := 75) dX3_findNear_24 (by decide) ⟨by omega, by omega⟩ ⟨by decide, by decide⟩ (fun c3 => ?_) (fun c3 => ?_)
        · skip
          exact R _ _ _ dX3_findNear_75 ⟨rfl, by rw [show i.toNat = (r 19).toNat by omega] at jL; exact jL, jf⟩
        · skip
          refine g_aload_n X dX3_findNear_27 rfl ?_
          refine g_iload_n X dX3_findNear_28 rfl ?_
          refine cl_X3_61 X (cs_X6_pileAt l E τ 25 r N now_k jS hR i (by omega) (by omega)) now_k ⟨Nat.le_of_ble_eq_true rfl, Nat.le_of_ble_eq_true rfl⟩ rfl (Nat.le_of_ble_eq_true rfl) dX3_findNear_29 rfl (fun v4 τ5 p6 => ?_)
          obtain ⟨rfl, rfl⟩ := p6
          have hp29 := (jS.2.2.2.2.2.2 (i).toNat (by omega))
          have hf29 := hp29.f
          have hi29 := hR.2.2.2.2.2.2 (i).toNat (by omega)
          have hj29 := hi29.f
          refine g_astore X (lw := [some (rv E (7)), some (rv E (25)), some (rv E ((25 + 5 + 1 + 3 * p))), some (iv (i)), some (rv E ((25 + 5 + 1 + 3 * (i).toNat)))]) dX3_findNear_32 (by decide) rfl rfl ?_
          refine g_aload X dX3_findNear_34 rfl ?_
          refine g_ifnull X dX3_findNear_36 ?_
          refine g_aload_n X dX3_findNear_39 rfl ?_
          refine g_aload_n X dX3_findNear_40 rfl ?_
          refine g_aload X dX3_findNear_41 rfl ?_
          refine cl_X3_101 X (c_X6_areNear l E τ 25 r N now_k jS hR p ((i).toNat) (by omega) (by omega) ) now_k ⟨Nat.le_of_ble_eq_true rfl, Nat.le_of_ble_eq_true rfl⟩ rfl (Nat.le_of_ble_eq_true rfl) dX3_findNear_43 rfl (fun v7 τ8 p9 => ?_)
          obtain ⟨rfl, ⟨b10, rfl⟩ | ⟨b10, rfl⟩⟩ := p9
          · skip
            skip
            refine g_if_eq X (tgt := 69) dX3_findNear_46 (by decide) ⟨by decide, by decide⟩ (fun q => absurd q (by decide)) (fun _ => ?_)
            refine g_aload_n X dX3_findNear_49 rfl ?_
            refine gf_X3_15 X fk7 dX3_findNear_50 ?_
            refine g_aload_n X dX3_findNear_53 rfl ?_
            refine gf_X3_98 X fk7 (show τ 7 2 = (((filt (nearB r p) i.toNat).length : Nat) : Int) from jL.1) dX3_findNear_54 ?_
            refine g_iload_n X dX3_findNear_57 rfl ?_
            refine g_iast X fk9 fl9 (by omega) (by omega) (by decide) dX3_findNear_58 ?_
            refine g_aload_n X dX3_findNear_59 rfl ?_
            refine g_dup X dX3_findNear_60 rfl ?_
            refine gf_X3_98 X fk7 (up_ne1 (by omega) (show τ 7 2 = (((filt (nearB r p) i.toNat).length : Nat) : Int) from jL.1)) dX3_findNear_61 ?_
            refine g_iconst X dX3_findNear_64 ?_
            refine g_iadd X dX3_findNear_65 ?_
            refine pf_X3_98 X fk7 dX3_findNear_66 ?_
            refine g_iinc X (lw := [some (rv E (7)), some (rv E (25)), some (rv E ((25 + 5 + 1 + 3 * p))), some (iv (i + 1)), some (rv E ((25 + 5 + 1 + 3 * (i).toNat)))]) dX3_findNear_69 rfl (by decide) rfl rfl ?_
            refine g_goto X (tgt := 7) dX3_findNear_72 (by decide) ?_
            refine g_kill X 4 (lw := [some (rv E (7)), some (rv E (25)), some (rv E ((25 + 5 + 1 + 3 * p))), some (iv (i + 1)), none]) rfl ?_
            exact ih1 (up (up τ 9 (((((filt (nearB r p) i.toNat).length : Nat) : Int)).toNat) (i)) 7 2 ((((filt (nearB r p) i.toNat).length : Nat) : Int) + 1))  (i + 1) (by omega) (by omega) (by rw [show (i + 1).toNat = i.toNat + 1 by omega]; exact lst_yes jL (by assumption) (by decide) (by omega) (by omega) (by omega)) (by exact ⟨fun x a b => by rw [up_neC _ _ a, up_neC _ _ b]; exact jf.1 x a b, fun j hj => by rw [up_ne _ _ (Or.inr hj), up_ne _ _ (Or.inl (by decide))]; exact jf.2 j hj⟩) (by omega)
          · skip
            skip
            refine g_if_eq X (tgt := 69) dX3_findNear_46 (by decide) ⟨by decide, by decide⟩ (fun _ => ?_) (fun q => absurd q (by decide))
            refine g_iinc X (lw := [some (rv E (7)), some (rv E (25)), some (rv E ((25 + 5 + 1 + 3 * p))), some (iv (i + 1)), some (rv E ((25 + 5 + 1 + 3 * (i).toNat)))]) dX3_findNear_69 rfl (by decide) rfl rfl ?_
            refine g_goto X (tgt := 7) dX3_findNear_72 (by decide) ?_
            refine g_kill X 4 (lw := [some (rv E (7)), some (rv E (25)), some (rv E ((25 + 5 + 1 + 3 * p))), some (iv (i + 1)), none]) rfl ?_
            exact ih1 τ  (i + 1) (by omega) (by omega) (by rw [show (i + 1).toNat = i.toNat + 1 by omega]; exact lst_no jL (by assumption)) (by exact jf) (by omega)
  exact L1 _ (up σ 7 2 (0))  0 (by omega) (by omega) (by exact ⟨up_same _ _ _ _, fun j hj => absurd hj (Nat.not_lt_zero j)⟩) (by exact ⟨fun x a b => up_neC _ _ a, fun j hj => up_ne _ _ (Or.inr hj)⟩) (by exact Int.lt_toNat_succ _)
set_option maxHeartbeats 1000000 in
set_option maxRecDepth 100000 in
theorem c_X3_liftNear (l : Launch) (E : wEnv) (σ : Mem) (r : Row) (p n : Nat) (ft : Ft) (hN : LstR σ 7 2 9 (nearB r p) n) (hn : n ≤ 10) (hF : FR σ 8 n ft) (hB : ∀ q, q < n → 0 ≤ ft q ∧ ft q ≤ 50000) (b z : Int) (hb : I32 b) (hz : 0 ≤ z ∧ z ≤ 250) : MetC l E yX3_liftNear cX3_liftNear 7 (some .int) 2 43 [rv E (7), iv (b), iv (z)] σ (fun v σ' => v = some (iv (liftsF r p b z ft n).2) ∧ FR σ' 8 n (liftsF r p b z ft n).1 ∧ ∀ x, x ≠ 8 → σ' x = σ x) := by
  refine MetC.of (own := RX3) (by decide) rfl (by simp [Value.category]) (Nat.le_of_ble_eq_true rfl) [some (rv E (7)), some (iv (b)), some (iv (z)), none, none, none, none] rfl (by simp) (fun K X R => ?_)
  refine g_iconst X dX3_liftNear_0 ?_
  refine g_istore_n X (lw := [some (rv E (7)), some (iv (b)), some (iv (z)), some (iv (0)), none, none, none]) dX3_liftNear_1 (by decide) rfl rfl ?_
  refine g_iconst X dX3_liftNear_2 ?_
  refine g_istore X (lw := [some (rv E (7)), some (iv (b)), some (iv (z)), some (iv (0)), some (iv (0)), none, none]) dX3_liftNear_3 (by decide) rfl rfl ?_
  have L1 : ∀ (fu : Nat) (τ : Mem) (f : Ft) (m i : Int), (0 ≤ i) → (i ≤ (((filt (nearB r p) n).length : Nat) : Int)) → (((filt (nearB r p) n).take i.toNat).foldl (stF r p b z) (ft, 0) = (f, m)) → (FR τ 8 n f) → (∀ q, q < n → 0 ≤ f q ∧ f q ≤ 50000) → (∀ x, x ≠ 8 → τ x = σ x) → (((filt (nearB r p) n).length : Nat) : Int) - i < (fu : Int) → K τ 5 [some (rv E (7)), some (iv (b)), some (iv (z)), some (iv (m)), some (iv (i)), none, none] [] := by
    intro fu
    induction fu with
    | zero =>
      intro τ f m i j1 j2 jx jF jB jf hm
      exact absurd hm (by omega)
    | succ fu ih1 =>
      intro τ f m i j1 j2 jx jF jB jf hm
      obtain ⟨q, hq⟩ : ∃ q, q = (filt (nearB r p) n).getD i.toNat 0 := ⟨_, rfl⟩
      have hq2 : i < (((filt (nearB r p) n).length : Nat) : Int) → q < n ∧ nearB r p q = true := fun a => by { rw [hq]; exact filt_lt (nearB r p) n i.toNat (by omega) }
      have hq3 := jB q
      have fn := filt_n (nearB r p) n
      refine g_iload X dX3_liftNear_5 rfl ?_
      refine g_aload_n X dX3_liftNear_7 rfl ?_
      refine gf_X3_98 X fk7 (show τ 7 2 = (((filt (nearB r p) n).length : Nat) : Int) from (congrFun (jf 7 (by decide)) 2).trans hN.1) dX3_liftNear_8 ?_
      refine g_icmp_ge X (tgt := 89) dX3_liftNear_11 (by decide) ⟨by omega, by omega⟩ ⟨by omega, by omega⟩ (fun c2 => ?_) (fun c2 => ?_)
      · skip
        refine g_iload_n X dX3_liftNear_89 rfl ?_
        exact R _ _ _ _ dX3_liftNear_90 (by have e : liftsF r p b z ft n = (f, m) := by { rw [liftsF_fold]; first | (rw [← jx, List.take_of_length_le (by omega)]; done) | (have z0 : z = 0 := (by omega); subst z0; rw [fold_z0] at jx ⊢; exact jx) }; rw [e]; exact ⟨rfl, jF, jf⟩)
      · skip
        refine g_iload X dX3_liftNear_14 rfl ?_
        refine g_aload_n X dX3_liftNear_16 rfl ?_
        refine gf_X3_15 X fk7 dX3_liftNear_17 ?_
        refine g_alen13 X fk9 fl9 dX3_liftNear_20 ?_
        refine g_icmp_ge X (tgt := 89) dX3_liftNear_21 (by decide) ⟨by omega, by omega⟩ ⟨by decide, by decide⟩ (fun c3 => ?_) (fun c3 => ?_)
        · skip
          refine g_iload_n X dX3_liftNear_89 rfl ?_
          exact R _ _ _ _ dX3_liftNear_90 (by have e : liftsF r p b z ft n = (f, m) := by { rw [liftsF_fold]; first | (rw [← jx, List.take_of_length_le (by omega)]; done) | (have z0 : z = 0 := (by omega); subst z0; rw [fold_z0] at jx ⊢; exact jx) }; rw [e]; exact ⟨rfl, jF, jf⟩)
        · skip
          refine g_iload_n X dX3_liftNear_24 rfl ?_
          refine g_if_le X (tgt := 89) dX3_liftNear_25 (by decide) ⟨by omega, by omega⟩ (fun c4 => ?_) (fun c4 => ?_)
          · skip
            refine g_iload_n X dX3_liftNear_89 rfl ?_
            exact R _ _ _ _ dX3_liftNear_90 (by have e : liftsF r p b z ft n = (f, m) := by { rw [liftsF_fold]; first | (rw [← jx, List.take_of_length_le (by omega)]; done) | (have z0 : z = 0 := (by omega); subst z0; rw [fold_z0] at jx ⊢; exact jx) }; rw [e]; exact ⟨rfl, jF, jf⟩)
          · skip
            refine g_aload_n X dX3_liftNear_28 rfl ?_
            refine gf_X3_15 X fk7 dX3_liftNear_29 ?_
            refine g_iload X dX3_liftNear_32 rfl ?_
            refine g_iald X fk9 fl9 (by omega) (by omega) (by decide) (show τ 9 ((i).toNat) = ((q : Nat) : Int) from (congrFun (jf 9 (by decide)) _).trans ((hN.2 i.toNat (by omega)).trans (by rw [← hq]))) dX3_liftNear_34 ?_
            refine g_istore X (lw := [some (rv E (7)), some (iv (b)), some (iv (z)), some (iv (m)), some (iv (i)), some (iv (((q : Nat) : Int))), none]) dX3_liftNear_35 (by decide) rfl rfl ?_
            refine g_iload X dX3_liftNear_37 rfl ?_
            refine g_if_lt X (tgt := 83) dX3_liftNear_39 (by decide) ⟨by omega, by omega⟩ (fun c5 => ?_) (fun c5 => ?_)
            · skip
              refine g_iinc X (lw := [some (rv E (7)), some (iv (b)), some (iv (z)), some (iv (m)), some (iv (i + 1)), some (iv (((q : Nat) : Int))), none]) dX3_liftNear_83 rfl (by decide) rfl rfl ?_
              refine g_goto X (tgt := 5) dX3_liftNear_86 (by decide) ?_
              refine g_kill X 5 (lw := [some (rv E (7)), some (iv (b)), some (iv (z)), some (iv (m)), some (iv (i + 1)), none, none]) rfl ?_
              exact ih1 τ ((stF r p b z (f, m) q).1) m (i + 1) (by omega) (by omega) (by exfalso; omega) (by exfalso; omega) (by exfalso; omega) (by exfalso; omega) (by omega)
            · skip
              refine g_iload X dX3_liftNear_42 rfl ?_
              refine g_aload_n X dX3_liftNear_44 rfl ?_
              refine gf_X3_9 X fk7 dX3_liftNear_45 ?_
              refine g_alen13 X fk8 fl8 dX3_liftNear_48 ?_
              refine g_icmp_ge X (tgt := 83) dX3_liftNear_49 (by decide) ⟨by omega, by omega⟩ ⟨by decide, by decide⟩ (fun c6 => ?_) (fun c6 => ?_)
              · skip
                refine g_iinc X (lw := [some (rv E (7)), some (iv (b)), some (iv (z)), some (iv (m)), some (iv (i + 1)), some (iv (((q : Nat) : Int))), none]) dX3_liftNear_83 rfl (by decide) rfl rfl ?_
                refine g_goto X (tgt := 5) dX3_liftNear_86 (by decide) ?_
                refine g_kill X 5 (lw := [some (rv E (7)), some (iv (b)), some (iv (z)), some (iv (m)), some (iv (i + 1)), none, none]) rfl ?_
                exact ih1 τ ((stF r p b z (f, m) q).1) m (i + 1) (by omega) (by omega) (by exfalso; omega) (by exfalso; omega) (by exfalso; omega) (by exfalso; omega) (by omega)
              · skip
                refine g_aload_n X dX3_liftNear_52 rfl ?_
                refine gf_X3_9 X fk7 dX3_liftNear_53 ?_
                refine g_iload X dX3_liftNear_56 rfl ?_
                refine g_iald X fk8 fl8 (by omega) (by omega) (by decide) (show τ 8 ((((q : Nat) : Int)).toNat) = f q from (jF q (by omega))) dX3_liftNear_58 ?_
                refine g_iload_n X dX3_liftNear_59 rfl ?_
                refine g_iload_n X dX3_liftNear_60 rfl ?_
                refine cl_X3_105 X (c_X7_liftOf l E τ (f q) b z ⟨by omega, by omega⟩ ⟨by omega, by omega⟩ ⟨by omega, by omega⟩) ⟨Nat.le_of_ble_eq_true rfl, Nat.le_of_ble_eq_true rfl⟩ rfl (Nat.le_of_ble_eq_true rfl) dX3_liftNear_61 rfl (fun v7 τ8 p9 => ?_)
                obtain ⟨rfl, rfl⟩ := p9
                refine g_istore X (lw := [some (rv E (7)), some (iv (b)), some (iv (z)), some (iv (m)), some (iv (i)), some (iv (((q : Nat) : Int))), some (iv (if 0 < f q ∧ f q < b then min (f q) z else 0))]) dX3_liftNear_64 (by decide) rfl rfl ?_
                refine g_aload_n X dX3_liftNear_66 rfl ?_
                refine gf_X3_9 X fk7 dX3_liftNear_67 ?_
                refine g_iload X dX3_liftNear_70 rfl ?_
                refine g_dup2 X dX3_liftNear_72 rfl rfl ?_
                refine g_iald X fk8 fl8 (by omega) (by omega) (by decide) (show τ 8 ((((q : Nat) : Int)).toNat) = f q from (jF q (by omega))) dX3_liftNear_73 ?_
                refine g_iload X dX3_liftNear_74 rfl ?_
                refine g_isub X dX3_liftNear_76 ?_
                refine g_iast X fk8 fl8 (by omega) (by omega) (by decide) dX3_liftNear_77 ?_
                refine g_iload_n X dX3_liftNear_78 rfl ?_
                refine g_iload X dX3_liftNear_79 rfl ?_
                refine g_iadd X dX3_liftNear_81 ?_
                refine g_istore_n X (lw := [some (rv E (7)), some (iv (b)), some (iv (z)), some (iv (m + if 0 < f q ∧ f q < b then min (f q) z else 0)), some (iv (i)), some (iv (((q : Nat) : Int))), some (iv (if 0 < f q ∧ f q < b then min (f q) z else 0))]) dX3_liftNear_82 (by decide) rfl rfl ?_
                refine g_iinc X (lw := [some (rv E (7)), some (iv (b)), some (iv (z)), some (iv (m + if 0 < f q ∧ f q < b then min (f q) z else 0)), some (iv (i + 1)), some (iv (((q : Nat) : Int))), some (iv (if 0 < f q ∧ f q < b then min (f q) z else 0))]) dX3_liftNear_83 rfl (by decide) rfl rfl ?_
                refine g_goto X (tgt := 5) dX3_liftNear_86 (by decide) ?_
                refine g_kill X 5 (lw := [some (rv E (7)), some (iv (b)), some (iv (z)), some (iv (m + if 0 < f q ∧ f q < b then min (f q) z else 0)), some (iv (i + 1)), none, some (iv (if 0 < f q ∧ f q < b then min (f q) z else 0))]) rfl ?_
                refine g_kill X 6 (lw := [some (rv E (7)), some (iv (b)), some (iv (z)), some (iv (m + if 0 < f q ∧ f q < b then min (f q) z else 0)), some (iv (i + 1)), none, none]) rfl ?_
                exact ih1 (up τ 8 ((((q : Nat) : Int)).toNat) (f q - (if 0 < f q ∧ f q < b then min (f q) z else 0))) ((stF r p b z (f, m) q).1) (m + if 0 < f q ∧ f q < b then min (f q) z else 0) (i + 1) (by omega) (by omega) (by rw [show (i + 1).toNat = i.toNat + 1 by omega, take_s (by omega), ← hq, List.foldl_append, jx]; refine Prod.ext rfl ?_; show m + byF r p b z f q = _; unfold byF; rw [if_pos (hq2 (by omega)).2]; rfl) (by have e : byF r p b z f q = (if 0 < f q ∧ f q < b then min (f q) z else 0) := (by unfold byF; rw [if_pos (hq2 (by omega)).2]; rfl); show FR _ 8 n (putN f q (f q - byF r p b z f q)); rw [e, show ((q : Nat) : Int).toNat = q from Int.toNat_natCast q]; exact jF.put) (by intro y hy; have bb := byF_bd (r := r) (p := p) (b := b) (z := z) (ft := f) (q := q) (by omega) (jB q (hq2 (by omega)).1).1; have b2 := jB q (hq2 (by omega)).1; have b3 := jB y hy; show 0 ≤ putN f q (f q - byF r p b z f q) y ∧ putN f q (f q - byF r p b z f q) y ≤ 50000; unfold putN; split <;> omega) (by intro x hx; rw [up_neC _ _ hx]; exact jf x hx) (by omega)
  exact L1 _ σ ft 0 0 (by omega) (by omega) (by rfl) (by exact hF) (by exact hB) (by intro x _; rfl) (by exact Int.lt_toNat_succ _)
set_option maxHeartbeats 1000000 in
set_option maxRecDepth 100000 in
theorem c_X3_liftsOfPile (l : Launch) (E : wEnv) (σ : Mem) (r : Row) (N : Int) (hS : SRep σ 25 r) (hR : RInv r N) (ft : Ft) (hF : FR σ 8 (r 19).toNat ft) (hFB : FB r ft) (x e b : Int) (hx : 0 ≤ x ∧ x < r 19) (he : 0 ≤ e) (he2 : e ≤ 300000) (hb : 1 ≤ b ∧ b ≤ 20) : MetC l E yX3_liftsOfPile cX3_liftsOfPile 9 (some .int) 3 69 [rv E (7), rv E (25), iv (x), iv (e), iv (b)] σ (fun v σ' => v = some (iv (trF r x.toNat e b.toNat ft).2) ∧ FR σ' 8 (r 19).toNat (trF r x.toNat e b.toNat ft).1 ∧ frA σ σ') := by
  refine MetC.of (own := RX3) (by decide) rfl (by simp [Value.category]) (Nat.le_of_ble_eq_true rfl) [some (rv E (7)), some (rv E (25)), some (iv (x)), some (iv (e)), some (iv (b)), none, none, none, none] rfl (by simp) (fun K X R => ?_)
  have r19 := hR.2.2.2.2.1
  have r0 := hR.1
  have rN := hR.2.2.2.2.2.1
  refine g_aload_n X dX3_liftsOfPile_0 rfl ?_
  refine g_iload_n X dX3_liftsOfPile_1 rfl ?_
  refine cl_X3_61 X (cs_X6_pileAt l E σ 25 r N now_k hS hR x (by omega) (by omega)) now_k ⟨Nat.le_of_ble_eq_true rfl, Nat.le_of_ble_eq_true rfl⟩ rfl (Nat.le_of_ble_eq_true rfl) dX3_liftsOfPile_2 rfl (fun v1 τ2 p3 => ?_)
  obtain ⟨rfl, rfl⟩ := p3
  have hp2 := (hS.2.2.2.2.2.2 (x).toNat (by omega))
  have hf2 := hp2.f
  have hi2 := hR.2.2.2.2.2.2 (x).toNat (by omega)
  have hj2 := hi2.f
  refine g_astore X (lw := [some (rv E (7)), some (rv E (25)), some (iv (x)), some (iv (e)), some (iv (b)), some (rv E ((25 + 5 + 1 + 3 * (x).toNat))), none, none, none]) dX3_liftsOfPile_5 (by decide) rfl rfl ?_
  refine g_aload X dX3_liftsOfPile_7 rfl ?_
  refine g_ifnull X dX3_liftsOfPile_9 ?_
  refine g_iload_n X dX3_liftsOfPile_12 rfl ?_
  refine g_if_lt X (tgt := 25) dX3_liftsOfPile_13 (by decide) ⟨by omega, by omega⟩ (fun c4 => ?_) (fun c4 => ?_)
  · skip
    refine g_iconst X dX3_liftsOfPile_25 ?_
    exact R _ _ _ _ dX3_liftsOfPile_26 (by exfalso; omega)
  · skip
    refine g_iload_n X dX3_liftsOfPile_16 rfl ?_
    refine g_aload_n X dX3_liftsOfPile_17 rfl ?_
    refine gf_X3_9 X fk7 dX3_liftsOfPile_18 ?_
    refine g_alen13 X fk8 fl8 dX3_liftsOfPile_21 ?_
    refine g_icmp_lt X (tgt := 27) dX3_liftsOfPile_22 (by decide) ⟨by omega, by omega⟩ ⟨by decide, by decide⟩ (fun c5 => ?_) (fun c5 => ?_)
    · skip
      refine g_aload_n X dX3_liftsOfPile_27 rfl ?_
      refine g_aload_n X dX3_liftsOfPile_28 rfl ?_
      refine g_aload X dX3_liftsOfPile_29 rfl ?_
      refine cl_X3_80 X (c_X3_findNear l E σ r N hS hR ((x).toNat) (by omega)) fk7 ⟨Nat.le_of_ble_eq_true rfl, Nat.le_of_ble_eq_true rfl⟩ rfl (Nat.le_of_ble_eq_true rfl) dX3_liftsOfPile_31 rfl (fun v6 τ7 p8 => ?_)
      obtain ⟨rfl, hL31, hf31, hg31⟩ := p8
      have hS31 : SRep τ7 25 r := hS.fr hR (fun x _ _ => hf31 x (by omega) (by omega))
      skip
      refine g_iconst X dX3_liftsOfPile_34 ?_
      refine g_istore X (lw := [some (rv E (7)), some (rv E (25)), some (iv (x)), some (iv (e)), some (iv (b)), some (rv E ((25 + 5 + 1 + 3 * (x).toNat))), some (iv (0)), none, none]) dX3_liftsOfPile_35 (by decide) rfl rfl ?_
      refine g_iconst X dX3_liftsOfPile_37 ?_
      refine g_istore X (lw := [some (rv E (7)), some (rv E (25)), some (iv (x)), some (iv (e)), some (iv (b)), some (rv E ((25 + 5 + 1 + 3 * (x).toNat))), some (iv (0)), some (iv (0)), none]) dX3_liftsOfPile_38 (by decide) rfl rfl ?_
      have L9 : ∀ (fu : Nat) (τ : Mem) (f : Ft) (m n : Int), (0 ≤ n) → (n ≤ b) → (trF r x.toNat e b.toNat ft = ((trF r x.toNat e (b - n).toNat f).1, m + (trF r x.toNat e (b - n).toNat f).2)) → (FR τ 8 (r 19).toNat f) → (FB r f) → (∀ y, y ≠ 8 → τ y = τ7 y) → b - n < (fu : Int) → K τ 40 [some (rv E (7)), some (rv E (25)), some (iv (x)), some (iv (e)), some (iv (b)), some (rv E ((25 + 5 + 1 + 3 * (x).toNat))), some (iv (m)), some (iv (n)), none] [] := by
        intro fu
        induction fu with
        | zero =>
          intro τ f m n j1 j2 j7 jF jB jf hm
          exact absurd hm (by omega)
        | succ fu ih9 =>
          intro τ f m n j1 j2 j7 jF jB jf hm
          have hfx := jB x.toNat (by omega)
          have hpx := (hR.2.2.2.2.2.2 x.toNat (by omega)).f
          have jS : SRep τ 25 r := hS31.fr hR (fun y _ _ => jf y (by omega))
          have hfb : FB r (putN f x.toNat (f x.toNat + setR r e (f x.toNat) (r (24 + 91 * x.toNat + 2)))) := putN_b jB (fun _ => by have q := setR_bd r e (f x.toNat) (r (24 + 91 * x.toNat + 2)) (by omega); omega)
          refine g_iload X dX3_liftsOfPile_40 rfl ?_
          refine g_iload X dX3_liftsOfPile_42 rfl ?_
          refine g_icmp_ge X (tgt := 117) dX3_liftsOfPile_44 (by decide) ⟨by omega, by omega⟩ ⟨by omega, by omega⟩ (fun c10 => ?_) (fun c10 => ?_)
          · skip
            refine g_iload X dX3_liftsOfPile_117 rfl ?_
            exact R _ _ _ _ dX3_liftsOfPile_119 (by have t : trF r x.toNat e b.toNat ft = (f, m) := by { rw [j7]; first | (rw [show (b - n).toNat = 0 by omega]; exact Prod.ext rfl (by show m + 0 = m; omega)) | (rw [trF_end (by omega)]; exact Prod.ext rfl (by show m + 0 = m; omega)) }; rw [t]; exact ⟨rfl, jF, ⟨fun y a b c => by rw [jf y b]; exact hf31 y a c, fun j hj => by rw [jf 7 (by decide)]; exact hg31 j hj⟩⟩)
          · skip
            refine g_aload_n X dX3_liftsOfPile_47 rfl ?_
            refine gf_X3_9 X fk7 dX3_liftsOfPile_48 ?_
            refine g_iload_n X dX3_liftsOfPile_51 rfl ?_
            refine g_iald X fk8 fl8 (by omega) (by omega) (by decide) (show τ 8 ((x).toNat) = f x.toNat from (jF x.toNat (by omega))) dX3_liftsOfPile_52 ?_
            refine g_aload X dX3_liftsOfPile_53 rfl ?_
            refine gf_X3_84 X (stP now_k (x).toNat (by omega)) ((jS.2.2.2.2.2.2 (x).toNat (by omega)).f.2.2.2.1) dX3_liftsOfPile_55 ?_
            refine g_icmp_ge X (tgt := 117) dX3_liftsOfPile_58 (by decide) ⟨by omega, by omega⟩ ⟨by omega, by omega⟩ (fun c11 => ?_) (fun c11 => ?_)
            · skip
              refine g_iload X dX3_liftsOfPile_117 rfl ?_
              exact R _ _ _ _ dX3_liftsOfPile_119 (by have t : trF r x.toNat e b.toNat ft = (f, m) := by { rw [j7]; first | (rw [show (b - n).toNat = 0 by omega]; exact Prod.ext rfl (by show m + 0 = m; omega)) | (rw [trF_end (by omega)]; exact Prod.ext rfl (by show m + 0 = m; omega)) }; rw [t]; exact ⟨rfl, jF, ⟨fun y a b c => by rw [jf y b]; exact hf31 y a c, fun j hj => by rw [jf 7 (by decide)]; exact hg31 j hj⟩⟩)
            · skip
              refine g_aload_n X dX3_liftsOfPile_61 rfl ?_
              refine g_iload_n X dX3_liftsOfPile_62 rfl ?_
              refine g_aload_n X dX3_liftsOfPile_63 rfl ?_
              refine gf_X3_9 X fk7 dX3_liftsOfPile_64 ?_
              refine g_iload_n X dX3_liftsOfPile_67 rfl ?_
              refine g_iald X fk8 fl8 (by omega) (by omega) (by decide) (show τ 8 ((x).toNat) = f x.toNat from (jF x.toNat (by omega))) dX3_liftsOfPile_68 ?_
              refine g_aload X dX3_liftsOfPile_69 rfl ?_
              refine gf_X3_84 X (stP now_k (x).toNat (by omega)) ((jS.2.2.2.2.2.2 (x).toNat (by omega)).f.2.2.2.1) dX3_liftsOfPile_71 ?_
              refine cl_X3_87 X (c_X6_setOf l E τ 25 r N now_k jS hR e (f x.toNat) (r (24 + 91 * (x).toNat + 2))  (by omega) (by omega) (by omega) (by omega) (by omega)) now_k ⟨Nat.le_of_ble_eq_true rfl, Nat.le_of_ble_eq_true rfl⟩ rfl (Nat.le_of_ble_eq_true rfl) dX3_liftsOfPile_74 rfl (fun v12 τ13 p14 => ?_)
              obtain ⟨rfl, rfl⟩ := p14
              have sb74 := setR_bd r e (f x.toNat) (r (24 + 91 * (x).toNat + 2)) (by omega)
              refine g_istore X (lw := [some (rv E (7)), some (rv E (25)), some (iv (x)), some (iv (e)), some (iv (b)), some (rv E ((25 + 5 + 1 + 3 * (x).toNat))), some (iv (m)), some (iv (n)), some (iv (setR r e (f x.toNat) (r (24 + 91 * (x).toNat + 2))))]) dX3_liftsOfPile_77 (by decide) rfl rfl ?_
              refine g_aload_n X dX3_liftsOfPile_79 rfl ?_
              refine gf_X3_9 X fk7 dX3_liftsOfPile_80 ?_
              refine g_iload_n X dX3_liftsOfPile_83 rfl ?_
              refine g_dup2 X dX3_liftsOfPile_84 rfl rfl ?_
              refine g_iald X fk8 fl8 (by omega) (by omega) (by decide) (show τ 8 ((x).toNat) = f x.toNat from (jF x.toNat (by omega))) dX3_liftsOfPile_85 ?_
              refine g_iload X dX3_liftsOfPile_86 rfl ?_
              refine g_iadd X dX3_liftsOfPile_88 ?_
              refine g_iast X fk8 fl8 (by omega) (by omega) (by decide) dX3_liftsOfPile_89 ?_
              refine g_iload X dX3_liftsOfPile_90 rfl ?_
              refine g_aload_n X dX3_liftsOfPile_92 rfl ?_
              refine g_aload_n X dX3_liftsOfPile_93 rfl ?_
              refine gf_X3_9 X fk7 dX3_liftsOfPile_94 ?_
              refine g_iload_n X dX3_liftsOfPile_97 rfl ?_
              refine g_iald X fk8 fl8 (by omega) (by omega) (by decide) (up_same _ _ _ _) dX3_liftsOfPile_98 ?_
              refine g_aload_n X dX3_liftsOfPile_99 rfl ?_
              refine g_iload X dX3_liftsOfPile_100 rfl ?_
              refine cl_X3_91 X (c_X6_liftBy l E (up τ 8 ((x).toNat) (f x.toNat + (setR r e (f x.toNat) (r (24 + 91 * (x).toNat + 2))))) 25 r N now_k (jS.fr hR (fun x _ _ => up_neC _ _ (by omega))) hR (setR r e (f x.toNat) (r (24 + 91 * (x).toNat + 2)))  (by omega) (by omega)) now_k ⟨Nat.le_of_ble_eq_true rfl, Nat.le_of_ble_eq_true rfl⟩ rfl (Nat.le_of_ble_eq_true rfl) dX3_liftsOfPile_102 rfl (fun v15 τ16 p17 => ?_)
              obtain ⟨rfl, rfl⟩ := p17
              have bb102 := (byR_bd hR (s := setR r e (f x.toNat) (r (24 + 91 * (x).toNat + 2))) (by omega) (by omega)).2
              refine cl_X3_94 X (c_X3_liftNear l E (up τ 8 ((x).toNat) (f x.toNat + (setR r e (f x.toNat) (r (24 + 91 * (x).toNat + 2))))) r x.toNat (r 19).toNat (putN f x.toNat (f x.toNat + setR r e (f x.toNat) (r (24 + 91 * x.toNat + 2)))) ((hL31.fr (by rw [jf 7 (by decide)]) (jf 9 (by decide))).fr (up_ne _ _ (Or.inl (by decide))) (up_neC _ _ (by decide))) (by omega) jF.put (fun y hy => by have q := hfb y (by omega); have q2 := (hR.2.2.2.2.2.2 y (by omega)).f; omega) (f x.toNat + (setR r e (f x.toNat) (r (24 + 91 * (x).toNat + 2)))) (byR r (setR r e (f x.toNat) (r (24 + 91 * (x).toNat + 2)))) (by omega) (by omega)) fk7 ⟨Nat.le_of_ble_eq_true rfl, Nat.le_of_ble_eq_true rfl⟩ rfl (Nat.le_of_ble_eq_true rfl) dX3_liftsOfPile_105 rfl (fun v18 τ19 p20 => ?_)
              have p20x : v18 = some (iv (blF r x.toNat e f).2) ∧ FR τ19 8 (r 19).toNat (blF r x.toNat e f).1 ∧ ∀ y, y ≠ 8 → τ19 y = (up τ 8 ((x).toNat) (f x.toNat + (setR r e (f x.toNat) (r (24 + 91 * (x).toNat + 2))))) y := p20
              obtain ⟨rfl, hF105, hf105⟩ := p20x
              have bl105 := blF_b hR (p := x.toNat) (e := e) (ft := f) jB (by omega)
              refine g_iadd X dX3_liftsOfPile_108 ?_
              refine g_istore X (lw := [some (rv E (7)), some (rv E (25)), some (iv (x)), some (iv (e)), some (iv (b)), some (rv E ((25 + 5 + 1 + 3 * (x).toNat))), some (iv (m + (blF r x.toNat e f).2)), some (iv (n)), some (iv (setR r e (f x.toNat) (r (24 + 91 * (x).toNat + 2))))]) dX3_liftsOfPile_109 (by decide) rfl rfl ?_
              refine g_iinc X (lw := [some (rv E (7)), some (rv E (25)), some (iv (x)), some (iv (e)), some (iv (b)), some (rv E ((25 + 5 + 1 + 3 * (x).toNat))), some (iv (m + (blF r x.toNat e f).2)), some (iv (n + 1)), some (iv (setR r e (f x.toNat) (r (24 + 91 * (x).toNat + 2))))]) dX3_liftsOfPile_111 rfl (by decide) rfl rfl ?_
              refine g_goto X (tgt := 40) dX3_liftsOfPile_114 (by decide) ?_
              refine g_kill X 8 (lw := [some (rv E (7)), some (rv E (25)), some (iv (x)), some (iv (e)), some (iv (b)), some (rv E ((25 + 5 + 1 + 3 * (x).toNat))), some (iv (m + (blF r x.toNat e f).2)), some (iv (n + 1)), none]) rfl ?_
              exact ih9 τ19 ((blF r x.toNat e f).1) (m + (blF r x.toNat e f).2) (n + 1) (by omega) (by omega) (by rw [j7, show (b - n).toNat = (b - (n + 1)).toNat + 1 by omega, trF_go (by omega)]; exact Prod.ext rfl (by simp only []; omega)) (by exact hF105) (by exact bl105.1) (by intro y hy; rw [hf105 y hy, up_neC _ _ hy]; exact jf y hy) (by omega)
      exact L9 _ τ7 ft 0 0 (by omega) (by omega) (by rw [show (b - 0).toNat = b.toNat by omega]; exact Prod.ext rfl (by show _ = 0 + _; omega)) (by exact hF.fr (hf31 8 (by decide) (by decide))) (by exact hFB) (by intro y _; rfl) (by exact Int.lt_toNat_succ _)
    · skip
      refine g_iconst X dX3_liftsOfPile_25 ?_
      exact R _ _ _ _ dX3_liftsOfPile_26 (by exfalso; omega)
set_option maxHeartbeats 1000000 in
set_option maxRecDepth 100000 in
theorem c_X3_triedAt (l : Launch) (E : wEnv) (σ : Mem) (n : Nat) (hn : n ≤ 5) (h5 : σ 7 5 = n) (k : Int) (hk : 0 ≤ k ∧ k < n) : MetC l E yX3_triedAt cX3_triedAt 2 (some .int) 0 0 [rv E (7), iv (k)] σ (fun v σ' => v = some (iv (σ 10 k.toNat)) ∧ σ = σ') := by
  refine MetC.of (own := RX3) (by decide) rfl (by simp [Value.category]) (Nat.le_of_ble_eq_true rfl) [some (rv E (7)), some (iv (k))] rfl (by simp) (fun K X R => ?_)
  refine g_iload_n X dX3_triedAt_0 rfl ?_
  refine g_if_lt X (tgt := 30) dX3_triedAt_1 (by decide) ⟨by omega, by omega⟩ (fun c1 => ?_) (fun c1 => ?_)
  · skip
    refine g_iconst X dX3_triedAt_30 ?_
    exact R _ _ _ _ dX3_triedAt_31 ⟨congrArg (fun z => some (iv z)) (by first | (exfalso; omega) | rfl), rfl⟩
  · skip
    refine g_iload_n X dX3_triedAt_4 rfl ?_
    refine g_aload_n X dX3_triedAt_5 rfl ?_
    refine gf_X3_55 X fk7 rfl dX3_triedAt_6 ?_
    refine g_icmp_ge X (tgt := 30) dX3_triedAt_9 (by decide) ⟨by omega, by omega⟩ ⟨by omega, by omega⟩ (fun c2 => ?_) (fun c2 => ?_)
    · skip
      refine g_iconst X dX3_triedAt_30 ?_
      exact R _ _ _ _ dX3_triedAt_31 ⟨congrArg (fun z => some (iv z)) (by first | (exfalso; omega) | rfl), rfl⟩
    · skip
      refine g_iload_n X dX3_triedAt_12 rfl ?_
      refine g_aload_n X dX3_triedAt_13 rfl ?_
      refine gf_X3_18 X fk7 dX3_triedAt_14 ?_
      refine g_alen13 X fk10 fl10 dX3_triedAt_17 ?_
      refine g_icmp_ge X (tgt := 30) dX3_triedAt_18 (by decide) ⟨by omega, by omega⟩ ⟨by decide, by decide⟩ (fun c3 => ?_) (fun c3 => ?_)
      · skip
        refine g_iconst X dX3_triedAt_30 ?_
        exact R _ _ _ _ dX3_triedAt_31 ⟨congrArg (fun z => some (iv z)) (by first | (exfalso; omega) | rfl), rfl⟩
      · skip
        refine g_aload_n X dX3_triedAt_21 rfl ?_
        refine gf_X3_18 X fk7 dX3_triedAt_22 ?_
        refine g_iload_n X dX3_triedAt_25 rfl ?_
        refine g_iald X fk10 fl10 (by omega) (by omega) (by decide) rfl dX3_triedAt_26 ?_
        refine g_goto X (tgt := 31) dX3_triedAt_27 (by decide) ?_
        exact R _ _ _ _ dX3_triedAt_31 ⟨congrArg (fun z => some (iv z)) (by first | (exfalso; omega) | rfl), rfl⟩
set_option maxHeartbeats 1000000 in
set_option maxRecDepth 100000 in
theorem c_X3_swap (l : Launch) (E : wEnv) (σ : Mem) (a b : Int) (ha : 0 ≤ a ∧ a < 5) (hb : 0 ≤ b ∧ b < 5) : MetC l E yX3_swap cX3_swap 4 none 0 0 [rv E (7), iv (a), iv (b)] σ (fun v σ' => v = none ∧ up (up σ 10 a.toNat (σ 10 b.toNat)) 10 b.toNat (σ 10 a.toNat) = σ') := by
  refine MetC.of (own := RX3) (by decide) rfl (by simp [Value.category]) (Nat.le_of_ble_eq_true rfl) [some (rv E (7)), some (iv (a)), some (iv (b)), none] rfl (by simp) (fun K X R => ?_)
  refine g_iload_n X dX3_swap_0 rfl ?_
  refine g_if_lt X (tgt := 52) dX3_swap_1 (by decide) ⟨by omega, by omega⟩ (fun c1 => ?_) (fun c1 => ?_)
  · skip
    exact R _ _ _ dX3_swap_52 ⟨rfl, by first | (exfalso; omega) | rfl⟩
  · skip
    refine g_iload_n X dX3_swap_4 rfl ?_
    refine g_aload_n X dX3_swap_5 rfl ?_
    refine gf_X3_18 X fk7 dX3_swap_6 ?_
    refine g_alen13 X fk10 fl10 dX3_swap_9 ?_
    refine g_icmp_ge X (tgt := 52) dX3_swap_10 (by decide) ⟨by omega, by omega⟩ ⟨by decide, by decide⟩ (fun c2 => ?_) (fun c2 => ?_)
    · skip
      exact R _ _ _ dX3_swap_52 ⟨rfl, by first | (exfalso; omega) | rfl⟩
    · skip
      refine g_iload_n X dX3_swap_13 rfl ?_
      refine g_if_lt X (tgt := 52) dX3_swap_14 (by decide) ⟨by omega, by omega⟩ (fun c3 => ?_) (fun c3 => ?_)
      · skip
        exact R _ _ _ dX3_swap_52 ⟨rfl, by first | (exfalso; omega) | rfl⟩
      · skip
        refine g_iload_n X dX3_swap_17 rfl ?_
        refine g_aload_n X dX3_swap_18 rfl ?_
        refine gf_X3_18 X fk7 dX3_swap_19 ?_
        refine g_alen13 X fk10 fl10 dX3_swap_22 ?_
        refine g_icmp_ge X (tgt := 52) dX3_swap_23 (by decide) ⟨by omega, by omega⟩ ⟨by decide, by decide⟩ (fun c4 => ?_) (fun c4 => ?_)
        · skip
          exact R _ _ _ dX3_swap_52 ⟨rfl, by first | (exfalso; omega) | rfl⟩
        · skip
          refine g_aload_n X dX3_swap_26 rfl ?_
          refine gf_X3_18 X fk7 dX3_swap_27 ?_
          refine g_iload_n X dX3_swap_30 rfl ?_
          refine g_iald X fk10 fl10 (by omega) (by omega) (by decide) rfl dX3_swap_31 ?_
          refine g_istore_n X (lw := [some (rv E (7)), some (iv (a)), some (iv (b)), some (iv (σ 10 ((a).toNat)))]) dX3_swap_32 (by decide) rfl rfl ?_
          refine g_aload_n X dX3_swap_33 rfl ?_
          refine gf_X3_18 X fk7 dX3_swap_34 ?_
          refine g_iload_n X dX3_swap_37 rfl ?_
          refine g_aload_n X dX3_swap_38 rfl ?_
          refine gf_X3_18 X fk7 dX3_swap_39 ?_
          refine g_iload_n X dX3_swap_42 rfl ?_
          refine g_iald X fk10 fl10 (by omega) (by omega) (by decide) rfl dX3_swap_43 ?_
          refine g_iast X fk10 fl10 (by omega) (by omega) (by decide) dX3_swap_44 ?_
          refine g_aload_n X dX3_swap_45 rfl ?_
          refine gf_X3_18 X fk7 dX3_swap_46 ?_
          refine g_iload_n X dX3_swap_49 rfl ?_
          refine g_iload_n X dX3_swap_50 rfl ?_
          refine g_iast X fk10 fl10 (by omega) (by omega) (by decide) dX3_swap_51 ?_
          exact R _ _ _ dX3_swap_52 ⟨rfl, by first | (exfalso; omega) | rfl⟩
set_option maxHeartbeats 1000000 in
set_option maxRecDepth 100000 in
theorem c_X3_liftsOfTried (l : Launch) (E : wEnv) (σ : Mem) (r : Row) (N : Int) (hS : SRep σ 25 r) (hR : RInv r N) (F : Nat) (hF5 : F ≤ 5) (w : Nat → Nat) (h5 : σ 7 5 = F) (hw : ∀ j, j < F → σ 10 j = ((w j : Nat) : Int)) (hw2 : ∀ j, j < F → ((w j : Nat) : Int) < r 19) (ls : Int) (h6 : σ 7 6 = ls) (hls : I32 ls) (e b : Int) (he : 0 ≤ e) (he2 : e ≤ 300000) (hb : 1 ≤ b ∧ b ≤ 20) : MetC l E yX3_liftsOfTried cX3_liftsOfTried 6 (some .int) 4 97 [rv E (7), rv E (25), iv (e), iv (b)] σ (fun v σ' => ∃ m : Int, v = some (iv m) ∧ 0 ≤ m ∧ m ≤ 250000 ∧ ((rowF r e b.toNat (feet0 r) w F).2 < ls → m = (rowF r e b.toNat (feet0 r) w F).2) ∧ (ls ≤ (rowF r e b.toNat (feet0 r) w F).2 → ls ≤ m) ∧ frA σ σ') := by
  refine MetC.of (own := RX3) (by decide) rfl (by simp [Value.category]) (Nat.le_of_ble_eq_true rfl) [some (rv E (7)), some (rv E (25)), some (iv (e)), some (iv (b)), none, none] rfl (by simp) (fun K X R => ?_)
  have r19 := hR.2.2.2.2.1
  have r0 := hR.1
  have rN := hR.2.2.2.2.2.1
  refine g_iconst X dX3_liftsOfTried_0 ?_
  refine g_istore X (lw := [some (rv E (7)), some (rv E (25)), some (iv (e)), some (iv (b)), some (iv (0)), none]) dX3_liftsOfTried_1 (by decide) rfl rfl ?_
  have L1 : ∀ (fu : Nat) (τ : Mem) (i : Int), (0 ≤ i) → (i ≤ r 19) → (∀ q : Nat, (q : Int) < i → τ 8 q = feet0 r q) → (∀ y, y ≠ 8 → τ y = σ y) → r 19 - i < (fu : Int) → K τ 3 [some (rv E (7)), some (rv E (25)), some (iv (e)), some (iv (b)), some (iv (i)), none] [] := by
    intro fu
    induction fu with
    | zero =>
      intro τ i j1 j2 iF jf hm
      exact absurd hm (by omega)
    | succ fu ih1 =>
      intro τ i j1 j2 iF jf hm
      have jS : SRep τ 25 r := hS.fr hR (fun y _ _ => jf y (by omega))
      refine g_iload X dX3_liftsOfTried_3 rfl ?_
      refine g_aload_n X dX3_liftsOfTried_5 rfl ?_
      refine gf_X3_58 X now_k (jS.2.2.2.2.1) dX3_liftsOfTried_6 ?_
      refine g_icmp_ge X (tgt := 57) dX3_liftsOfTried_9 (by decide) ⟨by omega, by omega⟩ ⟨by omega, by omega⟩ (fun c2 => ?_) (fun c2 => ?_)
      · skip
        refine g_iconst X dX3_liftsOfTried_57 ?_
        refine g_istore X (lw := [some (rv E (7)), some (rv E (25)), some (iv (e)), some (iv (b)), some (iv (0)), none]) dX3_liftsOfTried_58 (by decide) rfl rfl ?_
        refine g_iconst X dX3_liftsOfTried_60 ?_
        refine g_istore X (lw := [some (rv E (7)), some (rv E (25)), some (iv (e)), some (iv (b)), some (iv (0)), some (iv (0))]) dX3_liftsOfTried_61 (by decide) rfl rfl ?_
        have L3 : ∀ (fu : Nat) (χ : Mem) (f : Ft) (m i : Int), (0 ≤ i) → (i ≤ F) → (rowF r e b.toNat (feet0 r) w i.toNat = (f, m)) → (FR χ 8 (r 19).toNat f) → (FB r f) → (frA σ χ) → (0 ≤ m ∧ m ≤ 50000 * i) → (F : Int) - i < (fu : Int) → K χ 63 [some (rv E (7)), some (rv E (25)), some (iv (e)), some (iv (b)), some (iv (m)), some (iv (i))] [] := by
          intro fu
          induction fu with
          | zero =>
            intro χ f m i j1 j2 j7 jF jB jf jm hm
            exact absurd hm (by omega)
          | succ fu ih3 =>
            intro χ f m i j1 j2 j7 jF jB jf jm hm
            have jS : SRep χ 25 r := hS.fO hR jf.O
            have h5c : χ 7 5 = (F : Int) := (jf.2 5 (by decide)).trans h5
            have h6c : χ 7 6 = ls := (jf.2 6 (by decide)).trans h6
            refine g_iload X dX3_liftsOfTried_63 rfl ?_
            refine g_aload_n X dX3_liftsOfTried_65 rfl ?_
            refine gf_X3_55 X fk7 (show χ 7 5 = ((F : Nat) : Int) from h5c) dX3_liftsOfTried_66 ?_
            refine g_icmp_ge X (tgt := 105) dX3_liftsOfTried_69 (by decide) ⟨by omega, by omega⟩ ⟨by omega, by omega⟩ (fun c4 => ?_) (fun c4 => ?_)
            · skip
              refine g_iload X dX3_liftsOfTried_105 rfl ?_
              exact R _ _ _ _ dX3_liftsOfTried_107 (by have rb := rowF_b hR (e := e) (b := b.toNat) (by omega) (FB0 hR) (w := w) i.toNat (fun j hj => hw2 j (by omega)); rw [j7] at rb; have rm := rowF_mono hR (e := e) (b := b.toNat) (by omega) (FB0 hR) (w := w) (m := i.toNat) F (by omega) (fun j hj => hw2 j (by omega)); rw [j7] at rm; exact ⟨m, rfl, rb.2.1, by have q := rb.2.2; omega, fun q => by first | (have z : i.toNat = F := (by omega); rw [← z, j7]; done) | (exfalso; simp only [] at rm; omega), fun q => by first | omega | (have z : i.toNat = F := (by omega); rw [← z, j7] at q; exact q), jf⟩)
            · skip
              refine g_iload X dX3_liftsOfTried_72 rfl ?_
              refine g_aload_n X dX3_liftsOfTried_74 rfl ?_
              refine gf_X3_37 X fk7 (show χ 7 6 = ls from h6c) dX3_liftsOfTried_75 ?_
              refine g_icmp_ge X (tgt := 105) dX3_liftsOfTried_78 (by decide) ⟨by omega, by omega⟩ ⟨by omega, by omega⟩ (fun c5 => ?_) (fun c5 => ?_)
              · skip
                refine g_iload X dX3_liftsOfTried_105 rfl ?_
                exact R _ _ _ _ dX3_liftsOfTried_107 (by have rb := rowF_b hR (e := e) (b := b.toNat) (by omega) (FB0 hR) (w := w) i.toNat (fun j hj => hw2 j (by omega)); rw [j7] at rb; have rm := rowF_mono hR (e := e) (b := b.toNat) (by omega) (FB0 hR) (w := w) (m := i.toNat) F (by omega) (fun j hj => hw2 j (by omega)); rw [j7] at rm; exact ⟨m, rfl, rb.2.1, by have q := rb.2.2; omega, fun q => by first | (have z : i.toNat = F := (by omega); rw [← z, j7]; done) | (exfalso; simp only [] at rm; omega), fun q => by first | omega | (have z : i.toNat = F := (by omega); rw [← z, j7] at q; exact q), jf⟩)
              · skip
                refine g_iload X dX3_liftsOfTried_81 rfl ?_
                refine g_aload_n X dX3_liftsOfTried_83 rfl ?_
                refine g_aload_n X dX3_liftsOfTried_84 rfl ?_
                refine g_aload_n X dX3_liftsOfTried_85 rfl ?_
                refine g_iload X dX3_liftsOfTried_86 rfl ?_
                refine cl_X3_73 X (c_X3_triedAt l E χ F (by omega) h5c i (by omega)) fk7 ⟨Nat.le_of_ble_eq_true rfl, Nat.le_of_ble_eq_true rfl⟩ rfl (Nat.le_of_ble_eq_true rfl) dX3_liftsOfTried_88 rfl (fun v6 τ7 p8 => ?_)
                obtain ⟨rfl, rfl⟩ := p8
                rw [show χ 10 (i).toNat = ((w (i).toNat : Nat) : Int) from ((congrFun (jf.1 10 (by decide) (by decide) (by decide)) _).trans (hw (i).toNat (by omega)))]
                have wl88 := hw2 (i).toNat (by omega)
                refine g_iload_n X dX3_liftsOfTried_91 rfl ?_
                refine g_iload_n X dX3_liftsOfTried_92 rfl ?_
                refine cl_X3_76 X (c_X3_liftsOfPile l E χ r N jS hR f jF jB (((w (i).toNat : Nat) : Int)) e b (by omega) (by omega) (by omega) (by omega)) fk7 ⟨Nat.le_of_ble_eq_true rfl, Nat.le_of_ble_eq_true rfl⟩ rfl (Nat.le_of_ble_eq_true rfl) dX3_liftsOfTried_93 rfl (fun v9 τ10 p11 => ?_)
                obtain ⟨rfl, hF93, hf93⟩ := p11
                rw [Int.toNat_natCast] at hF93
                rw [show (((w i.toNat : Nat) : Int)).toNat = w i.toNat from Int.toNat_natCast _]
                have tb93 := trF_b hR (p := w i.toNat) (e := e) (by omega) b.toNat f jB
                refine g_iadd X dX3_liftsOfTried_96 ?_
                refine g_istore X (lw := [some (rv E (7)), some (rv E (25)), some (iv (e)), some (iv (b)), some (iv (m + (trF r (w i.toNat) e b.toNat f).2)), some (iv (i))]) dX3_liftsOfTried_97 (by decide) rfl rfl ?_
                refine g_iinc X (lw := [some (rv E (7)), some (rv E (25)), some (iv (e)), some (iv (b)), some (iv (m + (trF r (w i.toNat) e b.toNat f).2)), some (iv (i + 1))]) dX3_liftsOfTried_99 rfl (by decide) rfl rfl ?_
                refine g_goto X (tgt := 63) dX3_liftsOfTried_102 (by decide) ?_
                exact ih3 τ10 ((trF r (w i.toNat) e b.toNat f).1) (m + (trF r (w i.toNat) e b.toNat f).2) (i + 1) (by omega) (by omega) (by rw [show (i + 1).toNat = i.toNat + 1 by omega, rowF, j7]) (by exact hF93) (by exact tb93.1) (by exact jf.trans hf93) (by omega) (by omega)
        exact L3 _ τ ((feet0 r)) 0 0 (by omega) (by omega) (by rfl) (by exact fun q hq => iF q (by omega)) (by exact FB0 hR) (by exact frA.of8 jf) (by omega) (by exact Int.lt_toNat_succ _)
      · skip
        refine g_iload X dX3_liftsOfTried_12 rfl ?_
        refine g_aload_n X dX3_liftsOfTried_14 rfl ?_
        refine gf_X3_9 X fk7 dX3_liftsOfTried_15 ?_
        refine g_alen13 X fk8 fl8 dX3_liftsOfTried_18 ?_
        refine g_icmp_ge X (tgt := 57) dX3_liftsOfTried_19 (by decide) ⟨by omega, by omega⟩ ⟨by decide, by decide⟩ (fun c12 => ?_) (fun c12 => ?_)
        · skip
          refine g_iconst X dX3_liftsOfTried_57 ?_
          refine g_istore X (lw := [some (rv E (7)), some (rv E (25)), some (iv (e)), some (iv (b)), some (iv (0)), none]) dX3_liftsOfTried_58 (by decide) rfl rfl ?_
          refine g_iconst X dX3_liftsOfTried_60 ?_
          refine g_istore X (lw := [some (rv E (7)), some (rv E (25)), some (iv (e)), some (iv (b)), some (iv (0)), some (iv (0))]) dX3_liftsOfTried_61 (by decide) rfl rfl ?_
          have L13 : ∀ (fu : Nat) (χ : Mem) (f : Ft) (m i : Int), (0 ≤ i) → (i ≤ F) → (rowF r e b.toNat (feet0 r) w i.toNat = (f, m)) → (FR χ 8 (r 19).toNat f) → (FB r f) → (frA σ χ) → (0 ≤ m ∧ m ≤ 50000 * i) → (F : Int) - i < (fu : Int) → K χ 63 [some (rv E (7)), some (rv E (25)), some (iv (e)), some (iv (b)), some (iv (m)), some (iv (i))] [] := by
            intro fu
            induction fu with
            | zero =>
              intro χ f m i j1 j2 j7 jF jB jf jm hm
              exact absurd hm (by omega)
            | succ fu ih13 =>
              intro χ f m i j1 j2 j7 jF jB jf jm hm
              have jS : SRep χ 25 r := hS.fO hR jf.O
              have h5c : χ 7 5 = (F : Int) := (jf.2 5 (by decide)).trans h5
              have h6c : χ 7 6 = ls := (jf.2 6 (by decide)).trans h6
              refine g_iload X dX3_liftsOfTried_63 rfl ?_
              refine g_aload_n X dX3_liftsOfTried_65 rfl ?_
              refine gf_X3_55 X fk7 (show χ 7 5 = ((F : Nat) : Int) from h5c) dX3_liftsOfTried_66 ?_
              refine g_icmp_ge X (tgt := 105) dX3_liftsOfTried_69 (by decide) ⟨by omega, by omega⟩ ⟨by omega, by omega⟩ (fun c14 => ?_) (fun c14 => ?_)
              · skip
                refine g_iload X dX3_liftsOfTried_105 rfl ?_
                exact R _ _ _ _ dX3_liftsOfTried_107 (by have rb := rowF_b hR (e := e) (b := b.toNat) (by omega) (FB0 hR) (w := w) i.toNat (fun j hj => hw2 j (by omega)); rw [j7] at rb; have rm := rowF_mono hR (e := e) (b := b.toNat) (by omega) (FB0 hR) (w := w) (m := i.toNat) F (by omega) (fun j hj => hw2 j (by omega)); rw [j7] at rm; exact ⟨m, rfl, rb.2.1, by have q := rb.2.2; omega, fun q => by first | (have z : i.toNat = F := (by omega); rw [← z, j7]; done) | (exfalso; simp only [] at rm; omega), fun q => by first | omega | (have z : i.toNat = F := (by omega); rw [← z, j7] at q; exact q), jf⟩)
              · skip
                refine g_iload X dX3_liftsOfTried_72 rfl ?_
                refine g_aload_n X dX3_liftsOfTried_74 rfl ?_
                refine gf_X3_37 X fk7 (show χ 7 6 = ls from h6c) dX3_liftsOfTried_75 ?_
                refine g_icmp_ge X (tgt := 105) dX3_liftsOfTried_78 (by decide) ⟨by omega, by omega⟩ ⟨by omega, by omega⟩ (fun c15 => ?_) (fun c15 => ?_)
                · skip
                  refine g_iload X dX3_liftsOfTried_105 rfl ?_
                  exact R _ _ _ _ dX3_liftsOfTried_107 (by have rb := rowF_b hR (e := e) (b := b.toNat) (by omega) (FB0 hR) (w := w) i.toNat (fun j hj => hw2 j (by omega)); rw [j7] at rb; have rm := rowF_mono hR (e := e) (b := b.toNat) (by omega) (FB0 hR) (w := w) (m := i.toNat) F (by omega) (fun j hj => hw2 j (by omega)); rw [j7] at rm; exact ⟨m, rfl, rb.2.1, by have q := rb.2.2; omega, fun q => by first | (have z : i.toNat = F := (by omega); rw [← z, j7]; done) | (exfalso; simp only [] at rm; omega), fun q => by first | omega | (have z : i.toNat = F := (by omega); rw [← z, j7] at q; exact q), jf⟩)
                · skip
                  refine g_iload X dX3_liftsOfTried_81 rfl ?_
                  refine g_aload_n X dX3_liftsOfTried_83 rfl ?_
                  refine g_aload_n X dX3_liftsOfTried_84 rfl ?_
                  refine g_aload_n X dX3_liftsOfTried_85 rfl ?_
                  refine g_iload X dX3_liftsOfTried_86 rfl ?_
                  refine cl_X3_73 X (c_X3_triedAt l E χ F (by omega) h5c i (by omega)) fk7 ⟨Nat.le_of_ble_eq_true rfl, Nat.le_of_ble_eq_true rfl⟩ rfl (Nat.le_of_ble_eq_true rfl) dX3_liftsOfTried_88 rfl (fun v16 τ17 p18 => ?_)
                  obtain ⟨rfl, rfl⟩ := p18
                  rw [show χ 10 (i).toNat = ((w (i).toNat : Nat) : Int) from ((congrFun (jf.1 10 (by decide) (by decide) (by decide)) _).trans (hw (i).toNat (by omega)))]
                  have wl88 := hw2 (i).toNat (by omega)
                  refine g_iload_n X dX3_liftsOfTried_91 rfl ?_
                  refine g_iload_n X dX3_liftsOfTried_92 rfl ?_
                  refine cl_X3_76 X (c_X3_liftsOfPile l E χ r N jS hR f jF jB (((w (i).toNat : Nat) : Int)) e b (by omega) (by omega) (by omega) (by omega)) fk7 ⟨Nat.le_of_ble_eq_true rfl, Nat.le_of_ble_eq_true rfl⟩ rfl (Nat.le_of_ble_eq_true rfl) dX3_liftsOfTried_93 rfl (fun v19 τ20 p21 => ?_)
                  obtain ⟨rfl, hF93, hf93⟩ := p21
                  rw [Int.toNat_natCast] at hF93
                  rw [show (((w i.toNat : Nat) : Int)).toNat = w i.toNat from Int.toNat_natCast _]
                  have tb93 := trF_b hR (p := w i.toNat) (e := e) (by omega) b.toNat f jB
                  refine g_iadd X dX3_liftsOfTried_96 ?_
                  refine g_istore X (lw := [some (rv E (7)), some (rv E (25)), some (iv (e)), some (iv (b)), some (iv (m + (trF r (w i.toNat) e b.toNat f).2)), some (iv (i))]) dX3_liftsOfTried_97 (by decide) rfl rfl ?_
                  refine g_iinc X (lw := [some (rv E (7)), some (rv E (25)), some (iv (e)), some (iv (b)), some (iv (m + (trF r (w i.toNat) e b.toNat f).2)), some (iv (i + 1))]) dX3_liftsOfTried_99 rfl (by decide) rfl rfl ?_
                  refine g_goto X (tgt := 63) dX3_liftsOfTried_102 (by decide) ?_
                  exact ih13 τ20 ((trF r (w i.toNat) e b.toNat f).1) (m + (trF r (w i.toNat) e b.toNat f).2) (i + 1) (by omega) (by omega) (by rw [show (i + 1).toNat = i.toNat + 1 by omega, rowF, j7]) (by exact hF93) (by exact tb93.1) (by exact jf.trans hf93) (by omega) (by omega)
          exact L13 _ τ ((feet0 r)) 0 0 (by omega) (by omega) (by rfl) (by exact fun q hq => iF q (by omega)) (by exact FB0 hR) (by exact frA.of8 jf) (by omega) (by exact Int.lt_toNat_succ _)
        · skip
          refine g_aload_n X dX3_liftsOfTried_22 rfl ?_
          refine g_iload X dX3_liftsOfTried_23 rfl ?_
          refine cl_X3_61 X (cs_X6_pileAt l E τ 25 r N now_k jS hR i (by omega) (by omega)) now_k ⟨Nat.le_of_ble_eq_true rfl, Nat.le_of_ble_eq_true rfl⟩ rfl (Nat.le_of_ble_eq_true rfl) dX3_liftsOfTried_25 rfl (fun v22 τ23 p24 => ?_)
          obtain ⟨rfl, rfl⟩ := p24
          have hp25 := (jS.2.2.2.2.2.2 (i).toNat (by omega))
          have hf25 := hp25.f
          have hi25 := hR.2.2.2.2.2.2 (i).toNat (by omega)
          have hj25 := hi25.f
          refine g_astore X (lw := [some (rv E (7)), some (rv E (25)), some (iv (e)), some (iv (b)), some (iv (i)), some (rv E ((25 + 5 + 1 + 3 * (i).toNat)))]) dX3_liftsOfTried_28 (by decide) rfl rfl ?_
          refine g_aload_n X dX3_liftsOfTried_30 rfl ?_
          refine gf_X3_9 X fk7 dX3_liftsOfTried_31 ?_
          refine g_iload X dX3_liftsOfTried_34 rfl ?_
          refine g_aload X dX3_liftsOfTried_36 rfl ?_
          refine g_ifnonnull X (tgt := 45) dX3_liftsOfTried_38 (by decide) ?_
          refine g_aload X dX3_liftsOfTried_45 rfl ?_
          refine gf_X3_70 X (stP now_k (i).toNat (by omega)) ((jS.2.2.2.2.2.2 (i).toNat (by omega)).f.2.2.2.2.1) dX3_liftsOfTried_47 ?_
          refine g_iast X fk8 fl8 (by omega) (by omega) (by decide) dX3_liftsOfTried_50 ?_
          refine g_iinc X (lw := [some (rv E (7)), some (rv E (25)), some (iv (e)), some (iv (b)), some (iv (i + 1)), some (rv E ((25 + 5 + 1 + 3 * (i).toNat)))]) dX3_liftsOfTried_51 rfl (by decide) rfl rfl ?_
          refine g_goto X (tgt := 3) dX3_liftsOfTried_54 (by decide) ?_
          refine g_kill X 5 (lw := [some (rv E (7)), some (rv E (25)), some (iv (e)), some (iv (b)), some (iv (i + 1)), none]) rfl ?_
          exact ih1 (up τ 8 ((i).toNat) (r (24 + 91 * (i).toNat + 3)))  (i + 1) (by omega) (by omega) (by intro q hq; by_cases z : q = i.toNat; (subst z; rw [up_same]; rfl); (rw [up_ne _ _ (Or.inr z)]; exact iF q (by omega))) (by intro y hy; rw [up_neC _ _ hy]; exact jf y hy) (by omega)
  exact L1 _ σ  0 (by omega) (by omega) (by intro q hq; omega) (by intro y _; rfl) (by exact Int.lt_toNat_succ _)
