/-! ===== the law's loop ===== -/
theorem and31 (x : Int32) : 0 ≤ (x &&& zI 31).toInt ∧ (x &&& zI 31).toInt < 32 := by
  have e : (x &&& zI 31).toInt = (x.toBitVec &&& (zI 31).toBitVec).toInt := rfl
  have h31 : (zI 31).toBitVec.toNat = 31 := by decide
  have h : (x.toBitVec &&& (zI 31).toBitVec).toNat ≤ 31 := by
    rw [BitVec.toNat_and, h31]
    exact Nat.and_le_right
  rw [e, BitVec.toInt_eq_toNat_of_lt (by omega)]
  omega
/-- what a walk of the law knows of its script (length, elements) and of its end -/
def LawK (K : Mem → Nat → List (Option Value) → List Value → Prop) (E : wEnv) (L : Nat) (xz : Int → Int) : Prop := (∀ σ pc lv st, decode cL_law pc = .ok (.arraylength, 1) → K σ (pc + 1) lv (iv L :: st) → K σ pc lv (sv E 3 :: st)) ∧ (∀ σ pc lv st (i : Int), 0 ≤ i → i < L → decode cL_law pc = .ok (.iaload, 1) → K σ (pc + 1) lv (iv (xz i) :: st) → K σ pc lv (iv i :: sv E 3 :: st)) ∧ (∀ σ pc lv, decode cL_law pc = .ok (.ireturn, 1) → K σ pc lv [iv 1]) ∧ ∀ i, I32 (xz i)
section LAW
variable {l : Launch} {E : wEnv} {K : Mem → Nat → List (Option Value) → List Value → Prop} {own : String} {cc : ByteArray} {nL f loc : Nat} {σ : Mem} {pc : Nat} {lv : List (Option Value)} {st : List Value}
theorem g_iand31 (X : Ctx l E K own cc nL f loc) {a : Int} (hd : decode cc pc = .ok (.iand, 1)) (kk : ∀ c, 0 ≤ c → c < 32 → K σ (pc + 1) lv (iv c :: st)) : K σ pc lv (iv 31 :: iv a :: st) := by
  have hc := and31 (zI a)
  have k := kk _ hc.1 hc.2
  have e : zI (zI a &&& zI 31).toInt = zI a &&& zI 31 := Int32.ofInt_toInt _
  rw [iv, e] at k
  obtain ⟨p, e, R, s, m, args, below, meth, c0, cells, slots, Q, rfl, hx, hb, hml, hown, hts, hf, hlo, hc1, hs1, hCK⟩ := X
  intro H locs ls hP hS hv
  exact lv_iand hx hb hd (k H locs ls hP hS hv)
theorem g_icmpS (X : Ctx l E K own cc nL f loc) {z : Int} {off : Int} {tgt : Nat} (hd : decode cc pc = .ok (.if_icmp .eq off, 3)) (ht : (pc : Int) + off = (tgt : Int)) (kt : K σ tgt lv st) : K σ pc lv (iv z :: iv z :: st) := by
  obtain ⟨p, e, R, s, m, args, below, meth, c0, cells, slots, Q, rfl, hx, hb, hml, hown, hts, hf, hlo, hc1, hs1, hCK⟩ := X
  intro H locs ls hP hS hv
  exact lv_icmp_eq hx hb hd ht (fun _ => kt H locs ls hP hS hv) (fun h => absurd rfl h)
theorem g_lcmpS (X : Ctx l E K own cc nL f loc) {z : Int} (hd : decode cc pc = .ok (.lcmp, 1)) (kt : K σ (pc + 1) lv (iv 0 :: st)) : K σ pc lv (jv z :: jv z :: st) := by
  obtain ⟨p, e, R, s, m, args, below, meth, c0, cells, slots, Q, rfl, hx, hb, hml, hown, hts, hf, hlo, hc1, hs1, hCK⟩ := X
  intro H locs ls hP hS hv
  have k := kt H locs ls hP hS hv
  refine W.lcmp hx hb hd ?_
  have e : lg_cmp (zL z) (zL z) = zI 0 := by
    rw [zI_0]
    simp [lg_cmp, Int64.lt_irrefl]
  rw [e]
  exact k
theorem cl_RL_13 (X : Ctx l E K RL cc nL f loc) {b f' loc' : Nat} {as : List Value} {stk : List Value} {Post : Option Value → Mem → Prop} (hM : MetC l E yX7_stratum cX7_stratum 4 (some .int) f' loc' (rv E b :: as) σ Post) (hK : isK 0 b) (hR : f' + 1 ≤ f ∧ 8 + (4 + 11) + loc' ≤ loc) (hn : as.length = 3) (hroom : (st.map fun v => v.category).sum ≤ 8) (hd : decode cc pc = .ok (.invokevirtual 13, 3)) (hstk : stk = as.reverse ++ rv E b :: st) (kk : ∀ (v : Option Value) (σ' : Mem), Post v σ' → K σ' (pc + 3) lv (v.toList ++ st)) : K σ pc lv stk := g_callV X hM hK.1 (ent0 hK.2) rfl rfl wL_RL_13 wI_X7_stratum wS_X7_stratum wN_X7 wC_X7_stratum ⟨by decide, by decide, by decide +kernel⟩ hR hn hroom hd hstk kk
theorem cl_RL_17 (X : Ctx l E K RL cc nL f loc) {b f' loc' : Nat} {as : List Value} {stk : List Value} {Post : Option Value → Mem → Prop} (hM : MetC l E yX8_stratum cX8_stratum 4 (some .int) f' loc' (rv E b :: as) σ Post) (hK : isK 7 b) (hR : f' + 1 ≤ f ∧ 8 + (4 + 11) + loc' ≤ loc) (hn : as.length = 3) (hroom : (st.map fun v => v.category).sum ≤ 8) (hd : decode cc pc = .ok (.invokevirtual 17, 3)) (hstk : stk = as.reverse ++ rv E b :: st) (kk : ∀ (v : Option Value) (σ' : Mem), Post v σ' → K σ' (pc + 3) lv (v.toList ++ st)) : K σ pc lv stk := g_callV X hM hK.1 (ent7 hK.2) rfl rfl wL_RL_17 wI_X8_stratum wS_X8_stratum wN_X8 wC_X8_stratum ⟨by decide, by decide, by decide +kernel⟩ hR hn hroom hd hstk kk
theorem cl_RL_18 (X : Ctx l E K RL cc nL f loc) {b f' loc' : Nat} {as : List Value} {stk : List Value} {Post : Option Value → Mem → Prop} (hM : MetC l E yX7_cut cX7_cut 1 (some .int) f' loc' (rv E b :: as) σ Post) (hK : isK 0 b) (hR : f' + 1 ≤ f ∧ 8 + (1 + 11) + loc' ≤ loc) (hn : as.length = 0) (hroom : (st.map fun v => v.category).sum ≤ 8) (hd : decode cc pc = .ok (.invokevirtual 18, 3)) (hstk : stk = as.reverse ++ rv E b :: st) (kk : ∀ (v : Option Value) (σ' : Mem), Post v σ' → K σ' (pc + 3) lv (v.toList ++ st)) : K σ pc lv stk := g_callV X hM hK.1 (ent0 hK.2) rfl rfl wL_RL_18 wI_X7_cut wS_X7_cut wN_X7 wC_X7_cut ⟨by decide, by decide, by decide +kernel⟩ hR hn hroom hd hstk kk
theorem cl_RL_22 (X : Ctx l E K RL cc nL f loc) {b f' loc' : Nat} {as : List Value} {stk : List Value} {Post : Option Value → Mem → Prop} (hM : MetC l E yX8_cut cX8_cut 1 (some .int) f' loc' (rv E b :: as) σ Post) (hK : isK 7 b) (hR : f' + 1 ≤ f ∧ 8 + (1 + 11) + loc' ≤ loc) (hn : as.length = 0) (hroom : (st.map fun v => v.category).sum ≤ 8) (hd : decode cc pc = .ok (.invokevirtual 22, 3)) (hstk : stk = as.reverse ++ rv E b :: st) (kk : ∀ (v : Option Value) (σ' : Mem), Post v σ' → K σ' (pc + 3) lv (v.toList ++ st)) : K σ pc lv stk := g_callV X hM hK.1 (ent7 hK.2) rfl rfl wL_RL_22 wI_X8_cut wS_X8_cut wN_X8 wC_X8_cut ⟨by decide, by decide, by decide +kernel⟩ hR hn hroom hd hstk kk
theorem cl_RL_23 (X : Ctx l E K RL cc nL f loc) {b f' loc' : Nat} {as : List Value} {stk : List Value} {Post : Option Value → Mem → Prop} (hM : MetC l E yX7_ground cX7_ground 3 (some .int) f' loc' (rv E b :: as) σ Post) (hK : isK 0 b) (hR : f' + 1 ≤ f ∧ 8 + (3 + 11) + loc' ≤ loc) (hn : as.length = 2) (hroom : (st.map fun v => v.category).sum ≤ 8) (hd : decode cc pc = .ok (.invokevirtual 23, 3)) (hstk : stk = as.reverse ++ rv E b :: st) (kk : ∀ (v : Option Value) (σ' : Mem), Post v σ' → K σ' (pc + 3) lv (v.toList ++ st)) : K σ pc lv stk := g_callV X hM hK.1 (ent0 hK.2) rfl rfl wL_RL_23 wI_X7_ground wS_X7_ground wN_X7 wC_X7_ground ⟨by decide, by decide, by decide +kernel⟩ hR hn hroom hd hstk kk
theorem cl_RL_27 (X : Ctx l E K RL cc nL f loc) {b f' loc' : Nat} {as : List Value} {stk : List Value} {Post : Option Value → Mem → Prop} (hM : MetC l E yX8_ground cX8_ground 3 (some .int) f' loc' (rv E b :: as) σ Post) (hK : isK 7 b) (hR : f' + 1 ≤ f ∧ 8 + (3 + 11) + loc' ≤ loc) (hn : as.length = 2) (hroom : (st.map fun v => v.category).sum ≤ 8) (hd : decode cc pc = .ok (.invokevirtual 27, 3)) (hstk : stk = as.reverse ++ rv E b :: st) (kk : ∀ (v : Option Value) (σ' : Mem), Post v σ' → K σ' (pc + 3) lv (v.toList ++ st)) : K σ pc lv stk := g_callV X hM hK.1 (ent7 hK.2) rfl rfl wL_RL_27 wI_X8_ground wS_X8_ground wN_X8 wC_X8_ground ⟨by decide, by decide, by decide +kernel⟩ hR hn hroom hd hstk kk
theorem cl_RL_28 (X : Ctx l E K RL cc nL f loc) {b f' loc' : Nat} {as : List Value} {stk : List Value} {Post : Option Value → Mem → Prop} (hM : MetC l E yX7_at cX7_at 3 (some .int) f' loc' (rv E b :: as) σ Post) (hK : isK 0 b) (hR : f' + 1 ≤ f ∧ 8 + (3 + 11) + loc' ≤ loc) (hn : as.length = 1) (hroom : (st.map fun v => v.category).sum ≤ 8) (hd : decode cc pc = .ok (.invokevirtual 28, 3)) (hstk : stk = as.reverse ++ rv E b :: st) (kk : ∀ (v : Option Value) (σ' : Mem), Post v σ' → K σ' (pc + 3) lv (v.toList ++ st)) : K σ pc lv stk := g_callV X hM hK.1 (ent0 hK.2) rfl rfl wL_RL_28 wI_X7_at wS_X7_at wN_X7 wC_X7_at ⟨by decide, by decide, by decide +kernel⟩ hR hn hroom hd hstk kk
theorem cl_RL_32 (X : Ctx l E K RL cc nL f loc) {b f' loc' : Nat} {as : List Value} {stk : List Value} {Post : Option Value → Mem → Prop} (hM : MetC l E yX8_at cX8_at 2 (some .int) f' loc' (rv E b :: as) σ Post) (hK : isK 7 b) (hR : f' + 1 ≤ f ∧ 8 + (2 + 11) + loc' ≤ loc) (hn : as.length = 1) (hroom : (st.map fun v => v.category).sum ≤ 8) (hd : decode cc pc = .ok (.invokevirtual 32, 3)) (hstk : stk = as.reverse ++ rv E b :: st) (kk : ∀ (v : Option Value) (σ' : Mem), Post v σ' → K σ' (pc + 3) lv (v.toList ++ st)) : K σ pc lv stk := g_callV X hM hK.1 (ent7 hK.2) rfl rfl wL_RL_32 wI_X8_at wS_X8_at wN_X8 wC_X8_at ⟨by decide, by decide, by decide +kernel⟩ hR hn hroom hd hstk kk
theorem cl_RL_33 (X : Ctx l E K RL cc nL f loc) {b f' loc' : Nat} {as : List Value} {stk : List Value} {Post : Option Value → Mem → Prop} (hM : MetC l E yX7_set cX7_set 4 (some .int) f' loc' (rv E b :: as) σ Post) (hK : isK 0 b) (hR : f' + 1 ≤ f ∧ 8 + (4 + 11) + loc' ≤ loc) (hn : as.length = 2) (hroom : (st.map fun v => v.category).sum ≤ 8) (hd : decode cc pc = .ok (.invokevirtual 33, 3)) (hstk : stk = as.reverse ++ rv E b :: st) (kk : ∀ (v : Option Value) (σ' : Mem), Post v σ' → K σ' (pc + 3) lv (v.toList ++ st)) : K σ pc lv stk := g_callV X hM hK.1 (ent0 hK.2) rfl rfl wL_RL_33 wI_X7_set wS_X7_set wN_X7 wC_X7_set ⟨by decide, by decide, by decide +kernel⟩ hR hn hroom hd hstk kk
theorem cl_RL_36 (X : Ctx l E K RL cc nL f loc) {b f' loc' : Nat} {as : List Value} {stk : List Value} {Post : Option Value → Mem → Prop} (hM : MetC l E yX8_set cX8_set 4 (some .int) f' loc' (rv E b :: as) σ Post) (hK : isK 7 b) (hR : f' + 1 ≤ f ∧ 8 + (4 + 11) + loc' ≤ loc) (hn : as.length = 2) (hroom : (st.map fun v => v.category).sum ≤ 8) (hd : decode cc pc = .ok (.invokevirtual 36, 3)) (hstk : stk = as.reverse ++ rv E b :: st) (kk : ∀ (v : Option Value) (σ' : Mem), Post v σ' → K σ' (pc + 3) lv (v.toList ++ st)) : K σ pc lv stk := g_callV X hM hK.1 (ent7 hK.2) rfl rfl wL_RL_36 wI_X8_set wS_X8_set wN_X8 wC_X8_set ⟨by decide, by decide, by decide +kernel⟩ hR hn hroom hd hstk kk
theorem cl_RL_37 (X : Ctx l E K RL cc nL f loc) {b f' loc' : Nat} {as : List Value} {stk : List Value} {Post : Option Value → Mem → Prop} (hM : MetC l E yX7_count cX7_count 2 (some .long) f' loc' (rv E b :: as) σ Post) (hK : isK 0 b) (hR : f' + 1 ≤ f ∧ 8 + (2 + 11) + loc' ≤ loc) (hn : as.length = 1) (hroom : (st.map fun v => v.category).sum ≤ 8) (hd : decode cc pc = .ok (.invokevirtual 37, 3)) (hstk : stk = as.reverse ++ rv E b :: st) (kk : ∀ (v : Option Value) (σ' : Mem), Post v σ' → K σ' (pc + 3) lv (v.toList ++ st)) : K σ pc lv stk := g_callV X hM hK.1 (ent0 hK.2) rfl rfl wL_RL_37 wI_X7_count wS_X7_count wN_X7 wC_X7_count ⟨by decide, by decide, by decide +kernel⟩ hR hn hroom hd hstk kk
theorem cl_RL_41 (X : Ctx l E K RL cc nL f loc) {b f' loc' : Nat} {as : List Value} {stk : List Value} {Post : Option Value → Mem → Prop} (hM : MetC l E yX8_count cX8_count 2 (some .long) f' loc' (rv E b :: as) σ Post) (hK : isK 7 b) (hR : f' + 1 ≤ f ∧ 8 + (2 + 11) + loc' ≤ loc) (hn : as.length = 1) (hroom : (st.map fun v => v.category).sum ≤ 8) (hd : decode cc pc = .ok (.invokevirtual 41, 3)) (hstk : stk = as.reverse ++ rv E b :: st) (kk : ∀ (v : Option Value) (σ' : Mem), Post v σ' → K σ' (pc + 3) lv (v.toList ++ st)) : K σ pc lv stk := g_callV X hM hK.1 (ent7 hK.2) rfl rfl wL_RL_41 wI_X8_count wS_X8_count wN_X8 wC_X8_count ⟨by decide, by decide, by decide +kernel⟩ hR hn hroom hd hstk kk
theorem cl_RL_42 (X : Ctx l E K RL cc nL f loc) {b f' loc' : Nat} {as : List Value} {stk : List Value} {Post : Option Value → Mem → Prop} (hM : MetC l E yX7_pile cX7_pile 4 (some .int) f' loc' (rv E b :: as) σ Post) (hK : isK 0 b) (hR : f' + 1 ≤ f ∧ 8 + (4 + 11) + loc' ≤ loc) (hn : as.length = 3) (hroom : (st.map fun v => v.category).sum ≤ 8) (hd : decode cc pc = .ok (.invokevirtual 42, 3)) (hstk : stk = as.reverse ++ rv E b :: st) (kk : ∀ (v : Option Value) (σ' : Mem), Post v σ' → K σ' (pc + 3) lv (v.toList ++ st)) : K σ pc lv stk := g_callV X hM hK.1 (ent0 hK.2) rfl rfl wL_RL_42 wI_X7_pile wS_X7_pile wN_X7 wC_X7_pile ⟨by decide, by decide, by decide +kernel⟩ hR hn hroom hd hstk kk
theorem cl_RL_45 (X : Ctx l E K RL cc nL f loc) {b f' loc' : Nat} {as : List Value} {stk : List Value} {Post : Option Value → Mem → Prop} (hM : MetC l E yX8_pile cX8_pile 6 (some .int) f' loc' (rv E b :: as) σ Post) (hK : isK 7 b) (hR : f' + 1 ≤ f ∧ 8 + (6 + 11) + loc' ≤ loc) (hn : as.length = 3) (hroom : (st.map fun v => v.category).sum ≤ 8) (hd : decode cc pc = .ok (.invokevirtual 45, 3)) (hstk : stk = as.reverse ++ rv E b :: st) (kk : ∀ (v : Option Value) (σ' : Mem), Post v σ' → K σ' (pc + 3) lv (v.toList ++ st)) : K σ pc lv stk := g_callV X hM hK.1 (ent7 hK.2) rfl rfl wL_RL_45 wI_X8_pile wS_X8_pile wN_X8 wC_X8_pile ⟨by decide, by decide, by decide +kernel⟩ hR hn hroom hd hstk kk
theorem cl_RL_46 (X : Ctx l E K RL cc nL f loc) {b f' loc' : Nat} {as : List Value} {stk : List Value} {Post : Option Value → Mem → Prop} (hM : MetC l E yX7_pileOf cX7_pileOf 4 (some .int) f' loc' (rv E b :: as) σ Post) (hK : isK 0 b) (hR : f' + 1 ≤ f ∧ 8 + (4 + 11) + loc' ≤ loc) (hn : as.length = 2) (hroom : (st.map fun v => v.category).sum ≤ 8) (hd : decode cc pc = .ok (.invokevirtual 46, 3)) (hstk : stk = as.reverse ++ rv E b :: st) (kk : ∀ (v : Option Value) (σ' : Mem), Post v σ' → K σ' (pc + 3) lv (v.toList ++ st)) : K σ pc lv stk := g_callV X hM hK.1 (ent0 hK.2) rfl rfl wL_RL_46 wI_X7_pileOf wS_X7_pileOf wN_X7 wC_X7_pileOf ⟨by decide, by decide, by decide +kernel⟩ hR hn hroom hd hstk kk
theorem cl_RL_49 (X : Ctx l E K RL cc nL f loc) {b f' loc' : Nat} {as : List Value} {stk : List Value} {Post : Option Value → Mem → Prop} (hM : MetC l E yX8_pileOf cX8_pileOf 3 (some .int) f' loc' (rv E b :: as) σ Post) (hK : isK 7 b) (hR : f' + 1 ≤ f ∧ 8 + (3 + 11) + loc' ≤ loc) (hn : as.length = 2) (hroom : (st.map fun v => v.category).sum ≤ 8) (hd : decode cc pc = .ok (.invokevirtual 49, 3)) (hstk : stk = as.reverse ++ rv E b :: st) (kk : ∀ (v : Option Value) (σ' : Mem), Post v σ' → K σ' (pc + 3) lv (v.toList ++ st)) : K σ pc lv stk := g_callV X hM hK.1 (ent7 hK.2) rfl rfl wL_RL_49 wI_X8_pileOf wS_X8_pileOf wN_X8 wC_X8_pileOf ⟨by decide, by decide, by decide +kernel⟩ hR hn hroom hd hstk kk
theorem cl_RL_50 (X : Ctx l E K RL cc nL f loc) {b f' loc' : Nat} {as : List Value} {stk : List Value} {Post : Option Value → Mem → Prop} (hM : MetC l E yX7_blow cX7_blow 6 (some .int) f' loc' (rv E b :: as) σ Post) (hK : isK 0 b) (hR : f' + 1 ≤ f ∧ 8 + (6 + 11) + loc' ≤ loc) (hn : as.length = 3) (hroom : (st.map fun v => v.category).sum ≤ 8) (hd : decode cc pc = .ok (.invokevirtual 50, 3)) (hstk : stk = as.reverse ++ rv E b :: st) (kk : ∀ (v : Option Value) (σ' : Mem), Post v σ' → K σ' (pc + 3) lv (v.toList ++ st)) : K σ pc lv stk := g_callV X hM hK.1 (ent0 hK.2) rfl rfl wL_RL_50 wI_X7_blow wS_X7_blow wN_X7 wC_X7_blow ⟨by decide, by decide, by decide +kernel⟩ hR hn hroom hd hstk kk
theorem cl_RL_53 (X : Ctx l E K RL cc nL f loc) {b f' loc' : Nat} {as : List Value} {stk : List Value} {Post : Option Value → Mem → Prop} (hM : MetC l E yX8_blow cX8_blow 5 (some .int) f' loc' (rv E b :: as) σ Post) (hK : isK 7 b) (hR : f' + 1 ≤ f ∧ 8 + (5 + 11) + loc' ≤ loc) (hn : as.length = 3) (hroom : (st.map fun v => v.category).sum ≤ 8) (hd : decode cc pc = .ok (.invokevirtual 53, 3)) (hstk : stk = as.reverse ++ rv E b :: st) (kk : ∀ (v : Option Value) (σ' : Mem), Post v σ' → K σ' (pc + 3) lv (v.toList ++ st)) : K σ pc lv stk := g_callV X hM hK.1 (ent7 hK.2) rfl rfl wL_RL_53 wI_X8_blow wS_X8_blow wN_X8 wC_X8_blow ⟨by decide, by decide, by decide +kernel⟩ hR hn hroom hd hstk kk
theorem cl_RL_54 (X : Ctx l E K RL cc nL f loc) {b f' loc' : Nat} {as : List Value} {stk : List Value} {Post : Option Value → Mem → Prop} (hM : MetC l E yX7_strike cX7_strike 4 (some .int) f' loc' (rv E b :: as) σ Post) (hK : isK 0 b) (hR : f' + 1 ≤ f ∧ 8 + (4 + 11) + loc' ≤ loc) (hn : as.length = 2) (hroom : (st.map fun v => v.category).sum ≤ 8) (hd : decode cc pc = .ok (.invokevirtual 54, 3)) (hstk : stk = as.reverse ++ rv E b :: st) (kk : ∀ (v : Option Value) (σ' : Mem), Post v σ' → K σ' (pc + 3) lv (v.toList ++ st)) : K σ pc lv stk := g_callV X hM hK.1 (ent0 hK.2) rfl rfl wL_RL_54 wI_X7_strike wS_X7_strike wN_X7 wC_X7_strike ⟨by decide, by decide, by decide +kernel⟩ hR hn hroom hd hstk kk
theorem cl_RL_57 (X : Ctx l E K RL cc nL f loc) {b f' loc' : Nat} {as : List Value} {stk : List Value} {Post : Option Value → Mem → Prop} (hM : MetC l E yX8_strike cX8_strike 3 (some .int) f' loc' (rv E b :: as) σ Post) (hK : isK 7 b) (hR : f' + 1 ≤ f ∧ 8 + (3 + 11) + loc' ≤ loc) (hn : as.length = 2) (hroom : (st.map fun v => v.category).sum ≤ 8) (hd : decode cc pc = .ok (.invokevirtual 57, 3)) (hstk : stk = as.reverse ++ rv E b :: st) (kk : ∀ (v : Option Value) (σ' : Mem), Post v σ' → K σ' (pc + 3) lv (v.toList ++ st)) : K σ pc lv stk := g_callV X hM hK.1 (ent7 hK.2) rfl rfl wL_RL_57 wI_X8_strike wS_X8_strike wN_X8 wC_X8_strike ⟨by decide, by decide, by decide +kernel⟩ hR hn hroom hd hstk kk
theorem cl_RL_58 (X : Ctx l E K RL cc nL f loc) {b f' loc' : Nat} {as : List Value} {stk : List Value} {Post : Option Value → Mem → Prop} (hM : MetC l E yX7_drive cX7_drive 9 (some .int) f' loc' (rv E b :: as) σ Post) (hK : isK 0 b) (hR : f' + 1 ≤ f ∧ 8 + (9 + 11) + loc' ≤ loc) (hn : as.length = 4) (hroom : (st.map fun v => v.category).sum ≤ 8) (hd : decode cc pc = .ok (.invokevirtual 58, 3)) (hstk : stk = as.reverse ++ rv E b :: st) (kk : ∀ (v : Option Value) (σ' : Mem), Post v σ' → K σ' (pc + 3) lv (v.toList ++ st)) : K σ pc lv stk := g_callV X hM hK.1 (ent0 hK.2) rfl rfl wL_RL_58 wI_X7_drive wS_X7_drive wN_X7 wC_X7_drive ⟨by decide, by decide, by decide +kernel⟩ hR hn hroom hd hstk kk
theorem cl_RL_62 (X : Ctx l E K RL cc nL f loc) {b f' loc' : Nat} {as : List Value} {stk : List Value} {Post : Option Value → Mem → Prop} (hM : MetC l E yX8_drive cX8_drive 8 (some .int) f' loc' (rv E b :: as) σ Post) (hK : isK 7 b) (hR : f' + 1 ≤ f ∧ 8 + (8 + 11) + loc' ≤ loc) (hn : as.length = 4) (hroom : (st.map fun v => v.category).sum ≤ 8) (hd : decode cc pc = .ok (.invokevirtual 62, 3)) (hstk : stk = as.reverse ++ rv E b :: st) (kk : ∀ (v : Option Value) (σ' : Mem), Post v σ' → K σ' (pc + 3) lv (v.toList ++ st)) : K σ pc lv stk := g_callV X hM hK.1 (ent7 hK.2) rfl rfl wL_RL_62 wI_X8_drive wS_X8_drive wN_X8 wC_X8_drive ⟨by decide, by decide, by decide +kernel⟩ hR hn hroom hd hstk kk
theorem cl_RL_63 (X : Ctx l E K RL cc nL f loc) {b f' loc' : Nat} {as : List Value} {stk : List Value} {Post : Option Value → Mem → Prop} (hM : MetC l E yX7_would cX7_would 4 (some .int) f' loc' (rv E b :: as) σ Post) (hK : isK 0 b) (hR : f' + 1 ≤ f ∧ 8 + (4 + 11) + loc' ≤ loc) (hn : as.length = 2) (hroom : (st.map fun v => v.category).sum ≤ 8) (hd : decode cc pc = .ok (.invokevirtual 63, 3)) (hstk : stk = as.reverse ++ rv E b :: st) (kk : ∀ (v : Option Value) (σ' : Mem), Post v σ' → K σ' (pc + 3) lv (v.toList ++ st)) : K σ pc lv stk := g_callV X hM hK.1 (ent0 hK.2) rfl rfl wL_RL_63 wI_X7_would wS_X7_would wN_X7 wC_X7_would ⟨by decide, by decide, by decide +kernel⟩ hR hn hroom hd hstk kk
theorem cl_RL_66 (X : Ctx l E K RL cc nL f loc) {b f' loc' : Nat} {as : List Value} {stk : List Value} {Post : Option Value → Mem → Prop} (hM : MetC l E yX8_would cX8_would 3 (some .int) f' loc' (rv E b :: as) σ Post) (hK : isK 7 b) (hR : f' + 1 ≤ f ∧ 8 + (3 + 11) + loc' ≤ loc) (hn : as.length = 2) (hroom : (st.map fun v => v.category).sum ≤ 8) (hd : decode cc pc = .ok (.invokevirtual 66, 3)) (hstk : stk = as.reverse ++ rv E b :: st) (kk : ∀ (v : Option Value) (σ' : Mem), Post v σ' → K σ' (pc + 3) lv (v.toList ++ st)) : K σ pc lv stk := g_callV X hM hK.1 (ent7 hK.2) rfl rfl wL_RL_66 wI_X8_would wS_X8_would wN_X8 wC_X8_would ⟨by decide, by decide, by decide +kernel⟩ hR hn hroom hd hstk kk
theorem cl_RL_67 (X : Ctx l E K RL cc nL f loc) {b f' loc' : Nat} {as : List Value} {stk : List Value} {Post : Option Value → Mem → Prop} (hM : MetC l E yX7_fallFor cX7_fallFor 5 (some .int) f' loc' (rv E b :: as) σ Post) (hK : isK 0 b) (hR : f' + 1 ≤ f ∧ 8 + (5 + 11) + loc' ≤ loc) (hn : as.length = 2) (hroom : (st.map fun v => v.category).sum ≤ 8) (hd : decode cc pc = .ok (.invokevirtual 67, 3)) (hstk : stk = as.reverse ++ rv E b :: st) (kk : ∀ (v : Option Value) (σ' : Mem), Post v σ' → K σ' (pc + 3) lv (v.toList ++ st)) : K σ pc lv stk := g_callV X hM hK.1 (ent0 hK.2) rfl rfl wL_RL_67 wI_X7_fallFor wS_X7_fallFor wN_X7 wC_X7_fallFor ⟨by decide, by decide, by decide +kernel⟩ hR hn hroom hd hstk kk
theorem cl_RL_70 (X : Ctx l E K RL cc nL f loc) {b f' loc' : Nat} {as : List Value} {stk : List Value} {Post : Option Value → Mem → Prop} (hM : MetC l E yX8_fallFor cX8_fallFor 4 (some .int) f' loc' (rv E b :: as) σ Post) (hK : isK 7 b) (hR : f' + 1 ≤ f ∧ 8 + (4 + 11) + loc' ≤ loc) (hn : as.length = 2) (hroom : (st.map fun v => v.category).sum ≤ 8) (hd : decode cc pc = .ok (.invokevirtual 70, 3)) (hstk : stk = as.reverse ++ rv E b :: st) (kk : ∀ (v : Option Value) (σ' : Mem), Post v σ' → K σ' (pc + 3) lv (v.toList ++ st)) : K σ pc lv stk := g_callV X hM hK.1 (ent7 hK.2) rfl rfl wL_RL_70 wI_X8_fallFor wS_X8_fallFor wN_X8 wC_X8_fallFor ⟨by decide, by decide, by decide +kernel⟩ hR hn hroom hd hstk kk
theorem cl_RL_71 (X : Ctx l E K RL cc nL f loc) {b f' loc' : Nat} {as : List Value} {stk : List Value} {Post : Option Value → Mem → Prop} (hM : MetC l E yX7_blowsTo cX7_blowsTo 5 (some .int) f' loc' (rv E b :: as) σ Post) (hK : isK 0 b) (hR : f' + 1 ≤ f ∧ 8 + (5 + 11) + loc' ≤ loc) (hn : as.length = 3) (hroom : (st.map fun v => v.category).sum ≤ 8) (hd : decode cc pc = .ok (.invokevirtual 71, 3)) (hstk : stk = as.reverse ++ rv E b :: st) (kk : ∀ (v : Option Value) (σ' : Mem), Post v σ' → K σ' (pc + 3) lv (v.toList ++ st)) : K σ pc lv stk := g_callV X hM hK.1 (ent0 hK.2) rfl rfl wL_RL_71 wI_X7_blowsTo wS_X7_blowsTo wN_X7 wC_X7_blowsTo ⟨by decide, by decide, by decide +kernel⟩ hR hn hroom hd hstk kk
theorem cl_RL_74 (X : Ctx l E K RL cc nL f loc) {b f' loc' : Nat} {as : List Value} {stk : List Value} {Post : Option Value → Mem → Prop} (hM : MetC l E yX8_blowsTo cX8_blowsTo 7 (some .int) f' loc' (rv E b :: as) σ Post) (hK : isK 7 b) (hR : f' + 1 ≤ f ∧ 8 + (7 + 11) + loc' ≤ loc) (hn : as.length = 3) (hroom : (st.map fun v => v.category).sum ≤ 8) (hd : decode cc pc = .ok (.invokevirtual 74, 3)) (hstk : stk = as.reverse ++ rv E b :: st) (kk : ∀ (v : Option Value) (σ' : Mem), Post v σ' → K σ' (pc + 3) lv (v.toList ++ st)) : K σ pc lv stk := g_callV X hM hK.1 (ent7 hK.2) rfl rfl wL_RL_74 wI_X8_blowsTo wS_X8_blowsTo wN_X8 wC_X8_blowsTo ⟨by decide, by decide, by decide +kernel⟩ hR hn hroom hd hstk kk
theorem cl_RL_75 (X : Ctx l E K RL cc nL f loc) {b f' loc' : Nat} {as : List Value} {stk : List Value} {Post : Option Value → Mem → Prop} (hM : MetC l E yX7_test cX7_test 4 (some .int) f' loc' (rv E b :: as) σ Post) (hK : isK 0 b) (hR : f' + 1 ≤ f ∧ 8 + (4 + 11) + loc' ≤ loc) (hn : as.length = 2) (hroom : (st.map fun v => v.category).sum ≤ 8) (hd : decode cc pc = .ok (.invokevirtual 75, 3)) (hstk : stk = as.reverse ++ rv E b :: st) (kk : ∀ (v : Option Value) (σ' : Mem), Post v σ' → K σ' (pc + 3) lv (v.toList ++ st)) : K σ pc lv stk := g_callV X hM hK.1 (ent0 hK.2) rfl rfl wL_RL_75 wI_X7_test wS_X7_test wN_X7 wC_X7_test ⟨by decide, by decide, by decide +kernel⟩ hR hn hroom hd hstk kk
theorem cl_RL_78 (X : Ctx l E K RL cc nL f loc) {b f' loc' : Nat} {as : List Value} {stk : List Value} {Post : Option Value → Mem → Prop} (hM : MetC l E yX8_test cX8_test 6 (some .int) f' loc' (rv E b :: as) σ Post) (hK : isK 7 b) (hR : f' + 1 ≤ f ∧ 8 + (6 + 11) + loc' ≤ loc) (hn : as.length = 2) (hroom : (st.map fun v => v.category).sum ≤ 8) (hd : decode cc pc = .ok (.invokevirtual 78, 3)) (hstk : stk = as.reverse ++ rv E b :: st) (kk : ∀ (v : Option Value) (σ' : Mem), Post v σ' → K σ' (pc + 3) lv (v.toList ++ st)) : K σ pc lv stk := g_callV X hM hK.1 (ent7 hK.2) rfl rfl wL_RL_78 wI_X8_test wS_X8_test wN_X8 wC_X8_test ⟨by decide, by decide, by decide +kernel⟩ hR hn hroom hd hstk kk
theorem cl_RL_79 (X : Ctx l E K RL cc nL f loc) {b f' loc' : Nat} {as : List Value} {stk : List Value} {Post : Option Value → Mem → Prop} (hM : MetC l E yX7_undo cX7_undo 1 (some .int) f' loc' (rv E b :: as) σ Post) (hK : isK 0 b) (hR : f' + 1 ≤ f ∧ 8 + (1 + 11) + loc' ≤ loc) (hn : as.length = 0) (hroom : (st.map fun v => v.category).sum ≤ 8) (hd : decode cc pc = .ok (.invokevirtual 79, 3)) (hstk : stk = as.reverse ++ rv E b :: st) (kk : ∀ (v : Option Value) (σ' : Mem), Post v σ' → K σ' (pc + 3) lv (v.toList ++ st)) : K σ pc lv stk := g_callV X hM hK.1 (ent0 hK.2) rfl rfl wL_RL_79 wI_X7_undo wS_X7_undo wN_X7 wC_X7_undo ⟨by decide, by decide, by decide +kernel⟩ hR hn hroom hd hstk kk
theorem cl_RL_82 (X : Ctx l E K RL cc nL f loc) {b f' loc' : Nat} {as : List Value} {stk : List Value} {Post : Option Value → Mem → Prop} (hM : MetC l E yX8_undo cX8_undo 2 (some .int) f' loc' (rv E b :: as) σ Post) (hK : isK 7 b) (hR : f' + 1 ≤ f ∧ 8 + (2 + 11) + loc' ≤ loc) (hn : as.length = 0) (hroom : (st.map fun v => v.category).sum ≤ 8) (hd : decode cc pc = .ok (.invokevirtual 82, 3)) (hstk : stk = as.reverse ++ rv E b :: st) (kk : ∀ (v : Option Value) (σ' : Mem), Post v σ' → K σ' (pc + 3) lv (v.toList ++ st)) : K σ pc lv stk := g_callV X hM hK.1 (ent7 hK.2) rfl rfl wL_RL_82 wI_X8_undo wS_X8_undo wN_X8 wC_X8_undo ⟨by decide, by decide, by decide +kernel⟩ hR hn hroom hd hstk kk
theorem cl_RL_83 (X : Ctx l E K RL cc nL f loc) {b f' loc' : Nat} {as : List Value} {stk : List Value} {Post : Option Value → Mem → Prop} (hM : MetC l E yX7_runs cX7_runs 3 (some .int) f' loc' (rv E b :: as) σ Post) (hK : isK 0 b) (hR : f' + 1 ≤ f ∧ 8 + (3 + 11) + loc' ≤ loc) (hn : as.length = 1) (hroom : (st.map fun v => v.category).sum ≤ 8) (hd : decode cc pc = .ok (.invokevirtual 83, 3)) (hstk : stk = as.reverse ++ rv E b :: st) (kk : ∀ (v : Option Value) (σ' : Mem), Post v σ' → K σ' (pc + 3) lv (v.toList ++ st)) : K σ pc lv stk := g_callV X hM hK.1 (ent0 hK.2) rfl rfl wL_RL_83 wI_X7_runs wS_X7_runs wN_X7 wC_X7_runs ⟨by decide, by decide, by decide +kernel⟩ hR hn hroom hd hstk kk
theorem cl_RL_86 (X : Ctx l E K RL cc nL f loc) {b f' loc' : Nat} {as : List Value} {stk : List Value} {Post : Option Value → Mem → Prop} (hM : MetC l E yX8_runs cX8_runs 2 (some .int) f' loc' (rv E b :: as) σ Post) (hK : isK 7 b) (hR : f' + 1 ≤ f ∧ 8 + (2 + 11) + loc' ≤ loc) (hn : as.length = 1) (hroom : (st.map fun v => v.category).sum ≤ 8) (hd : decode cc pc = .ok (.invokevirtual 86, 3)) (hstk : stk = as.reverse ++ rv E b :: st) (kk : ∀ (v : Option Value) (σ' : Mem), Post v σ' → K σ' (pc + 3) lv (v.toList ++ st)) : K σ pc lv stk := g_callV X hM hK.1 (ent7 hK.2) rfl rfl wL_RL_86 wI_X8_runs wS_X8_runs wN_X8 wC_X8_runs ⟨by decide, by decide, by decide +kernel⟩ hR hn hroom hd hstk kk
theorem cl_RL_87 (X : Ctx l E K RL cc nL f loc) {b f' loc' : Nat} {as : List Value} {stk : List Value} {Post : Option Value → Mem → Prop} (hM : MetC l E yX7_run cX7_run 5 (some .int) f' loc' (rv E b :: as) σ Post) (hK : isK 0 b) (hR : f' + 1 ≤ f ∧ 8 + (5 + 11) + loc' ≤ loc) (hn : as.length = 3) (hroom : (st.map fun v => v.category).sum ≤ 8) (hd : decode cc pc = .ok (.invokevirtual 87, 3)) (hstk : stk = as.reverse ++ rv E b :: st) (kk : ∀ (v : Option Value) (σ' : Mem), Post v σ' → K σ' (pc + 3) lv (v.toList ++ st)) : K σ pc lv stk := g_callV X hM hK.1 (ent0 hK.2) rfl rfl wL_RL_87 wI_X7_run wS_X7_run wN_X7 wC_X7_run ⟨by decide, by decide, by decide +kernel⟩ hR hn hroom hd hstk kk
theorem cl_RL_90 (X : Ctx l E K RL cc nL f loc) {b f' loc' : Nat} {as : List Value} {stk : List Value} {Post : Option Value → Mem → Prop} (hM : MetC l E yX8_run cX8_run 4 (some .int) f' loc' (rv E b :: as) σ Post) (hK : isK 7 b) (hR : f' + 1 ≤ f ∧ 8 + (4 + 11) + loc' ≤ loc) (hn : as.length = 3) (hroom : (st.map fun v => v.category).sum ≤ 8) (hd : decode cc pc = .ok (.invokevirtual 90, 3)) (hstk : stk = as.reverse ++ rv E b :: st) (kk : ∀ (v : Option Value) (σ' : Mem), Post v σ' → K σ' (pc + 3) lv (v.toList ++ st)) : K σ pc lv stk := g_callV X hM hK.1 (ent7 hK.2) rfl rfl wL_RL_90 wI_X8_run wS_X8_run wN_X8 wC_X8_run ⟨by decide, by decide, by decide +kernel⟩ hR hn hroom hd hstk kk
theorem cl_RL_91 (X : Ctx l E K RL cc nL f loc) {b f' loc' : Nat} {as : List Value} {stk : List Value} {Post : Option Value → Mem → Prop} (hM : MetC l E yX7_order cX7_order 4 (some .int) f' loc' (rv E b :: as) σ Post) (hK : isK 0 b) (hR : f' + 1 ≤ f ∧ 8 + (4 + 11) + loc' ≤ loc) (hn : as.length = 3) (hroom : (st.map fun v => v.category).sum ≤ 8) (hd : decode cc pc = .ok (.invokevirtual 91, 3)) (hstk : stk = as.reverse ++ rv E b :: st) (kk : ∀ (v : Option Value) (σ' : Mem), Post v σ' → K σ' (pc + 3) lv (v.toList ++ st)) : K σ pc lv stk := g_callV X hM hK.1 (ent0 hK.2) rfl rfl wL_RL_91 wI_X7_order wS_X7_order wN_X7 wC_X7_order ⟨by decide, by decide, by decide +kernel⟩ hR hn hroom hd hstk kk
theorem cl_RL_94 (X : Ctx l E K RL cc nL f loc) {b f' loc' : Nat} {as : List Value} {stk : List Value} {Post : Option Value → Mem → Prop} (hM : MetC l E yX8_order cX8_order 4 (some .int) f' loc' (rv E b :: as) σ Post) (hK : isK 7 b) (hR : f' + 1 ≤ f ∧ 8 + (4 + 11) + loc' ≤ loc) (hn : as.length = 3) (hroom : (st.map fun v => v.category).sum ≤ 8) (hd : decode cc pc = .ok (.invokevirtual 94, 3)) (hstk : stk = as.reverse ++ rv E b :: st) (kk : ∀ (v : Option Value) (σ' : Mem), Post v σ' → K σ' (pc + 3) lv (v.toList ++ st)) : K σ pc lv stk := g_callV X hM hK.1 (ent7 hK.2) rfl rfl wL_RL_94 wI_X8_order wS_X8_order wN_X8 wC_X8_order ⟨by decide, by decide, by decide +kernel⟩ hR hn hroom hd hstk kk
theorem cl_RL_95 (X : Ctx l E K RL cc nL f loc) {b f' loc' : Nat} {as : List Value} {stk : List Value} {Post : Option Value → Mem → Prop} (hM : MetC l E yX7_leastLift cX7_leastLift 3 (some .int) f' loc' (rv E b :: as) σ Post) (hK : isK 0 b) (hR : f' + 1 ≤ f ∧ 8 + (3 + 11) + loc' ≤ loc) (hn : as.length = 2) (hroom : (st.map fun v => v.category).sum ≤ 8) (hd : decode cc pc = .ok (.invokevirtual 95, 3)) (hstk : stk = as.reverse ++ rv E b :: st) (kk : ∀ (v : Option Value) (σ' : Mem), Post v σ' → K σ' (pc + 3) lv (v.toList ++ st)) : K σ pc lv stk := g_callV X hM hK.1 (ent0 hK.2) rfl rfl wL_RL_95 wI_X7_leastLift wS_X7_leastLift wN_X7 wC_X7_leastLift ⟨by decide, by decide, by decide +kernel⟩ hR hn hroom hd hstk kk
theorem cl_RL_98 (X : Ctx l E K RL cc nL f loc) {b f' loc' : Nat} {as : List Value} {stk : List Value} {Post : Option Value → Mem → Prop} (hM : MetC l E yX8_leastLift cX8_leastLift 3 (some .int) f' loc' (rv E b :: as) σ Post) (hK : isK 7 b) (hR : f' + 1 ≤ f ∧ 8 + (3 + 11) + loc' ≤ loc) (hn : as.length = 2) (hroom : (st.map fun v => v.category).sum ≤ 8) (hd : decode cc pc = .ok (.invokevirtual 98, 3)) (hstk : stk = as.reverse ++ rv E b :: st) (kk : ∀ (v : Option Value) (σ' : Mem), Post v σ' → K σ' (pc + 3) lv (v.toList ++ st)) : K σ pc lv stk := g_callV X hM hK.1 (ent7 hK.2) rfl rfl wL_RL_98 wI_X8_leastLift wS_X8_leastLift wN_X8 wC_X8_leastLift ⟨by decide, by decide, by decide +kernel⟩ hR hn hroom hd hstk kk
theorem cl_RL_99 (X : Ctx l E K RL cc nL f loc) {b f' loc' : Nat} {as : List Value} {stk : List Value} {Post : Option Value → Mem → Prop} (hM : MetC l E yX7_type cX7_type 2 (some .int) f' loc' (rv E b :: as) σ Post) (hK : isK 0 b) (hR : f' + 1 ≤ f ∧ 8 + (2 + 11) + loc' ≤ loc) (hn : as.length = 1) (hroom : (st.map fun v => v.category).sum ≤ 8) (hd : decode cc pc = .ok (.invokevirtual 99, 3)) (hstk : stk = as.reverse ++ rv E b :: st) (kk : ∀ (v : Option Value) (σ' : Mem), Post v σ' → K σ' (pc + 3) lv (v.toList ++ st)) : K σ pc lv stk := g_callV X hM hK.1 (ent0 hK.2) rfl rfl wL_RL_99 wI_X7_type wS_X7_type wN_X7 wC_X7_type ⟨by decide, by decide, by decide +kernel⟩ hR hn hroom hd hstk kk
theorem cl_RL_102 (X : Ctx l E K RL cc nL f loc) {b f' loc' : Nat} {as : List Value} {stk : List Value} {Post : Option Value → Mem → Prop} (hM : MetC l E yX8_type cX8_type 2 (some .int) f' loc' (rv E b :: as) σ Post) (hK : isK 7 b) (hR : f' + 1 ≤ f ∧ 8 + (2 + 11) + loc' ≤ loc) (hn : as.length = 1) (hroom : (st.map fun v => v.category).sum ≤ 8) (hd : decode cc pc = .ok (.invokevirtual 102, 3)) (hstk : stk = as.reverse ++ rv E b :: st) (kk : ∀ (v : Option Value) (σ' : Mem), Post v σ' → K σ' (pc + 3) lv (v.toList ++ st)) : K σ pc lv stk := g_callV X hM hK.1 (ent7 hK.2) rfl rfl wL_RL_102 wI_X8_type wS_X8_type wN_X8 wC_X8_type ⟨by decide, by decide, by decide +kernel⟩ hR hn hroom hd hstk kk
theorem cl_RL_103 (X : Ctx l E K RL cc nL f loc) {b f' loc' : Nat} {as : List Value} {stk : List Value} {Post : Option Value → Mem → Prop} (hM : MetC l E yX7_clearText cX7_clearText 2 (some .int) f' loc' (rv E b :: as) σ Post) (hK : isK 0 b) (hR : f' + 1 ≤ f ∧ 8 + (2 + 11) + loc' ≤ loc) (hn : as.length = 0) (hroom : (st.map fun v => v.category).sum ≤ 8) (hd : decode cc pc = .ok (.invokevirtual 103, 3)) (hstk : stk = as.reverse ++ rv E b :: st) (kk : ∀ (v : Option Value) (σ' : Mem), Post v σ' → K σ' (pc + 3) lv (v.toList ++ st)) : K σ pc lv stk := g_callV X hM hK.1 (ent0 hK.2) rfl rfl wL_RL_103 wI_X7_clearText wS_X7_clearText wN_X7 wC_X7_clearText ⟨by decide, by decide, by decide +kernel⟩ hR hn hroom hd hstk kk
theorem cl_RL_106 (X : Ctx l E K RL cc nL f loc) {b f' loc' : Nat} {as : List Value} {stk : List Value} {Post : Option Value → Mem → Prop} (hM : MetC l E yX8_clearText cX8_clearText 2 (some .int) f' loc' (rv E b :: as) σ Post) (hK : isK 7 b) (hR : f' + 1 ≤ f ∧ 8 + (2 + 11) + loc' ≤ loc) (hn : as.length = 0) (hroom : (st.map fun v => v.category).sum ≤ 8) (hd : decode cc pc = .ok (.invokevirtual 106, 3)) (hstk : stk = as.reverse ++ rv E b :: st) (kk : ∀ (v : Option Value) (σ' : Mem), Post v σ' → K σ' (pc + 3) lv (v.toList ++ st)) : K σ pc lv stk := g_callV X hM hK.1 (ent7 hK.2) rfl rfl wL_RL_106 wI_X8_clearText wS_X8_clearText wN_X8 wC_X8_clearText ⟨by decide, by decide, by decide +kernel⟩ hR hn hroom hd hstk kk
theorem cl_RL_107 (X : Ctx l E K RL cc nL f loc) {b f' loc' : Nat} {as : List Value} {stk : List Value} {Post : Option Value → Mem → Prop} (hM : MetC l E yX7_fault cX7_fault 3 (some .int) f' loc' (rv E b :: as) σ Post) (hK : isK 0 b) (hR : f' + 1 ≤ f ∧ 8 + (3 + 11) + loc' ≤ loc) (hn : as.length = 1) (hroom : (st.map fun v => v.category).sum ≤ 8) (hd : decode cc pc = .ok (.invokevirtual 107, 3)) (hstk : stk = as.reverse ++ rv E b :: st) (kk : ∀ (v : Option Value) (σ' : Mem), Post v σ' → K σ' (pc + 3) lv (v.toList ++ st)) : K σ pc lv stk := g_callV X hM hK.1 (ent0 hK.2) rfl rfl wL_RL_107 wI_X7_fault wS_X7_fault wN_X7 wC_X7_fault ⟨by decide, by decide, by decide +kernel⟩ hR hn hroom hd hstk kk
theorem cl_RL_110 (X : Ctx l E K RL cc nL f loc) {b f' loc' : Nat} {as : List Value} {stk : List Value} {Post : Option Value → Mem → Prop} (hM : MetC l E yX8_fault cX8_fault 3 (some .int) f' loc' (rv E b :: as) σ Post) (hK : isK 7 b) (hR : f' + 1 ≤ f ∧ 8 + (3 + 11) + loc' ≤ loc) (hn : as.length = 1) (hroom : (st.map fun v => v.category).sum ≤ 8) (hd : decode cc pc = .ok (.invokevirtual 110, 3)) (hstk : stk = as.reverse ++ rv E b :: st) (kk : ∀ (v : Option Value) (σ' : Mem), Post v σ' → K σ' (pc + 3) lv (v.toList ++ st)) : K σ pc lv stk := g_callV X hM hK.1 (ent7 hK.2) rfl rfl wL_RL_110 wI_X8_fault wS_X8_fault wN_X8 wC_X8_fault ⟨by decide, by decide, by decide +kernel⟩ hR hn hroom hd hstk kk
theorem cl_RL_111 (X : Ctx l E K RL cc nL f loc) {b f' loc' : Nat} {as : List Value} {stk : List Value} {Post : Option Value → Mem → Prop} (hM : MetC l E yX7_carry cX7_carry 4 (some .int) f' loc' (rv E b :: as) σ Post) (hK : isK 0 b) (hR : f' + 1 ≤ f ∧ 8 + (4 + 11) + loc' ≤ loc) (hn : as.length = 0) (hroom : (st.map fun v => v.category).sum ≤ 8) (hd : decode cc pc = .ok (.invokevirtual 111, 3)) (hstk : stk = as.reverse ++ rv E b :: st) (kk : ∀ (v : Option Value) (σ' : Mem), Post v σ' → K σ' (pc + 3) lv (v.toList ++ st)) : K σ pc lv stk := g_callV X hM hK.1 (ent0 hK.2) rfl rfl wL_RL_111 wI_X7_carry wS_X7_carry wN_X7 wC_X7_carry ⟨by decide, by decide, by decide +kernel⟩ hR hn hroom hd hstk kk
theorem cl_RL_114 (X : Ctx l E K RL cc nL f loc) {b f' loc' : Nat} {as : List Value} {stk : List Value} {Post : Option Value → Mem → Prop} (hM : MetC l E yX8_carry cX8_carry 4 (some .int) f' loc' (rv E b :: as) σ Post) (hK : isK 7 b) (hR : f' + 1 ≤ f ∧ 8 + (4 + 11) + loc' ≤ loc) (hn : as.length = 0) (hroom : (st.map fun v => v.category).sum ≤ 8) (hd : decode cc pc = .ok (.invokevirtual 114, 3)) (hstk : stk = as.reverse ++ rv E b :: st) (kk : ∀ (v : Option Value) (σ' : Mem), Post v σ' → K σ' (pc + 3) lv (v.toList ++ st)) : K σ pc lv stk := g_callV X hM hK.1 (ent7 hK.2) rfl rfl wL_RL_114 wI_X8_carry wS_X8_carry wN_X8 wC_X8_carry ⟨by decide, by decide, by decide +kernel⟩ hR hn hroom hd hstk kk
set_option maxHeartbeats 1000000 in
theorem lw_c0 (X : Ctx l E K RL cL_law 4 9 344) {L : Nat} {xz : Int → Int} (Y : LawK K E L xz) {s : St} {i : Int} (h0 : 0 ≤ i) (h1 : i + 5 ≤ L) (hL : (L : Int) ≤ 2560) (hC : CRep σ s (120 * i)) (hM : MRep σ s) (hS : SInv s) (next : ∀ σ' s', CRep σ' s' (120 * i + 600) → MRep σ' s' → SInv s' → K σ' 887 [some (sv E 3), some (rv E 0), some (rv E 12), some (iv i)] []) : K σ 144 [some (sv E 3), some (rv E 0), some (rv E 12), some (iv i)] [] := by
  have hn := hM.2.1.1
  refine g_aload_n X dL_law_144 rfl ?_
  refine g_aload_n X dL_law_145 rfl ?_
  refine g_iload_n X dL_law_146 rfl ?_
  refine g_iconst X dL_law_147 ?_
  refine g_iadd X dL_law_148 ?_
  refine Y.2.1 _ _ _ _ (i + 1) (by omega) (by omega) dL_law_149 ?_
  refine g_aload_n X dL_law_150 rfl ?_
  refine g_iload_n X dL_law_151 rfl ?_
  refine g_iconst X dL_law_152 ?_
  refine g_iadd X dL_law_153 ?_
  refine Y.2.1 _ _ _ _ (i + 2) (by omega) (by omega) dL_law_154 ?_
  refine g_aload_n X dL_law_155 rfl ?_
  refine g_iload_n X dL_law_156 rfl ?_
  refine g_iconst X dL_law_157 ?_
  refine g_iadd X dL_law_158 ?_
  refine Y.2.1 _ _ _ _ (i + 3) (by omega) (by omega) dL_law_159 ?_
  refine cl_RL_13 X (c_X7_stratum l E σ s (120 * i) hC (by omega) (xz (i + 1)) (xz (i + 2)) (xz (i + 3)) (Y.2.2.2 _) (Y.2.2.2 _) (Y.2.2.2 _)) fk0 ⟨Nat.le_of_ble_eq_true rfl, Nat.le_of_ble_eq_true rfl⟩ rfl (Nat.le_of_ble_eq_true rfl) dL_law_160 rfl (fun v1 σ1 p1 => ?_)
  obtain ⟨rfl, hC1, hf1⟩ := p1
  have hM1 := hM.fr hf1
  refine g_aload_n X dL_law_163 rfl ?_
  refine g_aload_n X dL_law_164 rfl ?_
  refine g_iload_n X dL_law_165 rfl ?_
  refine g_iconst X dL_law_166 ?_
  refine g_iadd X dL_law_167 ?_
  refine Y.2.1 _ _ _ _ (i + 1) (by omega) (by omega) dL_law_168 ?_
  refine g_aload_n X dL_law_169 rfl ?_
  refine g_iload_n X dL_law_170 rfl ?_
  refine g_iconst X dL_law_171 ?_
  refine g_iadd X dL_law_172 ?_
  refine Y.2.1 _ _ _ _ (i + 2) (by omega) (by omega) dL_law_173 ?_
  refine g_aload_n X dL_law_174 rfl ?_
  refine g_iload_n X dL_law_175 rfl ?_
  refine g_iconst X dL_law_176 ?_
  refine g_iadd X dL_law_177 ?_
  refine Y.2.1 _ _ _ _ (i + 3) (by omega) (by omega) dL_law_178 ?_
  refine cl_RL_17 X (c_X8_stratum l E σ1 s (120 * i) hM1 hC.2.1 (by omega) (xz (i + 1)) (xz (i + 2)) (xz (i + 3)) (Y.2.2.2 _) (Y.2.2.2 _) (Y.2.2.2 _)) fk12 ⟨Nat.le_of_ble_eq_true rfl, Nat.le_of_ble_eq_true rfl⟩ rfl (Nat.le_of_ble_eq_true rfl) dL_law_179 rfl (fun v2 σ2 p2 => ?_)
  obtain ⟨rfl, hM2, hf2⟩ := p2
  exact g_icmpS X (tgt := 887) dL_law_182 (by decide) (next _ _ (hC1.fr hf2) hM2 (hS.stratum hC.2.1 hn _ _ _))
set_option maxHeartbeats 1000000 in
theorem lw_c1 (X : Ctx l E K RL cL_law 4 9 344) {L : Nat} {xz : Int → Int} (Y : LawK K E L xz) {s : St} {i : Int} (h0 : 0 ≤ i) (h1 : i + 5 ≤ L) (hL : (L : Int) ≤ 2560) (hC : CRep σ s (120 * i)) (hM : MRep σ s) (hS : SInv s) (next : ∀ σ' s', CRep σ' s' (120 * i + 600) → MRep σ' s' → SInv s' → K σ' 887 [some (sv E 3), some (rv E 0), some (rv E 12), some (iv i)] []) : K σ 187 [some (sv E 3), some (rv E 0), some (rv E 12), some (iv i)] [] := by
  have hn := hM.2.1.1
  refine g_aload_n X dL_law_187 rfl ?_
  refine cl_RL_18 X (c_X7_cut l E σ s (120 * i) hC (by omega) ) fk0 ⟨Nat.le_of_ble_eq_true rfl, Nat.le_of_ble_eq_true rfl⟩ rfl (Nat.le_of_ble_eq_true rfl) dL_law_188 rfl (fun v1 σ1 p1 => ?_)
  obtain ⟨rfl, hC1, hf1⟩ := p1
  have hM1 := hM.fr hf1
  refine g_aload_n X dL_law_191 rfl ?_
  refine cl_RL_22 X (c_X8_cut l E σ1 s (120 * i) hM1 hC.2.1 (by omega) ) fk12 ⟨Nat.le_of_ble_eq_true rfl, Nat.le_of_ble_eq_true rfl⟩ rfl (Nat.le_of_ble_eq_true rfl) dL_law_192 rfl (fun v2 σ2 p2 => ?_)
  obtain ⟨rfl, hM2, hf2⟩ := p2
  exact g_icmpS X (tgt := 887) dL_law_195 (by decide) (next _ _ (hC1.fr hf2) hM2 (hS.cut hC.2.1 hn))
set_option maxHeartbeats 1000000 in
theorem lw_c2 (X : Ctx l E K RL cL_law 4 9 344) {L : Nat} {xz : Int → Int} (Y : LawK K E L xz) {s : St} {i : Int} (h0 : 0 ≤ i) (h1 : i + 5 ≤ L) (hL : (L : Int) ≤ 2560) (hC : CRep σ s (120 * i)) (hM : MRep σ s) (hS : SInv s) (next : ∀ σ' s', CRep σ' s' (120 * i + 600) → MRep σ' s' → SInv s' → K σ' 887 [some (sv E 3), some (rv E 0), some (rv E 12), some (iv i)] []) : K σ 200 [some (sv E 3), some (rv E 0), some (rv E 12), some (iv i)] [] := by
  have hn := hM.2.1.1
  refine g_aload_n X dL_law_200 rfl ?_
  refine g_aload_n X dL_law_201 rfl ?_
  refine g_iload_n X dL_law_202 rfl ?_
  refine g_iconst X dL_law_203 ?_
  refine g_iadd X dL_law_204 ?_
  refine Y.2.1 _ _ _ _ (i + 1) (by omega) (by omega) dL_law_205 ?_
  refine g_aload_n X dL_law_206 rfl ?_
  refine g_iload_n X dL_law_207 rfl ?_
  refine g_iconst X dL_law_208 ?_
  refine g_iadd X dL_law_209 ?_
  refine Y.2.1 _ _ _ _ (i + 2) (by omega) (by omega) dL_law_210 ?_
  refine cl_RL_23 X (c_X7_ground l E σ s (120 * i) hC (by omega) (xz (i + 1)) (xz (i + 2)) (Y.2.2.2 _) (Y.2.2.2 _)) fk0 ⟨Nat.le_of_ble_eq_true rfl, Nat.le_of_ble_eq_true rfl⟩ rfl (Nat.le_of_ble_eq_true rfl) dL_law_211 rfl (fun v1 σ1 p1 => ?_)
  obtain ⟨rfl, rfl⟩ := p1
  have hC1 := hC.mono (N' := 120 * i + 600) (by omega) (by omega)
  have hM1 := hM
  refine g_aload_n X dL_law_214 rfl ?_
  refine g_aload_n X dL_law_215 rfl ?_
  refine g_iload_n X dL_law_216 rfl ?_
  refine g_iconst X dL_law_217 ?_
  refine g_iadd X dL_law_218 ?_
  refine Y.2.1 _ _ _ _ (i + 1) (by omega) (by omega) dL_law_219 ?_
  refine g_aload_n X dL_law_220 rfl ?_
  refine g_iload_n X dL_law_221 rfl ?_
  refine g_iconst X dL_law_222 ?_
  refine g_iadd X dL_law_223 ?_
  refine Y.2.1 _ _ _ _ (i + 2) (by omega) (by omega) dL_law_224 ?_
  refine cl_RL_27 X (c_X8_ground l E σ s (120 * i) hM1 hC.2.1 (by omega) (xz (i + 1)) (xz (i + 2)) (Y.2.2.2 _) (Y.2.2.2 _)) fk12 ⟨Nat.le_of_ble_eq_true rfl, Nat.le_of_ble_eq_true rfl⟩ rfl (Nat.le_of_ble_eq_true rfl) dL_law_225 rfl (fun v2 σ2 p2 => ?_)
  obtain ⟨rfl, rfl⟩ := p2
  exact g_icmpS X (tgt := 887) dL_law_228 (by decide) (next _ _ hC1 hM1 hS)
set_option maxHeartbeats 1000000 in
theorem lw_c3 (X : Ctx l E K RL cL_law 4 9 344) {L : Nat} {xz : Int → Int} (Y : LawK K E L xz) {s : St} {i : Int} (h0 : 0 ≤ i) (h1 : i + 5 ≤ L) (hL : (L : Int) ≤ 2560) (hC : CRep σ s (120 * i)) (hM : MRep σ s) (hS : SInv s) (next : ∀ σ' s', CRep σ' s' (120 * i + 600) → MRep σ' s' → SInv s' → K σ' 887 [some (sv E 3), some (rv E 0), some (rv E 12), some (iv i)] []) : K σ 233 [some (sv E 3), some (rv E 0), some (rv E 12), some (iv i)] [] := by
  have hn := hM.2.1.1
  refine g_aload_n X dL_law_233 rfl ?_
  refine g_aload_n X dL_law_234 rfl ?_
  refine g_iload_n X dL_law_235 rfl ?_
  refine g_iconst X dL_law_236 ?_
  refine g_iadd X dL_law_237 ?_
  refine Y.2.1 _ _ _ _ (i + 1) (by omega) (by omega) dL_law_238 ?_
  refine cl_RL_28 X (c_X7_at l E σ s (120 * i) hC (by omega) (xz (i + 1)) (Y.2.2.2 _)) fk0 ⟨Nat.le_of_ble_eq_true rfl, Nat.le_of_ble_eq_true rfl⟩ rfl (Nat.le_of_ble_eq_true rfl) dL_law_239 rfl (fun v1 σ1 p1 => ?_)
  obtain ⟨rfl, rfl⟩ := p1
  have hC1 := hC.mono (N' := 120 * i + 600) (by omega) (by omega)
  have hM1 := hM
  refine g_aload_n X dL_law_242 rfl ?_
  refine g_aload_n X dL_law_243 rfl ?_
  refine g_iload_n X dL_law_244 rfl ?_
  refine g_iconst X dL_law_245 ?_
  refine g_iadd X dL_law_246 ?_
  refine Y.2.1 _ _ _ _ (i + 1) (by omega) (by omega) dL_law_247 ?_
  refine cl_RL_32 X (c_X8_at l E σ s (120 * i) hM1 hC.2.1 (by omega) (xz (i + 1)) (Y.2.2.2 _)) fk12 ⟨Nat.le_of_ble_eq_true rfl, Nat.le_of_ble_eq_true rfl⟩ rfl (Nat.le_of_ble_eq_true rfl) dL_law_248 rfl (fun v2 σ2 p2 => ?_)
  obtain ⟨rfl, rfl⟩ := p2
  exact g_icmpS X (tgt := 887) dL_law_251 (by decide) (next _ _ hC1 hM1 hS)
set_option maxHeartbeats 1000000 in
theorem lw_c4 (X : Ctx l E K RL cL_law 4 9 344) {L : Nat} {xz : Int → Int} (Y : LawK K E L xz) {s : St} {i : Int} (h0 : 0 ≤ i) (h1 : i + 5 ≤ L) (hL : (L : Int) ≤ 2560) (hC : CRep σ s (120 * i)) (hM : MRep σ s) (hS : SInv s) (next : ∀ σ' s', CRep σ' s' (120 * i + 600) → MRep σ' s' → SInv s' → K σ' 887 [some (sv E 3), some (rv E 0), some (rv E 12), some (iv i)] []) : K σ 256 [some (sv E 3), some (rv E 0), some (rv E 12), some (iv i)] [] := by
  have hn := hM.2.1.1
  refine g_aload_n X dL_law_256 rfl ?_
  refine g_aload_n X dL_law_257 rfl ?_
  refine g_iload_n X dL_law_258 rfl ?_
  refine g_iconst X dL_law_259 ?_
  refine g_iadd X dL_law_260 ?_
  refine Y.2.1 _ _ _ _ (i + 1) (by omega) (by omega) dL_law_261 ?_
  refine g_aload_n X dL_law_262 rfl ?_
  refine g_iload_n X dL_law_263 rfl ?_
  refine g_iconst X dL_law_264 ?_
  refine g_iadd X dL_law_265 ?_
  refine Y.2.1 _ _ _ _ (i + 2) (by omega) (by omega) dL_law_266 ?_
  refine cl_RL_33 X (c_X7_set l E σ s (120 * i) hC (by omega) (xz (i + 1)) (xz (i + 2)) (Y.2.2.2 _) (Y.2.2.2 _)) fk0 ⟨Nat.le_of_ble_eq_true rfl, Nat.le_of_ble_eq_true rfl⟩ rfl (Nat.le_of_ble_eq_true rfl) dL_law_267 rfl (fun v1 σ1 p1 => ?_)
  obtain ⟨rfl, hC1, hf1⟩ := p1
  have hM1 := hM.fr hf1
  refine g_aload_n X dL_law_270 rfl ?_
  refine g_aload_n X dL_law_271 rfl ?_
  refine g_iload_n X dL_law_272 rfl ?_
  refine g_iconst X dL_law_273 ?_
  refine g_iadd X dL_law_274 ?_
  refine Y.2.1 _ _ _ _ (i + 1) (by omega) (by omega) dL_law_275 ?_
  refine g_aload_n X dL_law_276 rfl ?_
  refine g_iload_n X dL_law_277 rfl ?_
  refine g_iconst X dL_law_278 ?_
  refine g_iadd X dL_law_279 ?_
  refine Y.2.1 _ _ _ _ (i + 2) (by omega) (by omega) dL_law_280 ?_
  refine cl_RL_36 X (c_X8_set l E σ1 s (120 * i) hM1 hC.2.1 (by omega) (xz (i + 1)) (xz (i + 2)) (Y.2.2.2 _) (Y.2.2.2 _)) fk12 ⟨Nat.le_of_ble_eq_true rfl, Nat.le_of_ble_eq_true rfl⟩ rfl (Nat.le_of_ble_eq_true rfl) dL_law_281 rfl (fun v2 σ2 p2 => ?_)
  obtain ⟨rfl, hM2, hf2⟩ := p2
  exact g_icmpS X (tgt := 887) dL_law_284 (by decide) (next _ _ (hC1.fr hf2) hM2 (hS.set hC.2.1 hn _ _))
set_option maxHeartbeats 1000000 in
theorem lw_c5 (X : Ctx l E K RL cL_law 4 9 344) {L : Nat} {xz : Int → Int} (Y : LawK K E L xz) {s : St} {i : Int} (h0 : 0 ≤ i) (h1 : i + 5 ≤ L) (hL : (L : Int) ≤ 2560) (hC : CRep σ s (120 * i)) (hM : MRep σ s) (hS : SInv s) (next : ∀ σ' s', CRep σ' s' (120 * i + 600) → MRep σ' s' → SInv s' → K σ' 887 [some (sv E 3), some (rv E 0), some (rv E 12), some (iv i)] []) : K σ 289 [some (sv E 3), some (rv E 0), some (rv E 12), some (iv i)] [] := by
  have hn := hM.2.1.1
  refine g_aload_n X dL_law_289 rfl ?_
  refine g_aload_n X dL_law_290 rfl ?_
  refine g_iload_n X dL_law_291 rfl ?_
  refine g_iconst X dL_law_292 ?_
  refine g_iadd X dL_law_293 ?_
  refine Y.2.1 _ _ _ _ (i + 1) (by omega) (by omega) dL_law_294 ?_
  refine cl_RL_37 X (c_X7_count l E σ s (120 * i) hC (by omega) (xz (i + 1)) (Y.2.2.2 _)) fk0 ⟨Nat.le_of_ble_eq_true rfl, Nat.le_of_ble_eq_true rfl⟩ rfl (Nat.le_of_ble_eq_true rfl) dL_law_295 rfl (fun v1 σ1 p1 => ?_)
  obtain ⟨rfl, rfl⟩ := p1
  have hC1 := hC.mono (N' := 120 * i + 600) (by omega) (by omega)
  have hM1 := hM
  refine g_aload_n X dL_law_298 rfl ?_
  refine g_aload_n X dL_law_299 rfl ?_
  refine g_iload_n X dL_law_300 rfl ?_
  refine g_iconst X dL_law_301 ?_
  refine g_iadd X dL_law_302 ?_
  refine Y.2.1 _ _ _ _ (i + 1) (by omega) (by omega) dL_law_303 ?_
  refine cl_RL_41 X (c_X8_count l E σ s (120 * i) hM1 hC.2.1 (by omega) (xz (i + 1)) (Y.2.2.2 _)) fk12 ⟨Nat.le_of_ble_eq_true rfl, Nat.le_of_ble_eq_true rfl⟩ rfl (Nat.le_of_ble_eq_true rfl) dL_law_304 rfl (fun v2 σ2 p2 => ?_)
  obtain ⟨rfl, rfl⟩ := p2
  refine g_lcmpS X dL_law_307 ?_
  exact g_if_eq X (a := 0) (tgt := 887) dL_law_308 (by decide) ⟨by decide, by decide⟩ (fun _ => (next _ _ hC1 hM1 hS)) (fun h => absurd rfl h)
set_option maxHeartbeats 1000000 in
theorem lw_c6 (X : Ctx l E K RL cL_law 4 9 344) {L : Nat} {xz : Int → Int} (Y : LawK K E L xz) {s : St} {i : Int} (h0 : 0 ≤ i) (h1 : i + 5 ≤ L) (hL : (L : Int) ≤ 2560) (hC : CRep σ s (120 * i)) (hM : MRep σ s) (hS : SInv s) (next : ∀ σ' s', CRep σ' s' (120 * i + 600) → MRep σ' s' → SInv s' → K σ' 887 [some (sv E 3), some (rv E 0), some (rv E 12), some (iv i)] []) : K σ 313 [some (sv E 3), some (rv E 0), some (rv E 12), some (iv i)] [] := by
  have hn := hM.2.1.1
  refine g_aload_n X dL_law_313 rfl ?_
  refine g_aload_n X dL_law_314 rfl ?_
  refine g_iload_n X dL_law_315 rfl ?_
  refine g_iconst X dL_law_316 ?_
  refine g_iadd X dL_law_317 ?_
  refine Y.2.1 _ _ _ _ (i + 1) (by omega) (by omega) dL_law_318 ?_
  refine g_aload_n X dL_law_319 rfl ?_
  refine g_iload_n X dL_law_320 rfl ?_
  refine g_iconst X dL_law_321 ?_
  refine g_iadd X dL_law_322 ?_
  refine Y.2.1 _ _ _ _ (i + 2) (by omega) (by omega) dL_law_323 ?_
  refine g_aload_n X dL_law_324 rfl ?_
  refine g_iload_n X dL_law_325 rfl ?_
  refine g_iconst X dL_law_326 ?_
  refine g_iadd X dL_law_327 ?_
  refine Y.2.1 _ _ _ _ (i + 3) (by omega) (by omega) dL_law_328 ?_
  refine cl_RL_42 X (c_X7_pile l E σ s (120 * i) hC (by omega) (xz (i + 1)) (xz (i + 2)) (xz (i + 3)) (Y.2.2.2 _) (Y.2.2.2 _) (Y.2.2.2 _)) fk0 ⟨Nat.le_of_ble_eq_true rfl, Nat.le_of_ble_eq_true rfl⟩ rfl (Nat.le_of_ble_eq_true rfl) dL_law_329 rfl (fun v1 σ1 p1 => ?_)
  obtain ⟨rfl, hC1, hf1⟩ := p1
  have hM1 := hM.fr hf1
  refine g_aload_n X dL_law_332 rfl ?_
  refine g_aload_n X dL_law_333 rfl ?_
  refine g_iload_n X dL_law_334 rfl ?_
  refine g_iconst X dL_law_335 ?_
  refine g_iadd X dL_law_336 ?_
  refine Y.2.1 _ _ _ _ (i + 1) (by omega) (by omega) dL_law_337 ?_
  refine g_aload_n X dL_law_338 rfl ?_
  refine g_iload_n X dL_law_339 rfl ?_
  refine g_iconst X dL_law_340 ?_
  refine g_iadd X dL_law_341 ?_
  refine Y.2.1 _ _ _ _ (i + 2) (by omega) (by omega) dL_law_342 ?_
  refine g_aload_n X dL_law_343 rfl ?_
  refine g_iload_n X dL_law_344 rfl ?_
  refine g_iconst X dL_law_345 ?_
  refine g_iadd X dL_law_346 ?_
  refine Y.2.1 _ _ _ _ (i + 3) (by omega) (by omega) dL_law_347 ?_
  refine cl_RL_45 X (c_X8_pile l E σ1 s (120 * i) hM1 hC.2.1 (by omega) (xz (i + 1)) (xz (i + 2)) (xz (i + 3)) (Y.2.2.2 _) (Y.2.2.2 _) (Y.2.2.2 _)) fk12 ⟨Nat.le_of_ble_eq_true rfl, Nat.le_of_ble_eq_true rfl⟩ rfl (Nat.le_of_ble_eq_true rfl) dL_law_348 rfl (fun v2 σ2 p2 => ?_)
  obtain ⟨rfl, hM2, hf2⟩ := p2
  exact g_icmpS X (tgt := 887) dL_law_351 (by decide) (next _ _ (hC1.fr hf2) hM2 (hS.pile hC.2.1 hn _ _ _))
set_option maxHeartbeats 1000000 in
theorem lw_c7 (X : Ctx l E K RL cL_law 4 9 344) {L : Nat} {xz : Int → Int} (Y : LawK K E L xz) {s : St} {i : Int} (h0 : 0 ≤ i) (h1 : i + 5 ≤ L) (hL : (L : Int) ≤ 2560) (hC : CRep σ s (120 * i)) (hM : MRep σ s) (hS : SInv s) (next : ∀ σ' s', CRep σ' s' (120 * i + 600) → MRep σ' s' → SInv s' → K σ' 887 [some (sv E 3), some (rv E 0), some (rv E 12), some (iv i)] []) : K σ 356 [some (sv E 3), some (rv E 0), some (rv E 12), some (iv i)] [] := by
  have hn := hM.2.1.1
  refine g_aload_n X dL_law_356 rfl ?_
  refine g_aload_n X dL_law_357 rfl ?_
  refine g_iload_n X dL_law_358 rfl ?_
  refine g_iconst X dL_law_359 ?_
  refine g_iadd X dL_law_360 ?_
  refine Y.2.1 _ _ _ _ (i + 1) (by omega) (by omega) dL_law_361 ?_
  refine g_aload_n X dL_law_362 rfl ?_
  refine g_iload_n X dL_law_363 rfl ?_
  refine g_iconst X dL_law_364 ?_
  refine g_iadd X dL_law_365 ?_
  refine Y.2.1 _ _ _ _ (i + 2) (by omega) (by omega) dL_law_366 ?_
  refine cl_RL_46 X (c_X7_pileOf l E σ s (120 * i) hC (by omega) (xz (i + 1)) (xz (i + 2)) (Y.2.2.2 _) (Y.2.2.2 _)) fk0 ⟨Nat.le_of_ble_eq_true rfl, Nat.le_of_ble_eq_true rfl⟩ rfl (Nat.le_of_ble_eq_true rfl) dL_law_367 rfl (fun v1 σ1 p1 => ?_)
  obtain ⟨rfl, rfl⟩ := p1
  have hC1 := hC.mono (N' := 120 * i + 600) (by omega) (by omega)
  have hM1 := hM
  refine g_aload_n X dL_law_370 rfl ?_
  refine g_aload_n X dL_law_371 rfl ?_
  refine g_iload_n X dL_law_372 rfl ?_
  refine g_iconst X dL_law_373 ?_
  refine g_iadd X dL_law_374 ?_
  refine Y.2.1 _ _ _ _ (i + 1) (by omega) (by omega) dL_law_375 ?_
  refine g_aload_n X dL_law_376 rfl ?_
  refine g_iload_n X dL_law_377 rfl ?_
  refine g_iconst X dL_law_378 ?_
  refine g_iadd X dL_law_379 ?_
  refine Y.2.1 _ _ _ _ (i + 2) (by omega) (by omega) dL_law_380 ?_
  refine cl_RL_49 X (c_X8_pileOf l E σ s (120 * i) hM1 hC.2.1 (by omega) (xz (i + 1)) (xz (i + 2)) (Y.2.2.2 _) (Y.2.2.2 _)) fk12 ⟨Nat.le_of_ble_eq_true rfl, Nat.le_of_ble_eq_true rfl⟩ rfl (Nat.le_of_ble_eq_true rfl) dL_law_381 rfl (fun v2 σ2 p2 => ?_)
  obtain ⟨rfl, rfl⟩ := p2
  exact g_icmpS X (tgt := 887) dL_law_384 (by decide) (next _ _ hC1 hM1 hS)
set_option maxHeartbeats 1000000 in
theorem lw_c8 (X : Ctx l E K RL cL_law 4 9 344) {L : Nat} {xz : Int → Int} (Y : LawK K E L xz) {s : St} {i : Int} (h0 : 0 ≤ i) (h1 : i + 5 ≤ L) (hL : (L : Int) ≤ 2560) (hC : CRep σ s (120 * i)) (hM : MRep σ s) (hS : SInv s) (next : ∀ σ' s', CRep σ' s' (120 * i + 600) → MRep σ' s' → SInv s' → K σ' 887 [some (sv E 3), some (rv E 0), some (rv E 12), some (iv i)] []) : K σ 389 [some (sv E 3), some (rv E 0), some (rv E 12), some (iv i)] [] := by
  have hn := hM.2.1.1
  refine g_aload_n X dL_law_389 rfl ?_
  refine g_aload_n X dL_law_390 rfl ?_
  refine g_iload_n X dL_law_391 rfl ?_
  refine g_iconst X dL_law_392 ?_
  refine g_iadd X dL_law_393 ?_
  refine Y.2.1 _ _ _ _ (i + 1) (by omega) (by omega) dL_law_394 ?_
  refine g_aload_n X dL_law_395 rfl ?_
  refine g_iload_n X dL_law_396 rfl ?_
  refine g_iconst X dL_law_397 ?_
  refine g_iadd X dL_law_398 ?_
  refine Y.2.1 _ _ _ _ (i + 2) (by omega) (by omega) dL_law_399 ?_
  refine g_aload_n X dL_law_400 rfl ?_
  refine g_iload_n X dL_law_401 rfl ?_
  refine g_iconst X dL_law_402 ?_
  refine g_iadd X dL_law_403 ?_
  refine Y.2.1 _ _ _ _ (i + 3) (by omega) (by omega) dL_law_404 ?_
  refine cl_RL_50 X (c_X7_blow l E σ s (120 * i) hC (by omega) (xz (i + 1)) (xz (i + 2)) (xz (i + 3)) (Y.2.2.2 _) (Y.2.2.2 _) (Y.2.2.2 _)) fk0 ⟨Nat.le_of_ble_eq_true rfl, Nat.le_of_ble_eq_true rfl⟩ rfl (Nat.le_of_ble_eq_true rfl) dL_law_405 rfl (fun v1 σ1 p1 => ?_)
  obtain ⟨rfl, rfl⟩ := p1
  have hC1 := hC.mono (N' := 120 * i + 600) (by omega) (by omega)
  have hM1 := hM
  refine g_aload_n X dL_law_408 rfl ?_
  refine g_aload_n X dL_law_409 rfl ?_
  refine g_iload_n X dL_law_410 rfl ?_
  refine g_iconst X dL_law_411 ?_
  refine g_iadd X dL_law_412 ?_
  refine Y.2.1 _ _ _ _ (i + 1) (by omega) (by omega) dL_law_413 ?_
  refine g_aload_n X dL_law_414 rfl ?_
  refine g_iload_n X dL_law_415 rfl ?_
  refine g_iconst X dL_law_416 ?_
  refine g_iadd X dL_law_417 ?_
  refine Y.2.1 _ _ _ _ (i + 2) (by omega) (by omega) dL_law_418 ?_
  refine g_aload_n X dL_law_419 rfl ?_
  refine g_iload_n X dL_law_420 rfl ?_
  refine g_iconst X dL_law_421 ?_
  refine g_iadd X dL_law_422 ?_
  refine Y.2.1 _ _ _ _ (i + 3) (by omega) (by omega) dL_law_423 ?_
  refine cl_RL_53 X (c_X8_blow l E σ s (120 * i) hM1 hC.2.1 (by omega) (xz (i + 1)) (xz (i + 2)) (xz (i + 3)) (Y.2.2.2 _) (Y.2.2.2 _) (Y.2.2.2 _)) fk12 ⟨Nat.le_of_ble_eq_true rfl, Nat.le_of_ble_eq_true rfl⟩ rfl (Nat.le_of_ble_eq_true rfl) dL_law_424 rfl (fun v2 σ2 p2 => ?_)
  obtain ⟨rfl, rfl⟩ := p2
  exact g_icmpS X (tgt := 887) dL_law_427 (by decide) (next _ _ hC1 hM1 hS)
set_option maxHeartbeats 1000000 in
theorem lw_c9 (X : Ctx l E K RL cL_law 4 9 344) {L : Nat} {xz : Int → Int} (Y : LawK K E L xz) {s : St} {i : Int} (h0 : 0 ≤ i) (h1 : i + 5 ≤ L) (hL : (L : Int) ≤ 2560) (hC : CRep σ s (120 * i)) (hM : MRep σ s) (hS : SInv s) (next : ∀ σ' s', CRep σ' s' (120 * i + 600) → MRep σ' s' → SInv s' → K σ' 887 [some (sv E 3), some (rv E 0), some (rv E 12), some (iv i)] []) : K σ 432 [some (sv E 3), some (rv E 0), some (rv E 12), some (iv i)] [] := by
  have hn := hM.2.1.1
  refine g_aload_n X dL_law_432 rfl ?_
  refine g_aload_n X dL_law_433 rfl ?_
  refine g_iload_n X dL_law_434 rfl ?_
  refine g_iconst X dL_law_435 ?_
  refine g_iadd X dL_law_436 ?_
  refine Y.2.1 _ _ _ _ (i + 1) (by omega) (by omega) dL_law_437 ?_
  refine g_aload_n X dL_law_438 rfl ?_
  refine g_iload_n X dL_law_439 rfl ?_
  refine g_iconst X dL_law_440 ?_
  refine g_iadd X dL_law_441 ?_
  refine Y.2.1 _ _ _ _ (i + 2) (by omega) (by omega) dL_law_442 ?_
  refine cl_RL_54 X (c_X7_strike l E σ s (120 * i) hC (by omega) (xz (i + 1)) (xz (i + 2)) (Y.2.2.2 _) (Y.2.2.2 _)) fk0 ⟨Nat.le_of_ble_eq_true rfl, Nat.le_of_ble_eq_true rfl⟩ rfl (Nat.le_of_ble_eq_true rfl) dL_law_443 rfl (fun v1 σ1 p1 => ?_)
  obtain ⟨rfl, hC1, hf1⟩ := p1
  have hM1 := hM.fr hf1
  refine g_aload_n X dL_law_446 rfl ?_
  refine g_aload_n X dL_law_447 rfl ?_
  refine g_iload_n X dL_law_448 rfl ?_
  refine g_iconst X dL_law_449 ?_
  refine g_iadd X dL_law_450 ?_
  refine Y.2.1 _ _ _ _ (i + 1) (by omega) (by omega) dL_law_451 ?_
  refine g_aload_n X dL_law_452 rfl ?_
  refine g_iload_n X dL_law_453 rfl ?_
  refine g_iconst X dL_law_454 ?_
  refine g_iadd X dL_law_455 ?_
  refine Y.2.1 _ _ _ _ (i + 2) (by omega) (by omega) dL_law_456 ?_
  refine cl_RL_57 X (c_X8_strike l E σ1 s (120 * i) hM1 hC.2.1 (by omega) (xz (i + 1)) (xz (i + 2)) (Y.2.2.2 _) (Y.2.2.2 _)) fk12 ⟨Nat.le_of_ble_eq_true rfl, Nat.le_of_ble_eq_true rfl⟩ rfl (Nat.le_of_ble_eq_true rfl) dL_law_457 rfl (fun v2 σ2 p2 => ?_)
  obtain ⟨rfl, hM2, hf2⟩ := p2
  exact g_icmpS X (tgt := 887) dL_law_460 (by decide) (next _ _ (hC1.fr hf2) hM2 (hS.strike hC.2.1 (by omega) hn _ _))
set_option maxHeartbeats 1000000 in
theorem lw_c10 (X : Ctx l E K RL cL_law 4 9 344) {L : Nat} {xz : Int → Int} (Y : LawK K E L xz) {s : St} {i : Int} (h0 : 0 ≤ i) (h1 : i + 5 ≤ L) (hL : (L : Int) ≤ 2560) (hC : CRep σ s (120 * i)) (hM : MRep σ s) (hS : SInv s) (next : ∀ σ' s', CRep σ' s' (120 * i + 600) → MRep σ' s' → SInv s' → K σ' 887 [some (sv E 3), some (rv E 0), some (rv E 12), some (iv i)] []) : K σ 465 [some (sv E 3), some (rv E 0), some (rv E 12), some (iv i)] [] := by
  have hn := hM.2.1.1
  refine g_aload_n X dL_law_465 rfl ?_
  refine g_aload_n X dL_law_466 rfl ?_
  refine g_iload_n X dL_law_467 rfl ?_
  refine g_iconst X dL_law_468 ?_
  refine g_iadd X dL_law_469 ?_
  refine Y.2.1 _ _ _ _ (i + 1) (by omega) (by omega) dL_law_470 ?_
  refine g_aload_n X dL_law_471 rfl ?_
  refine g_iload_n X dL_law_472 rfl ?_
  refine g_iconst X dL_law_473 ?_
  refine g_iadd X dL_law_474 ?_
  refine Y.2.1 _ _ _ _ (i + 2) (by omega) (by omega) dL_law_475 ?_
  refine g_aload_n X dL_law_476 rfl ?_
  refine g_iload_n X dL_law_477 rfl ?_
  refine g_iconst X dL_law_478 ?_
  refine g_iadd X dL_law_479 ?_
  refine Y.2.1 _ _ _ _ (i + 3) (by omega) (by omega) dL_law_480 ?_
  refine g_aload_n X dL_law_481 rfl ?_
  refine g_iload_n X dL_law_482 rfl ?_
  refine g_iconst X dL_law_483 ?_
  refine g_iadd X dL_law_484 ?_
  refine Y.2.1 _ _ _ _ (i + 4) (by omega) (by omega) dL_law_485 ?_
  refine cl_RL_58 X (c_X7_drive l E σ s (120 * i) hC (by omega) (xz (i + 1)) (xz (i + 2)) (xz (i + 3)) (xz (i + 4)) (Y.2.2.2 _) (Y.2.2.2 _) (Y.2.2.2 _) (Y.2.2.2 _)) fk0 ⟨Nat.le_of_ble_eq_true rfl, Nat.le_of_ble_eq_true rfl⟩ rfl (Nat.le_of_ble_eq_true rfl) dL_law_486 rfl (fun v1 σ1 p1 => ?_)
  obtain ⟨rfl, hC1, hf1⟩ := p1
  have hM1 := hM.fr hf1
  refine g_aload_n X dL_law_489 rfl ?_
  refine g_aload_n X dL_law_490 rfl ?_
  refine g_iload_n X dL_law_491 rfl ?_
  refine g_iconst X dL_law_492 ?_
  refine g_iadd X dL_law_493 ?_
  refine Y.2.1 _ _ _ _ (i + 1) (by omega) (by omega) dL_law_494 ?_
  refine g_aload_n X dL_law_495 rfl ?_
  refine g_iload_n X dL_law_496 rfl ?_
  refine g_iconst X dL_law_497 ?_
  refine g_iadd X dL_law_498 ?_
  refine Y.2.1 _ _ _ _ (i + 2) (by omega) (by omega) dL_law_499 ?_
  refine g_aload_n X dL_law_500 rfl ?_
  refine g_iload_n X dL_law_501 rfl ?_
  refine g_iconst X dL_law_502 ?_
  refine g_iadd X dL_law_503 ?_
  refine Y.2.1 _ _ _ _ (i + 3) (by omega) (by omega) dL_law_504 ?_
  refine g_aload_n X dL_law_505 rfl ?_
  refine g_iload_n X dL_law_506 rfl ?_
  refine g_iconst X dL_law_507 ?_
  refine g_iadd X dL_law_508 ?_
  refine Y.2.1 _ _ _ _ (i + 4) (by omega) (by omega) dL_law_509 ?_
  refine cl_RL_62 X (c_X8_drive l E σ1 s (120 * i) hM1 hC.2.1 (by omega) (xz (i + 1)) (xz (i + 2)) (xz (i + 3)) (xz (i + 4)) (Y.2.2.2 _) (Y.2.2.2 _) (Y.2.2.2 _) (Y.2.2.2 _)) fk12 ⟨Nat.le_of_ble_eq_true rfl, Nat.le_of_ble_eq_true rfl⟩ rfl (Nat.le_of_ble_eq_true rfl) dL_law_510 rfl (fun v2 σ2 p2 => ?_)
  obtain ⟨rfl, hM2, hf2⟩ := p2
  exact g_icmpS X (tgt := 887) dL_law_513 (by decide) (next _ _ (hC1.fr hf2) hM2 (hS.drive hC.2.1 (by omega) hn _ _ _ _))
set_option maxHeartbeats 1000000 in
theorem lw_c11 (X : Ctx l E K RL cL_law 4 9 344) {L : Nat} {xz : Int → Int} (Y : LawK K E L xz) {s : St} {i : Int} (h0 : 0 ≤ i) (h1 : i + 5 ≤ L) (hL : (L : Int) ≤ 2560) (hC : CRep σ s (120 * i)) (hM : MRep σ s) (hS : SInv s) (next : ∀ σ' s', CRep σ' s' (120 * i + 600) → MRep σ' s' → SInv s' → K σ' 887 [some (sv E 3), some (rv E 0), some (rv E 12), some (iv i)] []) : K σ 518 [some (sv E 3), some (rv E 0), some (rv E 12), some (iv i)] [] := by
  have hn := hM.2.1.1
  refine g_aload_n X dL_law_518 rfl ?_
  refine g_aload_n X dL_law_519 rfl ?_
  refine g_iload_n X dL_law_520 rfl ?_
  refine g_iconst X dL_law_521 ?_
  refine g_iadd X dL_law_522 ?_
  refine Y.2.1 _ _ _ _ (i + 1) (by omega) (by omega) dL_law_523 ?_
  refine g_aload_n X dL_law_524 rfl ?_
  refine g_iload_n X dL_law_525 rfl ?_
  refine g_iconst X dL_law_526 ?_
  refine g_iadd X dL_law_527 ?_
  refine Y.2.1 _ _ _ _ (i + 2) (by omega) (by omega) dL_law_528 ?_
  refine cl_RL_63 X (c_X7_would l E σ s (120 * i) hC (by omega) (xz (i + 1)) (xz (i + 2)) (Y.2.2.2 _) (Y.2.2.2 _)) fk0 ⟨Nat.le_of_ble_eq_true rfl, Nat.le_of_ble_eq_true rfl⟩ rfl (Nat.le_of_ble_eq_true rfl) dL_law_529 rfl (fun v1 σ1 p1 => ?_)
  obtain ⟨rfl, rfl⟩ := p1
  have hC1 := hC.mono (N' := 120 * i + 600) (by omega) (by omega)
  have hM1 := hM
  refine g_aload_n X dL_law_532 rfl ?_
  refine g_aload_n X dL_law_533 rfl ?_
  refine g_iload_n X dL_law_534 rfl ?_
  refine g_iconst X dL_law_535 ?_
  refine g_iadd X dL_law_536 ?_
  refine Y.2.1 _ _ _ _ (i + 1) (by omega) (by omega) dL_law_537 ?_
  refine g_aload_n X dL_law_538 rfl ?_
  refine g_iload_n X dL_law_539 rfl ?_
  refine g_iconst X dL_law_540 ?_
  refine g_iadd X dL_law_541 ?_
  refine Y.2.1 _ _ _ _ (i + 2) (by omega) (by omega) dL_law_542 ?_
  refine cl_RL_66 X (c_X8_would l E σ s (120 * i) hM1 hC.2.1 (by omega) (xz (i + 1)) (xz (i + 2)) (Y.2.2.2 _) (Y.2.2.2 _)) fk12 ⟨Nat.le_of_ble_eq_true rfl, Nat.le_of_ble_eq_true rfl⟩ rfl (Nat.le_of_ble_eq_true rfl) dL_law_543 rfl (fun v2 σ2 p2 => ?_)
  obtain ⟨rfl, rfl⟩ := p2
  exact g_icmpS X (tgt := 887) dL_law_546 (by decide) (next _ _ hC1 hM1 hS)
set_option maxHeartbeats 1000000 in
theorem lw_c12 (X : Ctx l E K RL cL_law 4 9 344) {L : Nat} {xz : Int → Int} (Y : LawK K E L xz) {s : St} {i : Int} (h0 : 0 ≤ i) (h1 : i + 5 ≤ L) (hL : (L : Int) ≤ 2560) (hC : CRep σ s (120 * i)) (hM : MRep σ s) (hS : SInv s) (next : ∀ σ' s', CRep σ' s' (120 * i + 600) → MRep σ' s' → SInv s' → K σ' 887 [some (sv E 3), some (rv E 0), some (rv E 12), some (iv i)] []) : K σ 551 [some (sv E 3), some (rv E 0), some (rv E 12), some (iv i)] [] := by
  have hn := hM.2.1.1
  refine g_aload_n X dL_law_551 rfl ?_
  refine g_aload_n X dL_law_552 rfl ?_
  refine g_iload_n X dL_law_553 rfl ?_
  refine g_iconst X dL_law_554 ?_
  refine g_iadd X dL_law_555 ?_
  refine Y.2.1 _ _ _ _ (i + 1) (by omega) (by omega) dL_law_556 ?_
  refine g_aload_n X dL_law_557 rfl ?_
  refine g_iload_n X dL_law_558 rfl ?_
  refine g_iconst X dL_law_559 ?_
  refine g_iadd X dL_law_560 ?_
  refine Y.2.1 _ _ _ _ (i + 2) (by omega) (by omega) dL_law_561 ?_
  refine cl_RL_67 X (c_X7_fallFor l E σ s (120 * i) hC (by omega) (xz (i + 1)) (xz (i + 2)) (Y.2.2.2 _) (Y.2.2.2 _)) fk0 ⟨Nat.le_of_ble_eq_true rfl, Nat.le_of_ble_eq_true rfl⟩ rfl (Nat.le_of_ble_eq_true rfl) dL_law_562 rfl (fun v1 σ1 p1 => ?_)
  obtain ⟨rfl, rfl⟩ := p1
  have hC1 := hC.mono (N' := 120 * i + 600) (by omega) (by omega)
  have hM1 := hM
  refine g_aload_n X dL_law_565 rfl ?_
  refine g_aload_n X dL_law_566 rfl ?_
  refine g_iload_n X dL_law_567 rfl ?_
  refine g_iconst X dL_law_568 ?_
  refine g_iadd X dL_law_569 ?_
  refine Y.2.1 _ _ _ _ (i + 1) (by omega) (by omega) dL_law_570 ?_
  refine g_aload_n X dL_law_571 rfl ?_
  refine g_iload_n X dL_law_572 rfl ?_
  refine g_iconst X dL_law_573 ?_
  refine g_iadd X dL_law_574 ?_
  refine Y.2.1 _ _ _ _ (i + 2) (by omega) (by omega) dL_law_575 ?_
  refine cl_RL_70 X (c_X8_fallFor l E σ s (120 * i) hM1 hC.2.1 (by omega) (xz (i + 1)) (xz (i + 2)) (Y.2.2.2 _) (Y.2.2.2 _)) fk12 ⟨Nat.le_of_ble_eq_true rfl, Nat.le_of_ble_eq_true rfl⟩ rfl (Nat.le_of_ble_eq_true rfl) dL_law_576 rfl (fun v2 σ2 p2 => ?_)
  obtain ⟨rfl, rfl⟩ := p2
  exact g_icmpS X (tgt := 887) dL_law_579 (by decide) (next _ _ hC1 hM1 hS)
set_option maxHeartbeats 1000000 in
theorem lw_c13 (X : Ctx l E K RL cL_law 4 9 344) {L : Nat} {xz : Int → Int} (Y : LawK K E L xz) {s : St} {i : Int} (h0 : 0 ≤ i) (h1 : i + 5 ≤ L) (hL : (L : Int) ≤ 2560) (hC : CRep σ s (120 * i)) (hM : MRep σ s) (hS : SInv s) (next : ∀ σ' s', CRep σ' s' (120 * i + 600) → MRep σ' s' → SInv s' → K σ' 887 [some (sv E 3), some (rv E 0), some (rv E 12), some (iv i)] []) : K σ 584 [some (sv E 3), some (rv E 0), some (rv E 12), some (iv i)] [] := by
  have hn := hM.2.1.1
  refine g_aload_n X dL_law_584 rfl ?_
  refine g_aload_n X dL_law_585 rfl ?_
  refine g_iload_n X dL_law_586 rfl ?_
  refine g_iconst X dL_law_587 ?_
  refine g_iadd X dL_law_588 ?_
  refine Y.2.1 _ _ _ _ (i + 1) (by omega) (by omega) dL_law_589 ?_
  refine g_aload_n X dL_law_590 rfl ?_
  refine g_iload_n X dL_law_591 rfl ?_
  refine g_iconst X dL_law_592 ?_
  refine g_iadd X dL_law_593 ?_
  refine Y.2.1 _ _ _ _ (i + 2) (by omega) (by omega) dL_law_594 ?_
  refine g_aload_n X dL_law_595 rfl ?_
  refine g_iload_n X dL_law_596 rfl ?_
  refine g_iconst X dL_law_597 ?_
  refine g_iadd X dL_law_598 ?_
  refine Y.2.1 _ _ _ _ (i + 3) (by omega) (by omega) dL_law_599 ?_
  refine cl_RL_71 X (c_X7_blowsTo l E σ s (120 * i) hC (by omega) (xz (i + 1)) (xz (i + 2)) (xz (i + 3)) (Y.2.2.2 _) (Y.2.2.2 _) (Y.2.2.2 _)) fk0 ⟨Nat.le_of_ble_eq_true rfl, Nat.le_of_ble_eq_true rfl⟩ rfl (Nat.le_of_ble_eq_true rfl) dL_law_600 rfl (fun v1 σ1 p1 => ?_)
  obtain ⟨rfl, rfl⟩ := p1
  have hC1 := hC.mono (N' := 120 * i + 600) (by omega) (by omega)
  have hM1 := hM
  refine g_aload_n X dL_law_603 rfl ?_
  refine g_aload_n X dL_law_604 rfl ?_
  refine g_iload_n X dL_law_605 rfl ?_
  refine g_iconst X dL_law_606 ?_
  refine g_iadd X dL_law_607 ?_
  refine Y.2.1 _ _ _ _ (i + 1) (by omega) (by omega) dL_law_608 ?_
  refine g_aload_n X dL_law_609 rfl ?_
  refine g_iload_n X dL_law_610 rfl ?_
  refine g_iconst X dL_law_611 ?_
  refine g_iadd X dL_law_612 ?_
  refine Y.2.1 _ _ _ _ (i + 2) (by omega) (by omega) dL_law_613 ?_
  refine g_aload_n X dL_law_614 rfl ?_
  refine g_iload_n X dL_law_615 rfl ?_
  refine g_iconst X dL_law_616 ?_
  refine g_iadd X dL_law_617 ?_
  refine Y.2.1 _ _ _ _ (i + 3) (by omega) (by omega) dL_law_618 ?_
  refine cl_RL_74 X (c_X8_blowsTo l E σ s (120 * i) hM1 hC.2.1 (by omega) (xz (i + 1)) (xz (i + 2)) (xz (i + 3)) (Y.2.2.2 _) (Y.2.2.2 _) (Y.2.2.2 _)) fk12 ⟨Nat.le_of_ble_eq_true rfl, Nat.le_of_ble_eq_true rfl⟩ rfl (Nat.le_of_ble_eq_true rfl) dL_law_619 rfl (fun v2 σ2 p2 => ?_)
  obtain ⟨rfl, rfl⟩ := p2
  exact g_icmpS X (tgt := 887) dL_law_622 (by decide) (next _ _ hC1 hM1 hS)
set_option maxHeartbeats 1000000 in
theorem lw_c14 (X : Ctx l E K RL cL_law 4 9 344) {L : Nat} {xz : Int → Int} (Y : LawK K E L xz) {s : St} {i : Int} (h0 : 0 ≤ i) (h1 : i + 5 ≤ L) (hL : (L : Int) ≤ 2560) (hC : CRep σ s (120 * i)) (hM : MRep σ s) (hS : SInv s) (next : ∀ σ' s', CRep σ' s' (120 * i + 600) → MRep σ' s' → SInv s' → K σ' 887 [some (sv E 3), some (rv E 0), some (rv E 12), some (iv i)] []) : K σ 627 [some (sv E 3), some (rv E 0), some (rv E 12), some (iv i)] [] := by
  have hn := hM.2.1.1
  refine g_aload_n X dL_law_627 rfl ?_
  refine g_aload_n X dL_law_628 rfl ?_
  refine g_iload_n X dL_law_629 rfl ?_
  refine g_iconst X dL_law_630 ?_
  refine g_iadd X dL_law_631 ?_
  refine Y.2.1 _ _ _ _ (i + 1) (by omega) (by omega) dL_law_632 ?_
  refine g_aload_n X dL_law_633 rfl ?_
  refine g_iload_n X dL_law_634 rfl ?_
  refine g_iconst X dL_law_635 ?_
  refine g_iadd X dL_law_636 ?_
  refine Y.2.1 _ _ _ _ (i + 2) (by omega) (by omega) dL_law_637 ?_
  refine cl_RL_75 X (c_X7_test l E σ s (120 * i) hC (by omega) (xz (i + 1)) (xz (i + 2)) (Y.2.2.2 _) (Y.2.2.2 _)) fk0 ⟨Nat.le_of_ble_eq_true rfl, Nat.le_of_ble_eq_true rfl⟩ rfl (Nat.le_of_ble_eq_true rfl) dL_law_638 rfl (fun v1 σ1 p1 => ?_)
  obtain ⟨rfl, hC1, hf1⟩ := p1
  have hM1 := hM.fr hf1
  refine g_aload_n X dL_law_641 rfl ?_
  refine g_aload_n X dL_law_642 rfl ?_
  refine g_iload_n X dL_law_643 rfl ?_
  refine g_iconst X dL_law_644 ?_
  refine g_iadd X dL_law_645 ?_
  refine Y.2.1 _ _ _ _ (i + 1) (by omega) (by omega) dL_law_646 ?_
  refine g_aload_n X dL_law_647 rfl ?_
  refine g_iload_n X dL_law_648 rfl ?_
  refine g_iconst X dL_law_649 ?_
  refine g_iadd X dL_law_650 ?_
  refine Y.2.1 _ _ _ _ (i + 2) (by omega) (by omega) dL_law_651 ?_
  refine cl_RL_78 X (c_X8_test l E σ1 s (120 * i) hM1 hC.2.1 (by omega) (xz (i + 1)) (xz (i + 2)) (Y.2.2.2 _) (Y.2.2.2 _)) fk12 ⟨Nat.le_of_ble_eq_true rfl, Nat.le_of_ble_eq_true rfl⟩ rfl (Nat.le_of_ble_eq_true rfl) dL_law_652 rfl (fun v2 σ2 p2 => ?_)
  obtain ⟨rfl, hM2, hf2⟩ := p2
  exact g_icmpS X (tgt := 887) dL_law_655 (by decide) (next _ _ (hC1.fr hf2) hM2 (hS.test hC.2.1 hn _ _))
set_option maxHeartbeats 1000000 in
theorem lw_c15 (X : Ctx l E K RL cL_law 4 9 344) {L : Nat} {xz : Int → Int} (Y : LawK K E L xz) {s : St} {i : Int} (h0 : 0 ≤ i) (h1 : i + 5 ≤ L) (hL : (L : Int) ≤ 2560) (hC : CRep σ s (120 * i)) (hM : MRep σ s) (hS : SInv s) (next : ∀ σ' s', CRep σ' s' (120 * i + 600) → MRep σ' s' → SInv s' → K σ' 887 [some (sv E 3), some (rv E 0), some (rv E 12), some (iv i)] []) : K σ 660 [some (sv E 3), some (rv E 0), some (rv E 12), some (iv i)] [] := by
  have hn := hM.2.1.1
  refine g_aload_n X dL_law_660 rfl ?_
  refine cl_RL_79 X (c_X7_undo l E σ s (120 * i) hC (by omega) ) fk0 ⟨Nat.le_of_ble_eq_true rfl, Nat.le_of_ble_eq_true rfl⟩ rfl (Nat.le_of_ble_eq_true rfl) dL_law_661 rfl (fun v1 σ1 p1 => ?_)
  obtain ⟨rfl, hC1, hf1⟩ := p1
  have hM1 := hM.fr hf1
  refine g_aload_n X dL_law_664 rfl ?_
  refine cl_RL_82 X (c_X8_undo l E σ1 s (120 * i) hM1 hC.2.1 (by omega) ) fk12 ⟨Nat.le_of_ble_eq_true rfl, Nat.le_of_ble_eq_true rfl⟩ rfl (Nat.le_of_ble_eq_true rfl) dL_law_665 rfl (fun v2 σ2 p2 => ?_)
  obtain ⟨rfl, hM2, hf2⟩ := p2
  exact g_icmpS X (tgt := 887) dL_law_668 (by decide) (next _ _ (hC1.fr hf2) hM2 (hS.undo))
set_option maxHeartbeats 1000000 in
theorem lw_c16 (X : Ctx l E K RL cL_law 4 9 344) {L : Nat} {xz : Int → Int} (Y : LawK K E L xz) {s : St} {i : Int} (h0 : 0 ≤ i) (h1 : i + 5 ≤ L) (hL : (L : Int) ≤ 2560) (hC : CRep σ s (120 * i)) (hM : MRep σ s) (hS : SInv s) (next : ∀ σ' s', CRep σ' s' (120 * i + 600) → MRep σ' s' → SInv s' → K σ' 887 [some (sv E 3), some (rv E 0), some (rv E 12), some (iv i)] []) : K σ 673 [some (sv E 3), some (rv E 0), some (rv E 12), some (iv i)] [] := by
  have hn := hM.2.1.1
  have hKI : ∀ q : Nat, (q : Int) < s.1 19 → ∀ j : Nat, (j : Int) < s.1 (24 + 91 * q + 10) → 0 ≤ setsR s.1 q j ∧ setsR s.1 q j ≤ 500 := fun q hq j hj => hS.1 q hq j hj
  refine g_aload_n X dL_law_673 rfl ?_
  refine g_aload_n X dL_law_674 rfl ?_
  refine g_iload_n X dL_law_675 rfl ?_
  refine g_iconst X dL_law_676 ?_
  refine g_iadd X dL_law_677 ?_
  refine Y.2.1 _ _ _ _ (i + 1) (by omega) (by omega) dL_law_678 ?_
  refine cl_RL_83 X (c_X7_runs l E σ s (120 * i) hC (by omega) hKI (xz (i + 1)) (Y.2.2.2 _)) fk0 ⟨Nat.le_of_ble_eq_true rfl, Nat.le_of_ble_eq_true rfl⟩ rfl (Nat.le_of_ble_eq_true rfl) dL_law_679 rfl (fun v1 σ1 p1 => ?_)
  obtain ⟨rfl, hC1, hf1⟩ := p1
  have hM1 := hM.fr hf1
  refine g_aload_n X dL_law_682 rfl ?_
  refine g_aload_n X dL_law_683 rfl ?_
  refine g_iload_n X dL_law_684 rfl ?_
  refine g_iconst X dL_law_685 ?_
  refine g_iadd X dL_law_686 ?_
  refine Y.2.1 _ _ _ _ (i + 1) (by omega) (by omega) dL_law_687 ?_
  refine cl_RL_86 X (c_X8_runs l E σ1 s (120 * i) hM1 hC.2.1 (by omega) hKI (xz (i + 1)) (Y.2.2.2 _)) fk12 ⟨Nat.le_of_ble_eq_true rfl, Nat.le_of_ble_eq_true rfl⟩ rfl (Nat.le_of_ble_eq_true rfl) dL_law_688 rfl (fun v2 σ2 p2 => ?_)
  obtain ⟨rfl, hM2, hf2⟩ := p2
  exact g_icmpS X (tgt := 887) dL_law_691 (by decide) (next _ _ (hC1.fr hf2) hM2 hS)
set_option maxHeartbeats 1000000 in
theorem lw_c17 (X : Ctx l E K RL cL_law 4 9 344) {L : Nat} {xz : Int → Int} (Y : LawK K E L xz) {s : St} {i : Int} (h0 : 0 ≤ i) (h1 : i + 5 ≤ L) (hL : (L : Int) ≤ 2560) (hC : CRep σ s (120 * i)) (hM : MRep σ s) (hS : SInv s) (next : ∀ σ' s', CRep σ' s' (120 * i + 600) → MRep σ' s' → SInv s' → K σ' 887 [some (sv E 3), some (rv E 0), some (rv E 12), some (iv i)] []) : K σ 696 [some (sv E 3), some (rv E 0), some (rv E 12), some (iv i)] [] := by
  have hn := hM.2.1.1
  have hKI : ∀ q : Nat, (q : Int) < s.1 19 → ∀ j : Nat, (j : Int) < s.1 (24 + 91 * q + 10) → 0 ≤ setsR s.1 q j ∧ setsR s.1 q j ≤ 500 := fun q hq j hj => hS.1 q hq j hj
  refine g_aload_n X dL_law_696 rfl ?_
  refine g_aload_n X dL_law_697 rfl ?_
  refine g_iload_n X dL_law_698 rfl ?_
  refine g_iconst X dL_law_699 ?_
  refine g_iadd X dL_law_700 ?_
  refine Y.2.1 _ _ _ _ (i + 1) (by omega) (by omega) dL_law_701 ?_
  refine g_aload_n X dL_law_702 rfl ?_
  refine g_iload_n X dL_law_703 rfl ?_
  refine g_iconst X dL_law_704 ?_
  refine g_iadd X dL_law_705 ?_
  refine Y.2.1 _ _ _ _ (i + 2) (by omega) (by omega) dL_law_706 ?_
  refine g_aload_n X dL_law_707 rfl ?_
  refine g_iload_n X dL_law_708 rfl ?_
  refine g_iconst X dL_law_709 ?_
  refine g_iadd X dL_law_710 ?_
  refine Y.2.1 _ _ _ _ (i + 3) (by omega) (by omega) dL_law_711 ?_
  refine cl_RL_87 X (c_X7_run l E σ s (120 * i) hC (by omega) hKI (xz (i + 1)) (xz (i + 2)) (xz (i + 3)) (Y.2.2.2 _) (Y.2.2.2 _) (Y.2.2.2 _)) fk0 ⟨Nat.le_of_ble_eq_true rfl, Nat.le_of_ble_eq_true rfl⟩ rfl (Nat.le_of_ble_eq_true rfl) dL_law_712 rfl (fun v1 σ1 p1 => ?_)
  obtain ⟨rfl, hC1, hf1⟩ := p1
  have hM1 := hM.fr hf1
  refine g_aload_n X dL_law_715 rfl ?_
  refine g_aload_n X dL_law_716 rfl ?_
  refine g_iload_n X dL_law_717 rfl ?_
  refine g_iconst X dL_law_718 ?_
  refine g_iadd X dL_law_719 ?_
  refine Y.2.1 _ _ _ _ (i + 1) (by omega) (by omega) dL_law_720 ?_
  refine g_aload_n X dL_law_721 rfl ?_
  refine g_iload_n X dL_law_722 rfl ?_
  refine g_iconst X dL_law_723 ?_
  refine g_iadd X dL_law_724 ?_
  refine Y.2.1 _ _ _ _ (i + 2) (by omega) (by omega) dL_law_725 ?_
  refine g_aload_n X dL_law_726 rfl ?_
  refine g_iload_n X dL_law_727 rfl ?_
  refine g_iconst X dL_law_728 ?_
  refine g_iadd X dL_law_729 ?_
  refine Y.2.1 _ _ _ _ (i + 3) (by omega) (by omega) dL_law_730 ?_
  refine cl_RL_90 X (c_X8_run l E σ1 s (120 * i) hM1 hC.2.1 (by omega) hKI (xz (i + 1)) (xz (i + 2)) (xz (i + 3)) (Y.2.2.2 _) (Y.2.2.2 _) (Y.2.2.2 _)) fk12 ⟨Nat.le_of_ble_eq_true rfl, Nat.le_of_ble_eq_true rfl⟩ rfl (Nat.le_of_ble_eq_true rfl) dL_law_731 rfl (fun v2 σ2 p2 => ?_)
  obtain ⟨rfl, hM2, hf2⟩ := p2
  exact g_icmpS X (tgt := 887) dL_law_734 (by decide) (next _ _ (hC1.fr hf2) hM2 hS)
set_option maxHeartbeats 1000000 in
theorem lw_c18 (X : Ctx l E K RL cL_law 4 9 344) {L : Nat} {xz : Int → Int} (Y : LawK K E L xz) {s : St} {i : Int} (h0 : 0 ≤ i) (h1 : i + 5 ≤ L) (hL : (L : Int) ≤ 2560) (hC : CRep σ s (120 * i)) (hM : MRep σ s) (hS : SInv s) (next : ∀ σ' s', CRep σ' s' (120 * i + 600) → MRep σ' s' → SInv s' → K σ' 887 [some (sv E 3), some (rv E 0), some (rv E 12), some (iv i)] []) : K σ 739 [some (sv E 3), some (rv E 0), some (rv E 12), some (iv i)] [] := by
  have hn := hM.2.1.1
  refine g_aload_n X dL_law_739 rfl ?_
  refine g_aload_n X dL_law_740 rfl ?_
  refine g_iload_n X dL_law_741 rfl ?_
  refine g_iconst X dL_law_742 ?_
  refine g_iadd X dL_law_743 ?_
  refine Y.2.1 _ _ _ _ (i + 1) (by omega) (by omega) dL_law_744 ?_
  refine g_aload_n X dL_law_745 rfl ?_
  refine g_iload_n X dL_law_746 rfl ?_
  refine g_iconst X dL_law_747 ?_
  refine g_iadd X dL_law_748 ?_
  refine Y.2.1 _ _ _ _ (i + 2) (by omega) (by omega) dL_law_749 ?_
  refine g_aload_n X dL_law_750 rfl ?_
  refine g_iload_n X dL_law_751 rfl ?_
  refine g_iconst X dL_law_752 ?_
  refine g_iadd X dL_law_753 ?_
  refine Y.2.1 _ _ _ _ (i + 3) (by omega) (by omega) dL_law_754 ?_
  refine cl_RL_91 X (c_X7_order l E σ s (120 * i) hC (by omega) (xz (i + 1)) (xz (i + 2)) (xz (i + 3)) (Y.2.2.2 _) (Y.2.2.2 _) (Y.2.2.2 _)) fk0 ⟨Nat.le_of_ble_eq_true rfl, Nat.le_of_ble_eq_true rfl⟩ rfl (Nat.le_of_ble_eq_true rfl) dL_law_755 rfl (fun v1 σ1 p1 => ?_)
  obtain ⟨rfl, hC1, hf1⟩ := p1
  have hM1 := hM.fr hf1
  refine g_aload_n X dL_law_758 rfl ?_
  refine g_aload_n X dL_law_759 rfl ?_
  refine g_iload_n X dL_law_760 rfl ?_
  refine g_iconst X dL_law_761 ?_
  refine g_iadd X dL_law_762 ?_
  refine Y.2.1 _ _ _ _ (i + 1) (by omega) (by omega) dL_law_763 ?_
  refine g_aload_n X dL_law_764 rfl ?_
  refine g_iload_n X dL_law_765 rfl ?_
  refine g_iconst X dL_law_766 ?_
  refine g_iadd X dL_law_767 ?_
  refine Y.2.1 _ _ _ _ (i + 2) (by omega) (by omega) dL_law_768 ?_
  refine g_aload_n X dL_law_769 rfl ?_
  refine g_iload_n X dL_law_770 rfl ?_
  refine g_iconst X dL_law_771 ?_
  refine g_iadd X dL_law_772 ?_
  refine Y.2.1 _ _ _ _ (i + 3) (by omega) (by omega) dL_law_773 ?_
  refine cl_RL_94 X (c_X8_order l E σ1 s (120 * i) hM1 hC.2.1 (by omega) (xz (i + 1)) (xz (i + 2)) (xz (i + 3)) (Y.2.2.2 _) (Y.2.2.2 _) (Y.2.2.2 _)) fk12 ⟨Nat.le_of_ble_eq_true rfl, Nat.le_of_ble_eq_true rfl⟩ rfl (Nat.le_of_ble_eq_true rfl) dL_law_774 rfl (fun v2 σ2 p2 => ?_)
  obtain ⟨rfl, hM2, hf2⟩ := p2
  exact g_icmpS X (tgt := 887) dL_law_777 (by decide) (next _ _ (hC1.fr hf2) hM2 hS)
set_option maxHeartbeats 1000000 in
theorem lw_c19 (X : Ctx l E K RL cL_law 4 9 344) {L : Nat} {xz : Int → Int} (Y : LawK K E L xz) {s : St} {i : Int} (h0 : 0 ≤ i) (h1 : i + 5 ≤ L) (hL : (L : Int) ≤ 2560) (hC : CRep σ s (120 * i)) (hM : MRep σ s) (hS : SInv s) (next : ∀ σ' s', CRep σ' s' (120 * i + 600) → MRep σ' s' → SInv s' → K σ' 887 [some (sv E 3), some (rv E 0), some (rv E 12), some (iv i)] []) : K σ 782 [some (sv E 3), some (rv E 0), some (rv E 12), some (iv i)] [] := by
  have hn := hM.2.1.1
  refine g_aload_n X dL_law_782 rfl ?_
  refine g_aload_n X dL_law_783 rfl ?_
  refine g_iload_n X dL_law_784 rfl ?_
  refine g_iconst X dL_law_785 ?_
  refine g_iadd X dL_law_786 ?_
  refine Y.2.1 _ _ _ _ (i + 1) (by omega) (by omega) dL_law_787 ?_
  refine g_aload_n X dL_law_788 rfl ?_
  refine g_iload_n X dL_law_789 rfl ?_
  refine g_iconst X dL_law_790 ?_
  refine g_iadd X dL_law_791 ?_
  refine Y.2.1 _ _ _ _ (i + 2) (by omega) (by omega) dL_law_792 ?_
  refine cl_RL_95 X (c_X7_leastLift l E σ s (120 * i) hC (by omega) (xz (i + 1)) (xz (i + 2)) (Y.2.2.2 _) (Y.2.2.2 _)) fk0 ⟨Nat.le_of_ble_eq_true rfl, Nat.le_of_ble_eq_true rfl⟩ rfl (Nat.le_of_ble_eq_true rfl) dL_law_793 rfl (fun v1 σ1 p1 => ?_)
  obtain ⟨rfl, hC1, hf1⟩ := p1
  have hM1 := hM.fr hf1
  refine g_aload_n X dL_law_796 rfl ?_
  refine g_aload_n X dL_law_797 rfl ?_
  refine g_iload_n X dL_law_798 rfl ?_
  refine g_iconst X dL_law_799 ?_
  refine g_iadd X dL_law_800 ?_
  refine Y.2.1 _ _ _ _ (i + 1) (by omega) (by omega) dL_law_801 ?_
  refine g_aload_n X dL_law_802 rfl ?_
  refine g_iload_n X dL_law_803 rfl ?_
  refine g_iconst X dL_law_804 ?_
  refine g_iadd X dL_law_805 ?_
  refine Y.2.1 _ _ _ _ (i + 2) (by omega) (by omega) dL_law_806 ?_
  refine cl_RL_98 X (c_X8_leastLift l E σ1 s (120 * i) hM1 hC.2.1 (by omega) (xz (i + 1)) (xz (i + 2)) (Y.2.2.2 _) (Y.2.2.2 _)) fk12 ⟨Nat.le_of_ble_eq_true rfl, Nat.le_of_ble_eq_true rfl⟩ rfl (Nat.le_of_ble_eq_true rfl) dL_law_807 rfl (fun v2 σ2 p2 => ?_)
  obtain ⟨rfl, hM2, hf2⟩ := p2
  exact g_icmpS X (tgt := 887) dL_law_810 (by decide) (next _ _ (hC1.fr hf2) hM2 hS)
set_option maxHeartbeats 1000000 in
theorem lw_c20 (X : Ctx l E K RL cL_law 4 9 344) {L : Nat} {xz : Int → Int} (Y : LawK K E L xz) {s : St} {i : Int} (h0 : 0 ≤ i) (h1 : i + 5 ≤ L) (hL : (L : Int) ≤ 2560) (hC : CRep σ s (120 * i)) (hM : MRep σ s) (hS : SInv s) (next : ∀ σ' s', CRep σ' s' (120 * i + 600) → MRep σ' s' → SInv s' → K σ' 887 [some (sv E 3), some (rv E 0), some (rv E 12), some (iv i)] []) : K σ 815 [some (sv E 3), some (rv E 0), some (rv E 12), some (iv i)] [] := by
  have hn := hM.2.1.1
  refine g_aload_n X dL_law_815 rfl ?_
  refine g_aload_n X dL_law_816 rfl ?_
  refine g_iload_n X dL_law_817 rfl ?_
  refine g_iconst X dL_law_818 ?_
  refine g_iadd X dL_law_819 ?_
  refine Y.2.1 _ _ _ _ (i + 1) (by omega) (by omega) dL_law_820 ?_
  refine cl_RL_99 X (c_X7_type l E σ s (120 * i) hC (by omega) (xz (i + 1)) (Y.2.2.2 _)) fk0 ⟨Nat.le_of_ble_eq_true rfl, Nat.le_of_ble_eq_true rfl⟩ rfl (Nat.le_of_ble_eq_true rfl) dL_law_821 rfl (fun v1 σ1 p1 => ?_)
  obtain ⟨rfl, hC1, hf1⟩ := p1
  have hM1 := hM.fr hf1
  refine g_aload_n X dL_law_824 rfl ?_
  refine g_aload_n X dL_law_825 rfl ?_
  refine g_iload_n X dL_law_826 rfl ?_
  refine g_iconst X dL_law_827 ?_
  refine g_iadd X dL_law_828 ?_
  refine Y.2.1 _ _ _ _ (i + 1) (by omega) (by omega) dL_law_829 ?_
  refine cl_RL_102 X (c_X8_type l E σ1 s (120 * i) hM1 hC.2.1 (by omega) (xz (i + 1)) (Y.2.2.2 _)) fk12 ⟨Nat.le_of_ble_eq_true rfl, Nat.le_of_ble_eq_true rfl⟩ rfl (Nat.le_of_ble_eq_true rfl) dL_law_830 rfl (fun v2 σ2 p2 => ?_)
  obtain ⟨rfl, hM2, hf2⟩ := p2
  exact g_icmpS X (tgt := 887) dL_law_833 (by decide) (next _ _ (hC1.fr hf2) hM2 (hS.type _))
set_option maxHeartbeats 1000000 in
theorem lw_c21 (X : Ctx l E K RL cL_law 4 9 344) {L : Nat} {xz : Int → Int} (Y : LawK K E L xz) {s : St} {i : Int} (h0 : 0 ≤ i) (h1 : i + 5 ≤ L) (hL : (L : Int) ≤ 2560) (hC : CRep σ s (120 * i)) (hM : MRep σ s) (hS : SInv s) (next : ∀ σ' s', CRep σ' s' (120 * i + 600) → MRep σ' s' → SInv s' → K σ' 887 [some (sv E 3), some (rv E 0), some (rv E 12), some (iv i)] []) : K σ 838 [some (sv E 3), some (rv E 0), some (rv E 12), some (iv i)] [] := by
  have hn := hM.2.1.1
  refine g_aload_n X dL_law_838 rfl ?_
  refine cl_RL_103 X (c_X7_clearText l E σ s (120 * i) hC (by omega) ) fk0 ⟨Nat.le_of_ble_eq_true rfl, Nat.le_of_ble_eq_true rfl⟩ rfl (Nat.le_of_ble_eq_true rfl) dL_law_839 rfl (fun v1 σ1 p1 => ?_)
  obtain ⟨rfl, hC1, hf1⟩ := p1
  have hM1 := hM.fr hf1
  refine g_aload_n X dL_law_842 rfl ?_
  refine cl_RL_106 X (c_X8_clearText l E σ1 s (120 * i) hM1 hC.2.1 (by omega) ) fk12 ⟨Nat.le_of_ble_eq_true rfl, Nat.le_of_ble_eq_true rfl⟩ rfl (Nat.le_of_ble_eq_true rfl) dL_law_843 rfl (fun v2 σ2 p2 => ?_)
  obtain ⟨rfl, hM2, hf2⟩ := p2
  exact g_icmpS X (tgt := 887) dL_law_846 (by decide) (next _ _ (hC1.fr hf2) hM2 (hS.clear))
set_option maxHeartbeats 1000000 in
theorem lw_c22 (X : Ctx l E K RL cL_law 4 9 344) {L : Nat} {xz : Int → Int} (Y : LawK K E L xz) {s : St} {i : Int} (h0 : 0 ≤ i) (h1 : i + 5 ≤ L) (hL : (L : Int) ≤ 2560) (hC : CRep σ s (120 * i)) (hM : MRep σ s) (hS : SInv s) (next : ∀ σ' s', CRep σ' s' (120 * i + 600) → MRep σ' s' → SInv s' → K σ' 887 [some (sv E 3), some (rv E 0), some (rv E 12), some (iv i)] []) : K σ 851 [some (sv E 3), some (rv E 0), some (rv E 12), some (iv i)] [] := by
  have hn := hM.2.1.1
  refine g_aload_n X dL_law_851 rfl ?_
  refine g_aload_n X dL_law_852 rfl ?_
  refine g_iload_n X dL_law_853 rfl ?_
  refine g_iconst X dL_law_854 ?_
  refine g_iadd X dL_law_855 ?_
  refine Y.2.1 _ _ _ _ (i + 1) (by omega) (by omega) dL_law_856 ?_
  refine cl_RL_107 X (c_X7_fault l E σ s (120 * i) hC (by omega) (xz (i + 1)) (Y.2.2.2 _)) fk0 ⟨Nat.le_of_ble_eq_true rfl, Nat.le_of_ble_eq_true rfl⟩ rfl (Nat.le_of_ble_eq_true rfl) dL_law_857 rfl (fun v1 σ1 p1 => ?_)
  obtain ⟨rfl, hC1, hf1⟩ := p1
  have hM1 := hM.fr hf1
  refine g_aload_n X dL_law_860 rfl ?_
  refine g_aload_n X dL_law_861 rfl ?_
  refine g_iload_n X dL_law_862 rfl ?_
  refine g_iconst X dL_law_863 ?_
  refine g_iadd X dL_law_864 ?_
  refine Y.2.1 _ _ _ _ (i + 1) (by omega) (by omega) dL_law_865 ?_
  refine cl_RL_110 X (c_X8_fault l E σ1 s (120 * i) hM1 hC.2.1 (by omega) hC.2.2.2.2.cb (xz (i + 1)) (Y.2.2.2 _)) fk12 ⟨Nat.le_of_ble_eq_true rfl, Nat.le_of_ble_eq_true rfl⟩ rfl (Nat.le_of_ble_eq_true rfl) dL_law_866 rfl (fun v2 σ2 p2 => ?_)
  obtain ⟨rfl, hM2, hf2⟩ := p2
  exact g_icmpS X (tgt := 887) dL_law_869 (by decide) (next _ _ (hC1.fr hf2) hM2 hS)
set_option maxHeartbeats 1000000 in
theorem lw_c23 (X : Ctx l E K RL cL_law 4 9 344) {L : Nat} {xz : Int → Int} (Y : LawK K E L xz) {s : St} {i : Int} (h0 : 0 ≤ i) (h1 : i + 5 ≤ L) (hL : (L : Int) ≤ 2560) (hC : CRep σ s (120 * i)) (hM : MRep σ s) (hS : SInv s) (next : ∀ σ' s', CRep σ' s' (120 * i + 600) → MRep σ' s' → SInv s' → K σ' 887 [some (sv E 3), some (rv E 0), some (rv E 12), some (iv i)] []) : K σ 874 [some (sv E 3), some (rv E 0), some (rv E 12), some (iv i)] [] := by
  have hn := hM.2.1.1
  refine g_aload_n X dL_law_874 rfl ?_
  refine cl_RL_111 X (c_X7_carry l E σ s (120 * i) hC (by omega) ) fk0 ⟨Nat.le_of_ble_eq_true rfl, Nat.le_of_ble_eq_true rfl⟩ rfl (Nat.le_of_ble_eq_true rfl) dL_law_875 rfl (fun v1 σ1 p1 => ?_)
  obtain ⟨rfl, hC1, hf1⟩ := p1
  have hM1 := hM.fr hf1
  refine g_aload_n X dL_law_878 rfl ?_
  refine cl_RL_114 X (c_X8_carry l E σ1 s (120 * i) hM1 hC.2.1 (by omega) hC.2.2.2.2.cb ) fk12 ⟨Nat.le_of_ble_eq_true rfl, Nat.le_of_ble_eq_true rfl⟩ rfl (Nat.le_of_ble_eq_true rfl) dL_law_879 rfl (fun v2 σ2 p2 => ?_)
  obtain ⟨rfl, hM2, hf2⟩ := p2
  exact g_icmpS X (tgt := 887) dL_law_882 (by decide) (next _ _ (hC1.fr hf2) hM2 (hS.carry hC.2.1 (by omega) hn hM.2.2.1))
set_option maxHeartbeats 2000000 in
theorem lw_loop (X : Ctx l E K RL cL_law 4 9 344) {L : Nat} {xz : Int → Int} (Y : LawK K E L xz) (hL : (L : Int) ≤ 2560) : ∀ (n : Nat) (σ : Mem) (s : St) (i : Int), (L : Int) - i ≤ 5 * (n : Int) → 0 ≤ i → i ≤ L → CRep σ s (120 * i) → MRep σ s → SInv s → K σ 18 [some (sv E 3), some (rv E 0), some (rv E 12), some (iv i)] [] := by
  intro n
  induction n with
  | zero =>
    intro σ s i hn h0 hi hC hM hS
    refine g_iload_n X dL_law_18 rfl ?_
    refine g_aload_n X dL_law_19 rfl ?_
    refine Y.1 _ _ _ _ dL_law_20 ?_
    refine g_iconst X dL_law_21 ?_
    refine g_isub X dL_law_22 ?_
    refine g_icmp_gt X (a := i) (b := (L : Int) - 5) (tgt := 893) dL_law_23 (by decide) ⟨by omega, by omega⟩ ⟨by omega, by omega⟩ (fun c1 => ?_) (fun c1 => ?_)
    · refine g_iconst X dL_law_893 ?_
      exact Y.2.2.1 _ _ _ dL_law_894
    · exfalso; omega
  | succ n ih =>
    intro σ s i hn h0 hi hC hM hS
    refine g_iload_n X dL_law_18 rfl ?_
    refine g_aload_n X dL_law_19 rfl ?_
    refine Y.1 _ _ _ _ dL_law_20 ?_
    refine g_iconst X dL_law_21 ?_
    refine g_isub X dL_law_22 ?_
    refine g_icmp_gt X (a := i) (b := (L : Int) - 5) (tgt := 893) dL_law_23 (by decide) ⟨by omega, by omega⟩ ⟨by omega, by omega⟩ (fun c1 => ?_) (fun c1 => ?_)
    · refine g_iconst X dL_law_893 ?_
      exact Y.2.2.1 _ _ _ dL_law_894
    have next : ∀ σ' s', CRep σ' s' (120 * i + 600) → MRep σ' s' → SInv s' → K σ' 887 [some (sv E 3), some (rv E 0), some (rv E 12), some (iv i)] [] := fun σ' s' hC' hM' hS' => by
      refine g_iinc X (lw := [some (sv E 3), some (rv E 0), some (rv E 12), some (iv (i + 5))]) dL_law_887 rfl (by decide) rfl rfl ?_
      refine g_goto X (tgt := 18) dL_law_890 (by decide) ?_
      have e : 120 * (i + 5) = 120 * i + 600 := by omega
      exact ih σ' s' (i + 5) (by omega) (by omega) (by omega) (by rw [e]; exact hC') hM' hS'
    refine g_aload_n X dL_law_26 rfl ?_
    refine g_iload_n X dL_law_27 rfl ?_
    refine Y.2.1 _ _ _ _ i h0 (by omega) dL_law_28 ?_
    refine g_bipush X dL_law_29 (by decide) ?_
    refine g_iand31 X dL_law_31 (fun c hc0 hc1 => ?_)
    by_cases hc : 23 < c
    · refine g_tblOut X (tgt := 887) dL_law_32 ⟨by omega, by omega⟩ (Or.inr hc) (by decide) ?_
      exact next σ s (hC.mono (by omega) (by omega)) hM hS
    · have hcc : c = 0 ∨ c = 1 ∨ c = 2 ∨ c = 3 ∨ c = 4 ∨ c = 5 ∨ c = 6 ∨ c = 7 ∨ c = 8 ∨ c = 9 ∨ c = 10 ∨ c = 11 ∨ c = 12 ∨ c = 13 ∨ c = 14 ∨ c = 15 ∨ c = 16 ∨ c = 17 ∨ c = 18 ∨ c = 19 ∨ c = 20 ∨ c = 21 ∨ c = 22 ∨ c = 23 := by omega
      rcases hcc with rfl | rfl | rfl | rfl | rfl | rfl | rfl | rfl | rfl | rfl | rfl | rfl | rfl | rfl | rfl | rfl | rfl | rfl | rfl | rfl | rfl | rfl | rfl | rfl
      · exact g_tblIn X (a := 0) (off := 112) (tgt := 144) dL_law_32 ⟨by decide, by decide⟩ (by decide) (by decide) rfl (by decide) (lw_c0 X Y h0 (by omega) hL hC hM hS next)
      · exact g_tblIn X (a := 1) (off := 155) (tgt := 187) dL_law_32 ⟨by decide, by decide⟩ (by decide) (by decide) rfl (by decide) (lw_c1 X Y h0 (by omega) hL hC hM hS next)
      · exact g_tblIn X (a := 2) (off := 168) (tgt := 200) dL_law_32 ⟨by decide, by decide⟩ (by decide) (by decide) rfl (by decide) (lw_c2 X Y h0 (by omega) hL hC hM hS next)
      · exact g_tblIn X (a := 3) (off := 201) (tgt := 233) dL_law_32 ⟨by decide, by decide⟩ (by decide) (by decide) rfl (by decide) (lw_c3 X Y h0 (by omega) hL hC hM hS next)
      · exact g_tblIn X (a := 4) (off := 224) (tgt := 256) dL_law_32 ⟨by decide, by decide⟩ (by decide) (by decide) rfl (by decide) (lw_c4 X Y h0 (by omega) hL hC hM hS next)
      · exact g_tblIn X (a := 5) (off := 257) (tgt := 289) dL_law_32 ⟨by decide, by decide⟩ (by decide) (by decide) rfl (by decide) (lw_c5 X Y h0 (by omega) hL hC hM hS next)
      · exact g_tblIn X (a := 6) (off := 281) (tgt := 313) dL_law_32 ⟨by decide, by decide⟩ (by decide) (by decide) rfl (by decide) (lw_c6 X Y h0 (by omega) hL hC hM hS next)
      · exact g_tblIn X (a := 7) (off := 324) (tgt := 356) dL_law_32 ⟨by decide, by decide⟩ (by decide) (by decide) rfl (by decide) (lw_c7 X Y h0 (by omega) hL hC hM hS next)
      · exact g_tblIn X (a := 8) (off := 357) (tgt := 389) dL_law_32 ⟨by decide, by decide⟩ (by decide) (by decide) rfl (by decide) (lw_c8 X Y h0 (by omega) hL hC hM hS next)
      · exact g_tblIn X (a := 9) (off := 400) (tgt := 432) dL_law_32 ⟨by decide, by decide⟩ (by decide) (by decide) rfl (by decide) (lw_c9 X Y h0 (by omega) hL hC hM hS next)
      · exact g_tblIn X (a := 10) (off := 433) (tgt := 465) dL_law_32 ⟨by decide, by decide⟩ (by decide) (by decide) rfl (by decide) (lw_c10 X Y h0 (by omega) hL hC hM hS next)
      · exact g_tblIn X (a := 11) (off := 486) (tgt := 518) dL_law_32 ⟨by decide, by decide⟩ (by decide) (by decide) rfl (by decide) (lw_c11 X Y h0 (by omega) hL hC hM hS next)
      · exact g_tblIn X (a := 12) (off := 519) (tgt := 551) dL_law_32 ⟨by decide, by decide⟩ (by decide) (by decide) rfl (by decide) (lw_c12 X Y h0 (by omega) hL hC hM hS next)
      · exact g_tblIn X (a := 13) (off := 552) (tgt := 584) dL_law_32 ⟨by decide, by decide⟩ (by decide) (by decide) rfl (by decide) (lw_c13 X Y h0 (by omega) hL hC hM hS next)
      · exact g_tblIn X (a := 14) (off := 595) (tgt := 627) dL_law_32 ⟨by decide, by decide⟩ (by decide) (by decide) rfl (by decide) (lw_c14 X Y h0 (by omega) hL hC hM hS next)
      · exact g_tblIn X (a := 15) (off := 628) (tgt := 660) dL_law_32 ⟨by decide, by decide⟩ (by decide) (by decide) rfl (by decide) (lw_c15 X Y h0 (by omega) hL hC hM hS next)
      · exact g_tblIn X (a := 16) (off := 641) (tgt := 673) dL_law_32 ⟨by decide, by decide⟩ (by decide) (by decide) rfl (by decide) (lw_c16 X Y h0 (by omega) hL hC hM hS next)
      · exact g_tblIn X (a := 17) (off := 664) (tgt := 696) dL_law_32 ⟨by decide, by decide⟩ (by decide) (by decide) rfl (by decide) (lw_c17 X Y h0 (by omega) hL hC hM hS next)
      · exact g_tblIn X (a := 18) (off := 707) (tgt := 739) dL_law_32 ⟨by decide, by decide⟩ (by decide) (by decide) rfl (by decide) (lw_c18 X Y h0 (by omega) hL hC hM hS next)
      · exact g_tblIn X (a := 19) (off := 750) (tgt := 782) dL_law_32 ⟨by decide, by decide⟩ (by decide) (by decide) rfl (by decide) (lw_c19 X Y h0 (by omega) hL hC hM hS next)
      · exact g_tblIn X (a := 20) (off := 783) (tgt := 815) dL_law_32 ⟨by decide, by decide⟩ (by decide) (by decide) rfl (by decide) (lw_c20 X Y h0 (by omega) hL hC hM hS next)
      · exact g_tblIn X (a := 21) (off := 806) (tgt := 838) dL_law_32 ⟨by decide, by decide⟩ (by decide) (by decide) rfl (by decide) (lw_c21 X Y h0 (by omega) hL hC hM hS next)
      · exact g_tblIn X (a := 22) (off := 819) (tgt := 851) dL_law_32 ⟨by decide, by decide⟩ (by decide) (by decide) rfl (by decide) (lw_c22 X Y h0 (by omega) hL hC hM hS next)
      · exact g_tblIn X (a := 23) (off := 842) (tgt := 874) dL_law_32 ⟨by decide, by decide⟩ (by decide) (by decide) rfl (by decide) (lw_c23 X Y h0 (by omega) hL hC hM hS next)
end LAW
