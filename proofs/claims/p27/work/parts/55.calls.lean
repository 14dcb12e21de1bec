/-! ===== the law's calls of the class, by the answers' words ===== -/
section CALLS2
variable {l : Launch} {E : wEnv} {K : Mem → Nat → List (Option Value) → List Value → Prop} {cc : ByteArray} {nL f loc : Nat} {σ : Mem} {pc : Nat} {lv : List (Option Value)} {st : List Value} {s s' : St} {N : Int}
theorem L_stratum (X : Ctx l E K RL cc nL f loc) (hR : 7 ≤ f ∧ 180 ≤ loc) (hC : CRep σ s N) (hN : N + 600 ≤ 400000) {z1 z2 z3 : Int} {a : Int} (hz1 : I32 z1) (hz2 : I32 z2) (hz3 : I32 z3) (e : stratumX s z1 z2 z3 = (a, s')) (hroom : (st.map fun v => v.category).sum ≤ 8) (hd : decode cc pc = .ok (.invokevirtual 46, 3)) (kk : ∀ σ', CRep σ' s' (N + 600) → frM σ σ' → K σ' (pc + 3) lv (iv a :: st)) : K σ pc lv (iv z3 :: iv z2 :: iv z1 :: rv E 0 :: st) := by
  refine cl_L_46 X (c_X7_stratum l E σ s N hC hN z1 z2 z3 hz1 hz2 hz3) fk0 ⟨by omega, by omega⟩ rfl hroom hd rfl (fun v1 σ1 p1 => ?_)
  obtain ⟨rfl, hC1, hf1⟩ := p1
  rw [e] at hC1 ⊢
  exact kk σ1 hC1 hf1
theorem N_stratum (X : Ctx l E K RL cc nL f loc) (hR : 7 ≤ f ∧ 180 ≤ loc) (hC : CRep σ s N) (hN : N + 600 ≤ 400000) {z1 z2 z3 : Int} {a : Int} (hz1 : I32 z1) (hz2 : I32 z2) (hz3 : I32 z3) (e : stratumX s z1 z2 z3 = (a, s)) (hroom : (st.map fun v => v.category).sum ≤ 8) (hd : decode cc pc = .ok (.invokevirtual 46, 3)) (kk : ∀ σ', CRep σ' s N → frM σ σ' → K σ' (pc + 3) lv (iv a :: st)) : K σ pc lv (iv z3 :: iv z2 :: iv z1 :: rv E 0 :: st) := by
  refine cl_L_46 X (c_X7_stratum l E σ s N hC hN z1 z2 z3 hz1 hz2 hz3) fk0 ⟨by omega, by omega⟩ rfl hroom hd rfl (fun v1 σ1 p1 => ?_)
  obtain ⟨rfl, hC1, hf1⟩ := p1
  rw [e] at hC1 ⊢
  exact kk σ1 (hC.back hC1) hf1
theorem L_cut (X : Ctx l E K RL cc nL f loc) (hR : 7 ≤ f ∧ 180 ≤ loc) (hC : CRep σ s N) (hN : N + 600 ≤ 400000) {a : Int}  (e : cutX s = (a, s')) (hroom : (st.map fun v => v.category).sum ≤ 8) (hd : decode cc pc = .ok (.invokevirtual 173, 3)) (kk : ∀ σ', CRep σ' s' (N + 600) → frM σ σ' → K σ' (pc + 3) lv (iv a :: st)) : K σ pc lv (rv E 0 :: st) := by
  refine cl_L_173 X (c_X7_cut l E σ s N hC hN ) fk0 ⟨by omega, by omega⟩ rfl hroom hd rfl (fun v1 σ1 p1 => ?_)
  obtain ⟨rfl, hC1, hf1⟩ := p1
  rw [e] at hC1 ⊢
  exact kk σ1 hC1 hf1
theorem N_cut (X : Ctx l E K RL cc nL f loc) (hR : 7 ≤ f ∧ 180 ≤ loc) (hC : CRep σ s N) (hN : N + 600 ≤ 400000) {a : Int}  (e : cutX s = (a, s)) (hroom : (st.map fun v => v.category).sum ≤ 8) (hd : decode cc pc = .ok (.invokevirtual 173, 3)) (kk : ∀ σ', CRep σ' s N → frM σ σ' → K σ' (pc + 3) lv (iv a :: st)) : K σ pc lv (rv E 0 :: st) := by
  refine cl_L_173 X (c_X7_cut l E σ s N hC hN ) fk0 ⟨by omega, by omega⟩ rfl hroom hd rfl (fun v1 σ1 p1 => ?_)
  obtain ⟨rfl, hC1, hf1⟩ := p1
  rw [e] at hC1 ⊢
  exact kk σ1 (hC.back hC1) hf1
theorem L_set (X : Ctx l E K RL cc nL f loc) (hR : 7 ≤ f ∧ 180 ≤ loc) (hC : CRep σ s N) (hN : N + 600 ≤ 400000) {z1 z2 : Int} {a : Int} (hz1 : I32 z1) (hz2 : I32 z2) (e : setX s z1 z2 = (a, s')) (hroom : (st.map fun v => v.category).sum ≤ 8) (hd : decode cc pc = .ok (.invokevirtual 53, 3)) (kk : ∀ σ', CRep σ' s' (N + 600) → frM σ σ' → K σ' (pc + 3) lv (iv a :: st)) : K σ pc lv (iv z2 :: iv z1 :: rv E 0 :: st) := by
  refine cl_L_53 X (c_X7_set l E σ s N hC hN z1 z2 hz1 hz2) fk0 ⟨by omega, by omega⟩ rfl hroom hd rfl (fun v1 σ1 p1 => ?_)
  obtain ⟨rfl, hC1, hf1⟩ := p1
  rw [e] at hC1 ⊢
  exact kk σ1 hC1 hf1
theorem N_set (X : Ctx l E K RL cc nL f loc) (hR : 7 ≤ f ∧ 180 ≤ loc) (hC : CRep σ s N) (hN : N + 600 ≤ 400000) {z1 z2 : Int} {a : Int} (hz1 : I32 z1) (hz2 : I32 z2) (e : setX s z1 z2 = (a, s)) (hroom : (st.map fun v => v.category).sum ≤ 8) (hd : decode cc pc = .ok (.invokevirtual 53, 3)) (kk : ∀ σ', CRep σ' s N → frM σ σ' → K σ' (pc + 3) lv (iv a :: st)) : K σ pc lv (iv z2 :: iv z1 :: rv E 0 :: st) := by
  refine cl_L_53 X (c_X7_set l E σ s N hC hN z1 z2 hz1 hz2) fk0 ⟨by omega, by omega⟩ rfl hroom hd rfl (fun v1 σ1 p1 => ?_)
  obtain ⟨rfl, hC1, hf1⟩ := p1
  rw [e] at hC1 ⊢
  exact kk σ1 (hC.back hC1) hf1
theorem L_pile (X : Ctx l E K RL cc nL f loc) (hR : 7 ≤ f ∧ 180 ≤ loc) (hC : CRep σ s N) (hN : N + 600 ≤ 400000) {z1 z2 z3 : Int} {a : Int} (hz1 : I32 z1) (hz2 : I32 z2) (hz3 : I32 z3) (e : pileX s z1 z2 z3 = (a, s')) (hroom : (st.map fun v => v.category).sum ≤ 8) (hd : decode cc pc = .ok (.invokevirtual 58, 3)) (kk : ∀ σ', CRep σ' s' (N + 600) → frM σ σ' → K σ' (pc + 3) lv (iv a :: st)) : K σ pc lv (iv z3 :: iv z2 :: iv z1 :: rv E 0 :: st) := by
  refine cl_L_58 X (c_X7_pile l E σ s N hC hN z1 z2 z3 hz1 hz2 hz3) fk0 ⟨by omega, by omega⟩ rfl hroom hd rfl (fun v1 σ1 p1 => ?_)
  obtain ⟨rfl, hC1, hf1⟩ := p1
  rw [e] at hC1 ⊢
  exact kk σ1 hC1 hf1
theorem N_pile (X : Ctx l E K RL cc nL f loc) (hR : 7 ≤ f ∧ 180 ≤ loc) (hC : CRep σ s N) (hN : N + 600 ≤ 400000) {z1 z2 z3 : Int} {a : Int} (hz1 : I32 z1) (hz2 : I32 z2) (hz3 : I32 z3) (e : pileX s z1 z2 z3 = (a, s)) (hroom : (st.map fun v => v.category).sum ≤ 8) (hd : decode cc pc = .ok (.invokevirtual 58, 3)) (kk : ∀ σ', CRep σ' s N → frM σ σ' → K σ' (pc + 3) lv (iv a :: st)) : K σ pc lv (iv z3 :: iv z2 :: iv z1 :: rv E 0 :: st) := by
  refine cl_L_58 X (c_X7_pile l E σ s N hC hN z1 z2 z3 hz1 hz2 hz3) fk0 ⟨by omega, by omega⟩ rfl hroom hd rfl (fun v1 σ1 p1 => ?_)
  obtain ⟨rfl, hC1, hf1⟩ := p1
  rw [e] at hC1 ⊢
  exact kk σ1 (hC.back hC1) hf1
theorem L_strike (X : Ctx l E K RL cc nL f loc) (hR : 7 ≤ f ∧ 180 ≤ loc) (hC : CRep σ s N) (hN : N + 600 ≤ 400000) {z1 z2 : Int} {a : Int} (hz1 : I32 z1) (hz2 : I32 z2) (e : strikeX s z1 z2 = (a, s')) (hroom : (st.map fun v => v.category).sum ≤ 8) (hd : decode cc pc = .ok (.invokevirtual 68, 3)) (kk : ∀ σ', CRep σ' s' (N + 600) → frM σ σ' → K σ' (pc + 3) lv (iv a :: st)) : K σ pc lv (iv z2 :: iv z1 :: rv E 0 :: st) := by
  refine cl_L_68 X (c_X7_strike l E σ s N hC hN z1 z2 hz1 hz2) fk0 ⟨by omega, by omega⟩ rfl hroom hd rfl (fun v1 σ1 p1 => ?_)
  obtain ⟨rfl, hC1, hf1⟩ := p1
  rw [e] at hC1 ⊢
  exact kk σ1 hC1 hf1
theorem N_strike (X : Ctx l E K RL cc nL f loc) (hR : 7 ≤ f ∧ 180 ≤ loc) (hC : CRep σ s N) (hN : N + 600 ≤ 400000) {z1 z2 : Int} {a : Int} (hz1 : I32 z1) (hz2 : I32 z2) (e : strikeX s z1 z2 = (a, s)) (hroom : (st.map fun v => v.category).sum ≤ 8) (hd : decode cc pc = .ok (.invokevirtual 68, 3)) (kk : ∀ σ', CRep σ' s N → frM σ σ' → K σ' (pc + 3) lv (iv a :: st)) : K σ pc lv (iv z2 :: iv z1 :: rv E 0 :: st) := by
  refine cl_L_68 X (c_X7_strike l E σ s N hC hN z1 z2 hz1 hz2) fk0 ⟨by omega, by omega⟩ rfl hroom hd rfl (fun v1 σ1 p1 => ?_)
  obtain ⟨rfl, hC1, hf1⟩ := p1
  rw [e] at hC1 ⊢
  exact kk σ1 (hC.back hC1) hf1
theorem L_drive (X : Ctx l E K RL cc nL f loc) (hR : 7 ≤ f ∧ 180 ≤ loc) (hC : CRep σ s N) (hN : N + 600 ≤ 400000) {z1 z2 z3 z4 : Int} {a : Int} (hz1 : I32 z1) (hz2 : I32 z2) (hz3 : I32 z3) (hz4 : I32 z4) (e : driveX s z1 z2 z3 z4 = (a, s')) (hroom : (st.map fun v => v.category).sum ≤ 8) (hd : decode cc pc = .ok (.invokevirtual 71, 3)) (kk : ∀ σ', CRep σ' s' (N + 600) → frM σ σ' → K σ' (pc + 3) lv (iv a :: st)) : K σ pc lv (iv z4 :: iv z3 :: iv z2 :: iv z1 :: rv E 0 :: st) := by
  refine cl_L_71 X (c_X7_drive l E σ s N hC hN z1 z2 z3 z4 hz1 hz2 hz3 hz4) fk0 ⟨by omega, by omega⟩ rfl hroom hd rfl (fun v1 σ1 p1 => ?_)
  obtain ⟨rfl, hC1, hf1⟩ := p1
  rw [e] at hC1 ⊢
  exact kk σ1 hC1 hf1
theorem N_drive (X : Ctx l E K RL cc nL f loc) (hR : 7 ≤ f ∧ 180 ≤ loc) (hC : CRep σ s N) (hN : N + 600 ≤ 400000) {z1 z2 z3 z4 : Int} {a : Int} (hz1 : I32 z1) (hz2 : I32 z2) (hz3 : I32 z3) (hz4 : I32 z4) (e : driveX s z1 z2 z3 z4 = (a, s)) (hroom : (st.map fun v => v.category).sum ≤ 8) (hd : decode cc pc = .ok (.invokevirtual 71, 3)) (kk : ∀ σ', CRep σ' s N → frM σ σ' → K σ' (pc + 3) lv (iv a :: st)) : K σ pc lv (iv z4 :: iv z3 :: iv z2 :: iv z1 :: rv E 0 :: st) := by
  refine cl_L_71 X (c_X7_drive l E σ s N hC hN z1 z2 z3 z4 hz1 hz2 hz3 hz4) fk0 ⟨by omega, by omega⟩ rfl hroom hd rfl (fun v1 σ1 p1 => ?_)
  obtain ⟨rfl, hC1, hf1⟩ := p1
  rw [e] at hC1 ⊢
  exact kk σ1 (hC.back hC1) hf1
theorem L_test (X : Ctx l E K RL cc nL f loc) (hR : 7 ≤ f ∧ 180 ≤ loc) (hC : CRep σ s N) (hN : N + 600 ≤ 400000) {z1 z2 : Int} {a : Int} (hz1 : I32 z1) (hz2 : I32 z2) (e : testX s z1 z2 = (a, s')) (hroom : (st.map fun v => v.category).sum ≤ 8) (hd : decode cc pc = .ok (.invokevirtual 84, 3)) (kk : ∀ σ', CRep σ' s' (N + 600) → frM σ σ' → K σ' (pc + 3) lv (iv a :: st)) : K σ pc lv (iv z2 :: iv z1 :: rv E 0 :: st) := by
  refine cl_L_84 X (c_X7_test l E σ s N hC hN z1 z2 hz1 hz2) fk0 ⟨by omega, by omega⟩ rfl hroom hd rfl (fun v1 σ1 p1 => ?_)
  obtain ⟨rfl, hC1, hf1⟩ := p1
  rw [e] at hC1 ⊢
  exact kk σ1 hC1 hf1
theorem N_test (X : Ctx l E K RL cc nL f loc) (hR : 7 ≤ f ∧ 180 ≤ loc) (hC : CRep σ s N) (hN : N + 600 ≤ 400000) {z1 z2 : Int} {a : Int} (hz1 : I32 z1) (hz2 : I32 z2) (e : testX s z1 z2 = (a, s)) (hroom : (st.map fun v => v.category).sum ≤ 8) (hd : decode cc pc = .ok (.invokevirtual 84, 3)) (kk : ∀ σ', CRep σ' s N → frM σ σ' → K σ' (pc + 3) lv (iv a :: st)) : K σ pc lv (iv z2 :: iv z1 :: rv E 0 :: st) := by
  refine cl_L_84 X (c_X7_test l E σ s N hC hN z1 z2 hz1 hz2) fk0 ⟨by omega, by omega⟩ rfl hroom hd rfl (fun v1 σ1 p1 => ?_)
  obtain ⟨rfl, hC1, hf1⟩ := p1
  rw [e] at hC1 ⊢
  exact kk σ1 (hC.back hC1) hf1
theorem L_undo (X : Ctx l E K RL cc nL f loc) (hR : 7 ≤ f ∧ 180 ≤ loc) (hC : CRep σ s N) (hN : N + 600 ≤ 400000) {a : Int}  (e : undoX s = (a, s')) (hroom : (st.map fun v => v.category).sum ≤ 8) (hd : decode cc pc = .ok (.invokevirtual 170, 3)) (kk : ∀ σ', CRep σ' s' (N + 600) → frM σ σ' → K σ' (pc + 3) lv (iv a :: st)) : K σ pc lv (rv E 0 :: st) := by
  refine cl_L_170 X (c_X7_undo l E σ s N hC hN ) fk0 ⟨by omega, by omega⟩ rfl hroom hd rfl (fun v1 σ1 p1 => ?_)
  obtain ⟨rfl, hC1, hf1⟩ := p1
  rw [e] at hC1 ⊢
  exact kk σ1 hC1 hf1
theorem N_undo (X : Ctx l E K RL cc nL f loc) (hR : 7 ≤ f ∧ 180 ≤ loc) (hC : CRep σ s N) (hN : N + 600 ≤ 400000) {a : Int}  (e : undoX s = (a, s)) (hroom : (st.map fun v => v.category).sum ≤ 8) (hd : decode cc pc = .ok (.invokevirtual 170, 3)) (kk : ∀ σ', CRep σ' s N → frM σ σ' → K σ' (pc + 3) lv (iv a :: st)) : K σ pc lv (rv E 0 :: st) := by
  refine cl_L_170 X (c_X7_undo l E σ s N hC hN ) fk0 ⟨by omega, by omega⟩ rfl hroom hd rfl (fun v1 σ1 p1 => ?_)
  obtain ⟨rfl, hC1, hf1⟩ := p1
  rw [e] at hC1 ⊢
  exact kk σ1 (hC.back hC1) hf1
theorem L_type (X : Ctx l E K RL cc nL f loc) (hR : 7 ≤ f ∧ 180 ≤ loc) (hC : CRep σ s N) (hN : N + 600 ≤ 400000) {z1 : Int} {a : Int} (hz1 : I32 z1) (e : typeX s z1 = (a, s')) (hroom : (st.map fun v => v.category).sum ≤ 8) (hd : decode cc pc = .ok (.invokevirtual 62, 3)) (kk : ∀ σ', CRep σ' s' (N + 600) → frM σ σ' → K σ' (pc + 3) lv (iv a :: st)) : K σ pc lv (iv z1 :: rv E 0 :: st) := by
  refine cl_L_62 X (c_X7_type l E σ s N hC hN z1 hz1) fk0 ⟨by omega, by omega⟩ rfl hroom hd rfl (fun v1 σ1 p1 => ?_)
  obtain ⟨rfl, hC1, hf1⟩ := p1
  rw [e] at hC1 ⊢
  exact kk σ1 hC1 hf1
theorem N_type (X : Ctx l E K RL cc nL f loc) (hR : 7 ≤ f ∧ 180 ≤ loc) (hC : CRep σ s N) (hN : N + 600 ≤ 400000) {z1 : Int} {a : Int} (hz1 : I32 z1) (e : typeX s z1 = (a, s)) (hroom : (st.map fun v => v.category).sum ≤ 8) (hd : decode cc pc = .ok (.invokevirtual 62, 3)) (kk : ∀ σ', CRep σ' s N → frM σ σ' → K σ' (pc + 3) lv (iv a :: st)) : K σ pc lv (iv z1 :: rv E 0 :: st) := by
  refine cl_L_62 X (c_X7_type l E σ s N hC hN z1 hz1) fk0 ⟨by omega, by omega⟩ rfl hroom hd rfl (fun v1 σ1 p1 => ?_)
  obtain ⟨rfl, hC1, hf1⟩ := p1
  rw [e] at hC1 ⊢
  exact kk σ1 (hC.back hC1) hf1
theorem L_clearText (X : Ctx l E K RL cc nL f loc) (hR : 7 ≤ f ∧ 180 ≤ loc) (hC : CRep σ s N) (hN : N + 600 ≤ 400000) {a : Int}  (e : clearX s = (a, s')) (hroom : (st.map fun v => v.category).sum ≤ 8) (hd : decode cc pc = .ok (.invokevirtual 99, 3)) (kk : ∀ σ', CRep σ' s' (N + 600) → frM σ σ' → K σ' (pc + 3) lv (iv a :: st)) : K σ pc lv (rv E 0 :: st) := by
  refine cl_L_99 X (c_X7_clearText l E σ s N hC hN ) fk0 ⟨by omega, by omega⟩ rfl hroom hd rfl (fun v1 σ1 p1 => ?_)
  obtain ⟨rfl, hC1, hf1⟩ := p1
  rw [e] at hC1 ⊢
  exact kk σ1 hC1 hf1
theorem N_clearText (X : Ctx l E K RL cc nL f loc) (hR : 7 ≤ f ∧ 180 ≤ loc) (hC : CRep σ s N) (hN : N + 600 ≤ 400000) {a : Int}  (e : clearX s = (a, s)) (hroom : (st.map fun v => v.category).sum ≤ 8) (hd : decode cc pc = .ok (.invokevirtual 99, 3)) (kk : ∀ σ', CRep σ' s N → frM σ σ' → K σ' (pc + 3) lv (iv a :: st)) : K σ pc lv (rv E 0 :: st) := by
  refine cl_L_99 X (c_X7_clearText l E σ s N hC hN ) fk0 ⟨by omega, by omega⟩ rfl hroom hd rfl (fun v1 σ1 p1 => ?_)
  obtain ⟨rfl, hC1, hf1⟩ := p1
  rw [e] at hC1 ⊢
  exact kk σ1 (hC.back hC1) hf1
theorem L_carry (X : Ctx l E K RL cc nL f loc) (hR : 7 ≤ f ∧ 180 ≤ loc) (hC : CRep σ s N) (hN : N + 600 ≤ 400000) {a : Int}  (e : carryX s = (a, s')) (hroom : (st.map fun v => v.category).sum ≤ 8) (hd : decode cc pc = .ok (.invokevirtual 114, 3)) (kk : ∀ σ', CRep σ' s' (N + 600) → frM σ σ' → K σ' (pc + 3) lv (iv a :: st)) : K σ pc lv (rv E 0 :: st) := by
  refine cl_L_114 X (c_X7_carry l E σ s N hC hN ) fk0 ⟨by omega, by omega⟩ rfl hroom hd rfl (fun v1 σ1 p1 => ?_)
  obtain ⟨rfl, hC1, hf1⟩ := p1
  rw [e] at hC1 ⊢
  exact kk σ1 hC1 hf1
theorem N_carry (X : Ctx l E K RL cc nL f loc) (hR : 7 ≤ f ∧ 180 ≤ loc) (hC : CRep σ s N) (hN : N + 600 ≤ 400000) {a : Int}  (e : carryX s = (a, s)) (hroom : (st.map fun v => v.category).sum ≤ 8) (hd : decode cc pc = .ok (.invokevirtual 114, 3)) (kk : ∀ σ', CRep σ' s N → frM σ σ' → K σ' (pc + 3) lv (iv a :: st)) : K σ pc lv (rv E 0 :: st) := by
  refine cl_L_114 X (c_X7_carry l E σ s N hC hN ) fk0 ⟨by omega, by omega⟩ rfl hroom hd rfl (fun v1 σ1 p1 => ?_)
  obtain ⟨rfl, hC1, hf1⟩ := p1
  rw [e] at hC1 ⊢
  exact kk σ1 (hC.back hC1) hf1
theorem R_fault (X : Ctx l E K RL cc nL f loc) (hR : 7 ≤ f ∧ 180 ≤ loc) (hC : CRep σ s N) (hN : N + 600 ≤ 400000) {z1 : Int} {a : Int} (hz1 : I32 z1) (e : faultX s z1 = a) (hroom : (st.map fun v => v.category).sum ≤ 8) (hd : decode cc pc = .ok (.invokevirtual 65, 3)) (kk : ∀ σ', CRep σ' s N → frM σ σ' → K σ' (pc + 3) lv (iv a :: st)) : K σ pc lv (iv z1 :: rv E 0 :: st) := by
  refine cl_L_65 X (c_X7_fault l E σ s N hC hN z1 hz1) fk0 ⟨by omega, by omega⟩ rfl hroom hd rfl (fun v1 σ1 p1 => ?_)
  obtain ⟨rfl, hC1, hf1⟩ := p1
  rw [e]
  exact kk σ1 (hC.back hC1) hf1
theorem R_runs (X : Ctx l E K RL cc nL f loc) (hR : 7 ≤ f ∧ 180 ≤ loc) (hC : CRep σ s N) (hN : N + 600 ≤ 400000) (hS : SInv s) {z1 : Int} {a : Int} (hz1 : I32 z1) (e : runsX s z1 = a) (hroom : (st.map fun v => v.category).sum ≤ 8) (hd : decode cc pc = .ok (.invokevirtual 38, 3)) (kk : ∀ σ', CRep σ' s N → frM σ σ' → K σ' (pc + 3) lv (iv a :: st)) : K σ pc lv (iv z1 :: rv E 0 :: st) := by
  refine cl_L_38 X (c_X7_runs l E σ s N hC hN hS.runs z1 hz1) fk0 ⟨by omega, by omega⟩ rfl hroom hd rfl (fun v1 σ1 p1 => ?_)
  obtain ⟨rfl, hC1, hf1⟩ := p1
  rw [e]
  exact kk σ1 (hC.back hC1) hf1
theorem R_run (X : Ctx l E K RL cc nL f loc) (hR : 7 ≤ f ∧ 180 ≤ loc) (hC : CRep σ s N) (hN : N + 600 ≤ 400000) (hS : SInv s) {z1 z2 z3 : Int} {a : Int} (hz1 : I32 z1) (hz2 : I32 z2) (hz3 : I32 z3) (e : runX s z1 z2 z3 = a) (hroom : (st.map fun v => v.category).sum ≤ 8) (hd : decode cc pc = .ok (.invokevirtual 87, 3)) (kk : ∀ σ', CRep σ' s N → frM σ σ' → K σ' (pc + 3) lv (iv a :: st)) : K σ pc lv (iv z3 :: iv z2 :: iv z1 :: rv E 0 :: st) := by
  refine cl_L_87 X (c_X7_run l E σ s N hC hN hS.runs z1 z2 z3 hz1 hz2 hz3) fk0 ⟨by omega, by omega⟩ rfl hroom hd rfl (fun v1 σ1 p1 => ?_)
  obtain ⟨rfl, hC1, hf1⟩ := p1
  rw [e]
  exact kk σ1 (hC.back hC1) hf1
theorem R_order (X : Ctx l E K RL cc nL f loc) (hR : 7 ≤ f ∧ 180 ≤ loc) (hC : CRep σ s N) (hN : N + 600 ≤ 400000) {z1 z2 z3 : Int} {a : Int} (hz1 : I32 z1) (hz2 : I32 z2) (hz3 : I32 z3) (e : orderX s z1 z2 z3 = a) (hroom : (st.map fun v => v.category).sum ≤ 8) (hd : decode cc pc = .ok (.invokevirtual 91, 3)) (kk : ∀ σ', CRep σ' s N → frM σ σ' → K σ' (pc + 3) lv (iv a :: st)) : K σ pc lv (iv z3 :: iv z2 :: iv z1 :: rv E 0 :: st) := by
  refine cl_L_91 X (c_X7_order l E σ s N hC hN z1 z2 z3 hz1 hz2 hz3) fk0 ⟨by omega, by omega⟩ rfl hroom hd rfl (fun v1 σ1 p1 => ?_)
  obtain ⟨rfl, hC1, hf1⟩ := p1
  rw [e]
  exact kk σ1 (hC.back hC1) hf1
theorem R_leastLift (X : Ctx l E K RL cc nL f loc) (hR : 7 ≤ f ∧ 180 ≤ loc) (hC : CRep σ s N) (hN : N + 600 ≤ 400000) {z1 z2 : Int} {a : Int} (hz1 : I32 z1) (hz2 : I32 z2) (e : leastX s z1 z2 = a) (hroom : (st.map fun v => v.category).sum ≤ 8) (hd : decode cc pc = .ok (.invokevirtual 94, 3)) (kk : ∀ σ', CRep σ' s N → frM σ σ' → K σ' (pc + 3) lv (iv a :: st)) : K σ pc lv (iv z2 :: iv z1 :: rv E 0 :: st) := by
  refine cl_L_94 X (c_X7_leastLift l E σ s N hC hN z1 z2 hz1 hz2) fk0 ⟨by omega, by omega⟩ rfl hroom hd rfl (fun v1 σ1 p1 => ?_)
  obtain ⟨rfl, hC1, hf1⟩ := p1
  rw [e]
  exact kk σ1 (hC.back hC1) hf1
theorem R_ground (X : Ctx l E K RL cc nL f loc) (hR : 7 ≤ f ∧ 180 ≤ loc) (hC : CRep σ s N) (hN : N + 600 ≤ 400000) {z1 z2 : Int} {a : Int} (hz1 : I32 z1) (hz2 : I32 z2) (e : groundX s z1 z2 = a) (hroom : (st.map fun v => v.category).sum ≤ 8) (hd : decode cc pc = .ok (.invokevirtual 27, 3)) (kk : K σ (pc + 3) lv (iv a :: st)) : K σ pc lv (iv z2 :: iv z1 :: rv E 0 :: st) := by
  refine cl_L_27 X (c_X7_ground l E σ s N hC hN z1 z2 hz1 hz2) fk0 ⟨by omega, by omega⟩ rfl hroom hd rfl (fun v1 σ1 p1 => ?_)
  obtain ⟨rfl, rfl⟩ := p1
  rw [e]
  exact kk
theorem R_at (X : Ctx l E K RL cc nL f loc) (hR : 7 ≤ f ∧ 180 ≤ loc) (hC : CRep σ s N) (hN : N + 600 ≤ 400000) {z1 : Int} {a : Int} (hz1 : I32 z1) (e : atX s z1 = a) (hroom : (st.map fun v => v.category).sum ≤ 8) (hd : decode cc pc = .ok (.invokevirtual 49, 3)) (kk : K σ (pc + 3) lv (iv a :: st)) : K σ pc lv (iv z1 :: rv E 0 :: st) := by
  refine cl_L_49 X (c_X7_at l E σ s N hC hN z1 hz1) fk0 ⟨by omega, by omega⟩ rfl hroom hd rfl (fun v1 σ1 p1 => ?_)
  obtain ⟨rfl, rfl⟩ := p1
  rw [e]
  exact kk
theorem R_count (X : Ctx l E K RL cc nL f loc) (hR : 7 ≤ f ∧ 180 ≤ loc) (hC : CRep σ s N) (hN : N + 600 ≤ 400000) {z1 : Int} {a : Int} (hz1 : I32 z1) (e : countX s z1 = a) (hroom : (st.map fun v => v.category).sum ≤ 8) (hd : decode cc pc = .ok (.invokevirtual 13, 3)) (kk : K σ (pc + 3) lv (jv a :: st)) : K σ pc lv (iv z1 :: rv E 0 :: st) := by
  refine cl_L_13 X (c_X7_count l E σ s N hC hN z1 hz1) fk0 ⟨by omega, by omega⟩ rfl hroom hd rfl (fun v1 σ1 p1 => ?_)
  obtain ⟨rfl, rfl⟩ := p1
  rw [e]
  exact kk
theorem R_pileOf (X : Ctx l E K RL cc nL f loc) (hR : 7 ≤ f ∧ 180 ≤ loc) (hC : CRep σ s N) (hN : N + 600 ≤ 400000) {z1 z2 : Int} {a : Int} (hz1 : I32 z1) (hz2 : I32 z2) (e : pileOfX s z1 z2 = a) (hroom : (st.map fun v => v.category).sum ≤ 8) (hd : decode cc pc = .ok (.invokevirtual 31, 3)) (kk : K σ (pc + 3) lv (iv a :: st)) : K σ pc lv (iv z2 :: iv z1 :: rv E 0 :: st) := by
  refine cl_L_31 X (c_X7_pileOf l E σ s N hC hN z1 z2 hz1 hz2) fk0 ⟨by omega, by omega⟩ rfl hroom hd rfl (fun v1 σ1 p1 => ?_)
  obtain ⟨rfl, rfl⟩ := p1
  rw [e]
  exact kk
theorem R_blow (X : Ctx l E K RL cc nL f loc) (hR : 7 ≤ f ∧ 180 ≤ loc) (hC : CRep σ s N) (hN : N + 600 ≤ 400000) {z1 z2 z3 : Int} {a : Int} (hz1 : I32 z1) (hz2 : I32 z2) (hz3 : I32 z3) (e : blowX s z1 z2 z3 = a) (hroom : (st.map fun v => v.category).sum ≤ 8) (hd : decode cc pc = .ok (.invokevirtual 34, 3)) (kk : K σ (pc + 3) lv (iv a :: st)) : K σ pc lv (iv z3 :: iv z2 :: iv z1 :: rv E 0 :: st) := by
  refine cl_L_34 X (c_X7_blow l E σ s N hC hN z1 z2 z3 hz1 hz2 hz3) fk0 ⟨by omega, by omega⟩ rfl hroom hd rfl (fun v1 σ1 p1 => ?_)
  obtain ⟨rfl, rfl⟩ := p1
  rw [e]
  exact kk
theorem R_would (X : Ctx l E K RL cc nL f loc) (hR : 7 ≤ f ∧ 180 ≤ loc) (hC : CRep σ s N) (hN : N + 600 ≤ 400000) {z1 z2 : Int} {a : Int} (hz1 : I32 z1) (hz2 : I32 z2) (e : wouldX s z1 z2 = a) (hroom : (st.map fun v => v.category).sum ≤ 8) (hd : decode cc pc = .ok (.invokevirtual 75, 3)) (kk : K σ (pc + 3) lv (iv a :: st)) : K σ pc lv (iv z2 :: iv z1 :: rv E 0 :: st) := by
  refine cl_L_75 X (c_X7_would l E σ s N hC hN z1 z2 hz1 hz2) fk0 ⟨by omega, by omega⟩ rfl hroom hd rfl (fun v1 σ1 p1 => ?_)
  obtain ⟨rfl, rfl⟩ := p1
  rw [e]
  exact kk
theorem R_fallFor (X : Ctx l E K RL cc nL f loc) (hR : 7 ≤ f ∧ 180 ≤ loc) (hC : CRep σ s N) (hN : N + 600 ≤ 400000) {z1 z2 : Int} {a : Int} (hz1 : I32 z1) (hz2 : I32 z2) (e : fallForX s z1 z2 = a) (hroom : (st.map fun v => v.category).sum ≤ 8) (hd : decode cc pc = .ok (.invokevirtual 78, 3)) (kk : K σ (pc + 3) lv (iv a :: st)) : K σ pc lv (iv z2 :: iv z1 :: rv E 0 :: st) := by
  refine cl_L_78 X (c_X7_fallFor l E σ s N hC hN z1 z2 hz1 hz2) fk0 ⟨by omega, by omega⟩ rfl hroom hd rfl (fun v1 σ1 p1 => ?_)
  obtain ⟨rfl, rfl⟩ := p1
  rw [e]
  exact kk
theorem R_blowsTo (X : Ctx l E K RL cc nL f loc) (hR : 7 ≤ f ∧ 180 ≤ loc) (hC : CRep σ s N) (hN : N + 600 ≤ 400000) {z1 z2 z3 : Int} {a : Int} (hz1 : I32 z1) (hz2 : I32 z2) (hz3 : I32 z3) (e : blowsToX s z1 z2 z3 = a) (hroom : (st.map fun v => v.category).sum ≤ 8) (hd : decode cc pc = .ok (.invokevirtual 81, 3)) (kk : K σ (pc + 3) lv (iv a :: st)) : K σ pc lv (iv z3 :: iv z2 :: iv z1 :: rv E 0 :: st) := by
  refine cl_L_81 X (c_X7_blowsTo l E σ s N hC hN z1 z2 z3 hz1 hz2 hz3) fk0 ⟨by omega, by omega⟩ rfl hroom hd rfl (fun v1 σ1 p1 => ?_)
  obtain ⟨rfl, rfl⟩ := p1
  rw [e]
  exact kk
end CALLS2
