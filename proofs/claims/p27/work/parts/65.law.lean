/-! ===== the law's own walk ===== -/
def LawY (K : Mem → Nat → List (Option Value) → List Value → Prop) (E : wEnv) : Prop := (∀ σ pc lv st (k : Int), 0 ≤ k → k < 1000 → (st.map fun v => v.category).sum ≤ 8 → decode cL_law pc = .ok (.invokestatic 202, 3) → (∀ z : Int, K σ (pc + 3) lv (iv z :: st)) → K σ pc lv (iv k :: sv E 3 :: st)) ∧ ∀ σ pc lv, decode cL_law pc = .ok (.ireturn, 1) → K σ pc lv [iv 1]
theorem g_ishrA {l : Launch} {E : wEnv} {K : Mem → Nat → List (Option Value) → List Value → Prop} {own : String} {cc : ByteArray} {nL f loc : Nat} {σ : Mem} {pc : Nat} {lv : List (Option Value)} {st : List Value} (X : Ctx l E K own cc nL f loc) {a b : Int} (hd : decode cc pc = .ok (.ishr, 1)) (kk : ∀ z : Int, K σ (pc + 1) lv (iv z :: st)) : K σ pc lv (iv b :: iv a :: st) := by
  have k := kk (zI a >>> (zI b &&& 31)).toInt
  have e : zI (zI a >>> (zI b &&& 31)).toInt = zI a >>> (zI b &&& 31) := Int32.ofInt_toInt _
  rw [iv, e] at k
  obtain ⟨p, e, R, s, m, args, below, meth, c0, cells, slots, Q, rfl, hx, hb, hml, hown, hts, hf, hlo, hc1, hs1, hCK⟩ := X
  intro H locs ls hP hS hv
  exact lv_ishr hx hb hd (k H locs ls hP hS hv)
set_option maxHeartbeats 4000000 in
set_option maxRecDepth 100000 in
theorem la_1 {l : Launch} {E : wEnv} {K : Mem → Nat → List (Option Value) → List Value → Prop} (X : Ctx l E K RL cL_law 9 10 396) (Y : LawY K E) (next : ∀ σ s, CRep σ s 3000 → SInv s → s.1 0 = 6 → s.1 19 = 0 → K σ 86 [some (sv E 3), some (rv E (0)), some (iv (6)), none, none, none, none, none, none] []) : ∀ (n k : Nat), k + n = 6 → 1 ≤ k → ∀ σ s, CRep σ s (600 * (k : Int) - 600) → SInv s → s.1 0 = k → s.1 19 = 0 → K σ 31 [some (sv E 3), some (rv E (0)), some (iv ((k : Int))), none, none, none, none, none, none] [] := by
  have hR : 7 ≤ (10 : Nat) ∧ 180 ≤ (396 : Nat) := ⟨by decide, by decide⟩
  intro n
  induction n with
  | zero =>
    intro k hk hk1 σ s hC hS h0 h19
    obtain rfl : k = 6 := by omega
    refine g_iload_n X dL_law_31 rfl ?_
    refine g_bipush X dL_law_32 (by decide) ?_
    refine g_icmp_ge X (tgt := 86) dL_law_34 (by decide) ⟨by decide, by decide⟩ ⟨by decide, by decide⟩ (fun _ => ?_) (fun c => absurd c (by decide))
    exact next σ s hC hS h0 h19
  | succ n ih =>
    intro k hk hk1 σ s hC hS h0 h19
    refine g_iload_n X dL_law_31 rfl ?_
    refine g_bipush X dL_law_32 (by decide) ?_
    refine g_icmp_ge X (tgt := 86) dL_law_34 (by decide) ⟨by omega, by omega⟩ ⟨by decide, by decide⟩ (fun c => absurd c (by omega)) (fun _ => ?_)
    refine g_aload_n X dL_law_37 rfl ?_
    refine g_iload_n X dL_law_38 rfl ?_
    refine g_bipush X dL_law_39 (by decide) ?_
    refine g_aload_n X dL_law_41 rfl ?_
    refine g_iload_n X dL_law_42 rfl ?_
    refine Y.1 _ _ _ _ ((k : Int)) (by omega) (by omega) (Nat.le_of_ble_eq_true rfl) dL_law_43 (fun z1 => ?_)
    refine g_sipush X dL_law_46 (by decide) ?_
    refine cl_L_206 X (c_L_part l E σ z1 5000 (by decide) (by decide)) ⟨Nat.le_of_ble_eq_true rfl, Nat.le_of_ble_eq_true rfl⟩ rfl (Nat.le_of_ble_eq_true rfl) dL_law_49 rfl (fun vp1 τp1 pp1 => ?_)
    obtain ⟨rfl, w1, w1a, w1b, rfl⟩ := pp1
    refine g_iadd X dL_law_52 ?_
    refine g_iconst X dL_law_53 ?_
    refine g_aload_n X dL_law_54 rfl ?_
    refine g_bipush X dL_law_55 (by decide) ?_
    refine g_iload_n X dL_law_57 rfl ?_
    refine g_iadd X dL_law_58 ?_
    refine Y.1 _ _ _ _ (20 + (k : Int)) (by omega) (by omega) (Nat.le_of_ble_eq_true rfl) dL_law_59 (fun z2 => ?_)
    refine g_sipush X dL_law_62 (by decide) ?_
    refine cl_L_206 X (c_L_part l E σ z2 500 (by decide) (by decide)) ⟨Nat.le_of_ble_eq_true rfl, Nat.le_of_ble_eq_true rfl⟩ rfl (Nat.le_of_ble_eq_true rfl) dL_law_65 rfl (fun vp2 τp2 pp2 => ?_)
    obtain ⟨rfl, w2, w2a, w2b, rfl⟩ := pp2
    refine g_iadd X dL_law_68 ?_
    obtain ⟨e1, e2, e3⟩ := putX_e (s := s) h0 (by omega) (t := 100 + w1) (h := 1 + w2) (by omega) (by omega)
    refine L_stratum X hR hC (by omega) ⟨by omega, by omega⟩ ⟨by omega, by omega⟩ ⟨by omega, by omega⟩ e1 (Nat.le_of_ble_eq_true rfl) dL_law_69 (fun σ1 hC1 hf1 => ?_)
    have hS1 : SInv (chS s (putR s.1 (k : Int).toNat (100 + w1) (1 + w2))) := by have q := hS.stratum hC.2.1 hC.2.2.1.1 ((k : Int)) (100 + w1) (1 + w2); rw [e1] at q; exact q
    refine g_iload_n X dL_law_72 rfl ?_
    refine g_iconst X dL_law_73 ?_
    refine g_iadd X dL_law_74 ?_
    refine g_eqS X (tgt := 80) dL_law_75 (by decide) ?_
    refine g_iinc X (lw := [some (sv E 3), some (rv E (0)), some (iv ((k : Int) + 1)), none, none, none, none, none, none]) dL_law_80 rfl (by decide) rfl rfl ?_
    refine g_goto X (tgt := 31) dL_law_83 (by decide) ?_
    have ek : ((k + 1 : Nat) : Int) = (k : Int) + 1 := by omega
    have q := ih (k + 1) (by omega) (by omega) σ1 _ (hC1.mono (by omega) (by omega)) hS1 (by rw [ek]; exact e2) (e3.trans h19)
    rw [ek] at q
    exact q
set_option maxHeartbeats 4000000 in
set_option maxRecDepth 100000 in
theorem la_2 {l : Launch} {E : wEnv} {K : Mem → Nat → List (Option Value) → List Value → Prop} (X : Ctx l E K RL cL_law 9 10 396) (Y : LawY K E) (next : ∀ σ s, CRep σ s 9000 → SInv s → s.1 0 = 6 → QI s.1 10 → s.2.2.1 = 4 → K σ 147 [some (sv E 3), some (rv E (0)), some (iv (10)), none, none, none, none, none, none] []) : ∀ (n k : Nat), k + n = 10 → ∀ σ s, CRep σ s (3000 + 600 * (k : Int)) → SInv s → s.1 0 = 6 → QI s.1 k → min 4 k ≤ s.2.2.1 → K σ 88 [some (sv E 3), some (rv E (0)), some (iv ((k : Int))), none, none, none, none, none, none] [] := by
  have hR : 7 ≤ (10 : Nat) ∧ 180 ≤ (396 : Nat) := ⟨by decide, by decide⟩
  intro n
  induction n with
  | zero =>
    intro k hk σ s hC hS h0 hQ h4
    obtain rfl : k = 10 := by omega
    refine g_iload_n X dL_law_88 rfl ?_
    refine g_bipush X dL_law_89 (by decide) ?_
    refine g_icmp_ge X (tgt := 147) dL_law_91 (by decide) ⟨by decide, by decide⟩ ⟨by decide, by decide⟩ (fun _ => ?_) (fun c => absurd c (by decide))
    have h4b := hC.2.2.1.1
    exact next σ s hC hS h0 hQ (by omega)
  | succ n ih =>
    intro k hk σ s hC hS h0 hQ h4
    have h4b := hC.2.2.1.1
    refine g_iload_n X dL_law_88 rfl ?_
    refine g_bipush X dL_law_89 (by decide) ?_
    refine g_icmp_ge X (tgt := 147) dL_law_91 (by decide) ⟨by omega, by omega⟩ ⟨by decide, by decide⟩ (fun c => absurd c (by omega)) (fun _ => ?_)
    refine g_aload_n X dL_law_94 rfl ?_
    refine g_sipush X dL_law_95 (by decide) ?_
    refine g_iload_n X dL_law_98 rfl ?_
    refine g_imul X dL_law_99 ?_
    refine g_aload_n X dL_law_100 rfl ?_
    refine g_bipush X dL_law_101 (by decide) ?_
    refine g_iload_n X dL_law_103 rfl ?_
    refine g_iadd X dL_law_104 ?_
    refine Y.1 _ _ _ _ (40 + (k : Int)) (by omega) (by omega) (Nat.le_of_ble_eq_true rfl) dL_law_105 (fun z1 => ?_)
    refine g_sipush X dL_law_108 (by decide) ?_
    refine cl_L_206 X (c_L_part l E σ z1 5000 (by decide) (by decide)) ⟨Nat.le_of_ble_eq_true rfl, Nat.le_of_ble_eq_true rfl⟩ rfl (Nat.le_of_ble_eq_true rfl) dL_law_111 rfl (fun vp1 τp1 pp1 => ?_)
    obtain ⟨rfl, w1, w1a, w1b, rfl⟩ := pp1
    refine g_sipush X dL_law_114 (by decide) ?_
    refine g_aload_n X dL_law_117 rfl ?_
    refine g_bipush X dL_law_118 (by decide) ?_
    refine g_iload_n X dL_law_120 rfl ?_
    refine g_iadd X dL_law_121 ?_
    refine Y.1 _ _ _ _ (60 + (k : Int)) (by omega) (by omega) (Nat.le_of_ble_eq_true rfl) dL_law_122 (fun z2 => ?_)
    refine g_sipush X dL_law_125 (by decide) ?_
    refine cl_L_206 X (c_L_part l E σ z2 9000 (by decide) (by decide)) ⟨Nat.le_of_ble_eq_true rfl, Nat.le_of_ble_eq_true rfl⟩ rfl (Nat.le_of_ble_eq_true rfl) dL_law_128 rfl (fun vp2 τp2 pp2 => ?_)
    obtain ⟨rfl, w2, w2a, w2b, rfl⟩ := pp2
    refine g_iadd X dL_law_131 ?_
    obtain ⟨e1, e2⟩ := pileX_e (s := s) (k := k) (by omega) hQ (y := w1) (t := 1000 + w2) (by omega) (by omega)
    have hQ1 := hQ.place (y := w1) (t := 1000 + w2)
    refine L_pile X hR hC (by omega) ⟨by omega, by omega⟩ ⟨by omega, by omega⟩ ⟨by omega, by omega⟩ e1 (Nat.le_of_ble_eq_true rfl) dL_law_132 (fun σ1 hC1 hf1 => ?_)
    have hS1 : SInv (chS s (placeR s.1 (500 * ((k : Int))) w1 (1000 + w2))) := by have q := hS.pile hC.2.1 hC.2.2.1.1 (500 * ((k : Int))) w1 (1000 + w2); rw [e1] at q; exact q
    refine g_iload_n X dL_law_135 rfl ?_
    refine g_eqS X (tgt := 141) dL_law_136 (by decide) ?_
    refine g_iinc X (lw := [some (sv E 3), some (rv E (0)), some (iv ((k : Int) + 1)), none, none, none, none, none, none]) dL_law_141 rfl (by decide) rfl rfl ?_
    refine g_goto X (tgt := 88) dL_law_144 (by decide) ?_
    have ek : ((k + 1 : Nat) : Int) = (k : Int) + 1 := by omega
    have q := ih (k + 1) (by omega) σ1 _ (hC1.mono (by omega) (by omega)) hS1 (e2.trans h0) hQ1 (by show min 4 (k + 1) ≤ min 4 (s.2.2.1 + 1); omega)
    rw [ek] at q
    exact q
set_option maxHeartbeats 4000000 in
set_option maxRecDepth 100000 in
theorem la_3 {l : Launch} {E : wEnv} {K : Mem → Nat → List (Option Value) → List Value → Prop} (X : Ctx l E K RL cL_law 9 10 396) {σ : Mem} {s : St} (hC : CRep σ s 9000) (hS : SInv s) (h0 : s.1 0 = 6) (hQ : QI s.1 10) (next : ∀ σ', CRep σ' s 9000 → K σ' 259 [some (sv E 3), some (rv E (0)), some (iv (10)), none, none, none, none, none, none] []) : K σ 147 [some (sv E 3), some (rv E (0)), some (iv (10)), none, none, none, none, none, none] [] := by
  have hR : 7 ≤ (10 : Nat) ∧ 180 ≤ (396 : Nat) := ⟨by decide, by decide⟩
  have h19 := hQ.1
  have hq := hC.2.1.2.2.2.2.2.2 0 (by omega)
  have hy0 : pileOfX s 0 1 = s.1 (24 + 91 * 0 + 1) := by
    unfold pileOfX
    rw [if_pos ⟨⟨by decide, by omega⟩, by decide⟩]
    rfl
  have hy : 0 ≤ pileOfX s 0 1 ∧ pileOfX s 0 1 ≤ 20000 := by rw [hy0]; exact hq.2.1
  have e19 : (s.1 19).toNat = 10 := by omega
  have q1 : stratumX s 6 100 1 = (-3, s) := by
    unfold stratumX
    rw [if_pos ⟨by decide, by omega, by decide⟩]
    exact if_pos rfl
  have q2 : stratumX s 6 99 1 = (-1, s) := by
    unfold stratumX
    exact if_neg (by omega)
  have q3 : pileX s 20000 20000 1000 = (-3, s) := by
    unfold pileX
    rw [if_pos (by decide), e19, if_neg (hQ.free (fun j hj => by omega))]
    exact if_pos (by omega)
  have q4 : pileX s 0 (pileOfX s 0 1) 1000 = (-2, s) := by
    have ht : takenP s.1 0 (pileOfX s 0 1) 0 = true := by
      show (decide (s.1 (24 + 91 * 0 + 0) = 0) && decide (s.1 (24 + 91 * 0 + 1) = pileOfX s 0 1)) = true
      have hx : s.1 (24 + 91 * 0 + 0) = 0 := (hQ.2 0 (by decide)).1
      rw [decide_eq_true hx, decide_eq_true hy0.symm]
      rfl
    unfold pileX
    rw [if_pos ⟨by decide, hy, by decide⟩]
    exact if_pos ((cnt_pos _).mpr ⟨0, by omega, ht⟩)
  have q5 : orderX s 100 1 0 = -2 := by
    unfold orderX
    rw [if_pos (by decide)]
    exact if_pos hQ.fresh
  have q6 : leastX s 3000 20 = -2 := by
    unfold leastX
    rw [if_pos (by decide)]
    exact if_pos hQ.fresh
  have q7 : orderX s 100 1 (-1) = -1 := by
    unfold orderX
    exact if_neg (by decide)
  refine g_aload_n X dL_law_147 rfl ?_
  refine g_bipush X dL_law_148 (by decide) ?_
  refine g_bipush X dL_law_150 (by decide) ?_
  refine g_iconst X dL_law_152 ?_
  refine N_stratum X hR hC (by decide) (a := -3) ⟨by decide, by decide⟩ ⟨by decide, by decide⟩ ⟨by decide, by decide⟩ q1 (Nat.le_of_ble_eq_true rfl) dL_law_153 (fun σ1 hC1 hf1 => ?_)
  refine g_bipush X dL_law_156 (by decide) ?_
  refine g_neS X (tgt := 257) dL_law_158 (by decide) ?_
  refine g_aload_n X dL_law_161 rfl ?_
  refine g_bipush X dL_law_162 (by decide) ?_
  refine g_bipush X dL_law_164 (by decide) ?_
  refine g_iconst X dL_law_166 ?_
  refine N_stratum X hR hC1 (by decide) (a := -1) ⟨by decide, by decide⟩ ⟨by decide, by decide⟩ ⟨by decide, by decide⟩ q2 (Nat.le_of_ble_eq_true rfl) dL_law_167 (fun σ2 hC2 hf2 => ?_)
  refine g_iconst X dL_law_170 ?_
  refine g_neS X (tgt := 257) dL_law_171 (by decide) ?_
  refine g_aload_n X dL_law_174 rfl ?_
  refine g_sipush X dL_law_175 (by decide) ?_
  refine g_sipush X dL_law_178 (by decide) ?_
  refine g_sipush X dL_law_181 (by decide) ?_
  refine N_pile X hR hC2 (by decide) (a := -3) ⟨by decide, by decide⟩ ⟨by decide, by decide⟩ ⟨by decide, by decide⟩ q3 (Nat.le_of_ble_eq_true rfl) dL_law_184 (fun σ3 hC3 hf3 => ?_)
  refine g_bipush X dL_law_187 (by decide) ?_
  refine g_neS X (tgt := 257) dL_law_189 (by decide) ?_
  refine g_aload_n X dL_law_192 rfl ?_
  refine g_iconst X dL_law_193 ?_
  refine g_aload_n X dL_law_194 rfl ?_
  refine g_iconst X dL_law_195 ?_
  refine g_iconst X dL_law_196 ?_
  refine R_pileOf X hR hC3 (by decide) (a := pileOfX s 0 1) ⟨by decide, by decide⟩ ⟨by decide, by decide⟩ rfl (Nat.le_of_ble_eq_true rfl) dL_law_197 ?_
  refine g_sipush X dL_law_200 (by decide) ?_
  refine N_pile X hR hC3 (by decide) (a := -2) ⟨by decide, by decide⟩ ⟨by omega, by omega⟩ ⟨by decide, by decide⟩ q4 (Nat.le_of_ble_eq_true rfl) dL_law_203 (fun σ4 hC4 hf4 => ?_)
  refine g_bipush X dL_law_206 (by decide) ?_
  refine g_neS X (tgt := 257) dL_law_208 (by decide) ?_
  refine g_aload_n X dL_law_211 rfl ?_
  refine g_bipush X dL_law_212 (by decide) ?_
  refine g_iconst X dL_law_214 ?_
  refine g_iconst X dL_law_215 ?_
  refine R_order X hR hC4 (by decide) (a := -2) ⟨by decide, by decide⟩ ⟨by decide, by decide⟩ ⟨by decide, by decide⟩ q5 (Nat.le_of_ble_eq_true rfl) dL_law_216 (fun σ5 hC5 hf5 => ?_)
  refine g_bipush X dL_law_219 (by decide) ?_
  refine g_neS X (tgt := 257) dL_law_221 (by decide) ?_
  refine g_aload_n X dL_law_224 rfl ?_
  refine g_sipush X dL_law_225 (by decide) ?_
  refine g_bipush X dL_law_228 (by decide) ?_
  refine R_leastLift X hR hC5 (by decide) (a := -2) ⟨by decide, by decide⟩ ⟨by decide, by decide⟩ q6 (Nat.le_of_ble_eq_true rfl) dL_law_230 (fun σ6 hC6 hf6 => ?_)
  refine g_bipush X dL_law_233 (by decide) ?_
  refine g_neS X (tgt := 257) dL_law_235 (by decide) ?_
  refine g_aload_n X dL_law_238 rfl ?_
  refine g_bipush X dL_law_239 (by decide) ?_
  refine g_iconst X dL_law_241 ?_
  refine g_iconst X dL_law_242 ?_
  refine R_order X hR hC6 (by decide) (a := -1) ⟨by decide, by decide⟩ ⟨by decide, by decide⟩ ⟨by decide, by decide⟩ q7 (Nat.le_of_ble_eq_true rfl) dL_law_243 (fun σ7 hC7 hf7 => ?_)
  refine g_iconst X dL_law_246 ?_
  refine g_neS X (tgt := 257) dL_law_247 (by decide) ?_
  refine g_aload_n X dL_law_250 rfl ?_
  refine cl_L_191 X (c_L_refused l E σ7 s 9000 hC7 (by decide) hS) ⟨Nat.le_of_ble_eq_true rfl, Nat.le_of_ble_eq_true rfl⟩ rfl (Nat.le_of_ble_eq_true rfl) dL_law_251 rfl (fun v8 σ8 p8 => ?_)
  obtain ⟨rfl, hC8, hf8⟩ := p8
  refine g_neY X (tgt := 259) dL_law_254 (by decide) ?_
  exact next σ8 hC8
set_option maxHeartbeats 4000000 in
set_option maxRecDepth 100000 in
theorem la_tail {l : Launch} {E : wEnv} {K : Mem → Nat → List (Option Value) → List Value → Prop} (X : Ctx l E K RL cL_law 9 10 396) (hfl : E.2.2.2 9 = 1) {σ : Mem} {s : St} {N a x p kd k : Int} {c : Nat} (hC : CRep σ s N) (hN : N + 600 ≤ 400000) (hS : SInv s) (hB : BInv s.1) (h19 : s.1 19 = 10) (ha : -2 ≤ a ∧ a ≤ 100000) (hp : 0 ≤ p ∧ p < 10) (hk : 0 ≤ kd ∧ kd < 7) (hc : c < 12) (hdown : 2 < kd → a = -2 → pileOfX s p 3 = pileOfX s p 2) (hlast : a < 0 → σ 12 c = hashR s.1) (nextP : 0 ≤ a → K σ 545 [some (sv E 3), some (rv E (0)), some (rv E (12)), some (iv ((c : Int) + 1)), some (iv (k)), some (iv (x)), some (iv (p)), some (iv (kd)), some (iv (a))] []) (nextN : a < 0 → ∀ σ', CRep σ' s N → frM σ σ' → K σ' 545 [some (sv E 3), some (rv E (0)), some (rv E (12)), some (iv ((c : Int) + 0)), some (iv (k)), some (iv (x)), some (iv (p)), some (iv (kd)), some (iv (a))] []) : K σ 445 [some (sv E 3), some (rv E (0)), some (rv E (12)), some (iv ((c : Int))), some (iv (k)), some (iv (x)), some (iv (p)), some (iv (kd)), none] [iv a] := by
  have hR : 7 ≤ (10 : Nat) ∧ 180 ≤ (396 : Nat) := ⟨by decide, by decide⟩
  have hkp := hC.2.1.kept (i := p.toNat) (by omega)
  have hq4 := (hC.2.1.2.2.2.2.2.2 p.toNat (by omega)).2.2.2.2.1
  have hN2 := hC.2.1.2.2.2.2.2.1.2.2.2.2
  have e12 := pileOfX_12 (s := s) (p := p) ⟨by omega, by omega⟩
  have e4 := pileOfX_4 (s := s) (p := p) ⟨by omega, by omega⟩
  have ke := kept_eq hB (p := p) ⟨by omega, by omega⟩
  have j514 : K σ 514 [some (sv E 3), some (rv E (0)), some (rv E (12)), some (iv ((c : Int))), some (iv (k)), some (iv (x)), some (iv (p)), some (iv (kd)), some (iv (a))] [] := by
    refine g_iload_n X dL_law_514 rfl ?_
    refine g_iload X dL_law_515 rfl ?_
    refine g_if_lt X (tgt := 524) dL_law_517 (by decide) ⟨by omega, by omega⟩ (fun hneg => ?_) (fun hpos => ?_)
    · skip
      refine g_iconst X dL_law_524 ?_
      refine g_iadd X dL_law_525 ?_
      refine g_istore_n X (lw := [some (sv E 3), some (rv E (0)), some (rv E (12)), some (iv ((c : Int) + 0)), some (iv (k)), some (iv (x)), some (iv (p)), some (iv (kd)), some (iv (a))]) dL_law_526 (by decide) rfl rfl ?_
      refine g_iload X dL_law_527 rfl ?_
      refine g_if_ge X (tgt := 545) dL_law_529 (by decide) ⟨by omega, by omega⟩ (fun c => absurd c (by omega)) (fun _ => ?_)
      refine g_aload_n X dL_law_532 rfl ?_
      refine cl_L_42 X (c_L_state l E σ s N hC hN hS) ⟨Nat.le_of_ble_eq_true rfl, Nat.le_of_ble_eq_true rfl⟩ rfl (Nat.le_of_ble_eq_true rfl) dL_law_533 rfl (fun v1 σ1 p1 => ?_)
      obtain ⟨rfl, hC1, hf1⟩ := p1
      have e12 : σ1 12 c = hashR s.1 := by rw [hf1 12 (by decide) (by decide)]; exact hlast hneg
      have ec : ((c : Int) + 0).toNat = c := by omega
      refine g_aload_n X dL_law_536 rfl ?_
      refine g_iload_n X dL_law_537 rfl ?_
      refine g_lald X (z := hashR s.1) fk12 hfl fl12 (by omega) (by omega) (by decide) (by rw [ec]; exact e12) dL_law_538 ?_
      refine g_lcmpS X dL_law_539 ?_
      refine g_eqY X (tgt := 545) dL_law_540 (by decide) ?_
      exact nextN hneg σ1 hC1 hf1
    · skip
      refine g_iconst X dL_law_520 ?_
      refine g_goto X (tgt := 525) dL_law_521 (by decide) ?_
      refine g_iadd X dL_law_525 ?_
      refine g_istore_n X (lw := [some (sv E 3), some (rv E (0)), some (rv E (12)), some (iv ((c : Int) + 1)), some (iv (k)), some (iv (x)), some (iv (p)), some (iv (kd)), some (iv (a))]) dL_law_526 (by decide) rfl rfl ?_
      refine g_iload X dL_law_527 rfl ?_
      refine g_if_ge X (tgt := 545) dL_law_529 (by decide) ⟨by omega, by omega⟩ (fun _ => ?_) (fun c => absurd c (by omega))
      exact nextP hpos
  have j477 : K σ 477 [some (sv E 3), some (rv E (0)), some (rv E (12)), some (iv ((c : Int))), some (iv (k)), some (iv (x)), some (iv (p)), some (iv (kd)), some (iv (a))] [] := by
    refine g_aload_n X dL_law_477 rfl ?_
    refine g_iload X dL_law_478 rfl ?_
    refine g_bipush X dL_law_480 (by decide) ?_
    refine R_pileOf X hR hC hN (a := pileOfX s p 12) ⟨by omega, by omega⟩ ⟨by decide, by decide⟩ rfl (Nat.le_of_ble_eq_true rfl) dL_law_482 ?_
    refine g_aload_n X dL_law_485 rfl ?_
    refine g_iload X dL_law_486 rfl ?_
    refine g_iconst X dL_law_488 ?_
    refine R_pileOf X hR hC hN (a := pileOfX s p 4) ⟨by omega, by omega⟩ ⟨by decide, by decide⟩ rfl (Nat.le_of_ble_eq_true rfl) dL_law_489 ?_
    refine g_bipush X dL_law_492 (by decide) ?_
    refine g_icmp_le X (tgt := 502) dL_law_494 (by decide) ⟨by omega, by omega⟩ ⟨by decide, by decide⟩ (fun hle => ?_) (fun hgt => ?_)
    · skip
      refine g_aload_n X dL_law_502 rfl ?_
      refine g_iload X dL_law_503 rfl ?_
      refine g_iconst X dL_law_505 ?_
      refine R_pileOf X hR hC hN (a := pileOfX s p 4) ⟨by omega, by omega⟩ ⟨by decide, by decide⟩ rfl (Nat.le_of_ble_eq_true rfl) dL_law_506 ?_
      have ek : pileOfX s p 12 = pileOfX s p 4 := by omega
      rw [ek]
      refine g_eqS X (tgt := 514) dL_law_509 (by decide) ?_
      exact j514
    · skip
      refine g_bipush X dL_law_497 (by decide) ?_
      refine g_goto X (tgt := 509) dL_law_499 (by decide) ?_
      have ek : pileOfX s p 12 = 40 := by omega
      rw [ek]
      refine g_eqS X (tgt := 514) dL_law_509 (by decide) ?_
      exact j514
  refine g_istore X (lw := [some (sv E 3), some (rv E (0)), some (rv E (12)), some (iv ((c : Int))), some (iv (k)), some (iv (x)), some (iv (p)), some (iv (kd)), some (iv (a))]) dL_law_445 (by decide) rfl rfl ?_
  refine g_iload X dL_law_447 rfl ?_
  refine g_iconst X dL_law_449 ?_
  refine g_icmp_le X (tgt := 477) dL_law_450 (by decide) ⟨by omega, by omega⟩ ⟨by decide, by decide⟩ (fun _ => j477) (fun hk2 => ?_)
  · skip
    refine g_iload X dL_law_453 rfl ?_
    refine g_bipush X dL_law_455 (by decide) ?_
    refine g_icmp_ne X (tgt := 477) dL_law_457 (by decide) ⟨by omega, by omega⟩ ⟨by decide, by decide⟩ (fun _ => j477) (fun h2 => ?_)
    refine g_aload_n X dL_law_460 rfl ?_
    refine g_iload X dL_law_461 rfl ?_
    refine g_iconst X dL_law_463 ?_
    refine R_pileOf X hR hC hN (a := pileOfX s p 3) ⟨by omega, by omega⟩ ⟨by decide, by decide⟩ rfl (Nat.le_of_ble_eq_true rfl) dL_law_464 ?_
    refine g_aload_n X dL_law_467 rfl ?_
    refine g_iload X dL_law_468 rfl ?_
    refine g_iconst X dL_law_470 ?_
    refine R_pileOf X hR hC hN (a := pileOfX s p 2) ⟨by omega, by omega⟩ ⟨by decide, by decide⟩ rfl (Nat.le_of_ble_eq_true rfl) dL_law_471 ?_
    rw [hdown (by omega) h2]
    refine g_neS X (tgt := 512) dL_law_474 (by decide) ?_
    exact j477
set_option maxHeartbeats 4000000 in
set_option maxRecDepth 100000 in
theorem la_turn {l : Launch} {E : wEnv} {K : Mem → Nat → List (Option Value) → List Value → Prop} (X : Ctx l E K RL cL_law 9 10 396) (Y : LawY K E) (hfl : E.2.2.2 9 = 1) {σ : Mem} {s : St} {N k : Int} {c : Nat} {W : Nat → Row} (hM : MI σ s N c W) (hN2 : N + 600 + 600 ≤ 400000) (hk : 0 ≤ k ∧ k < 12) (hc : c < 12) (nextP : ∀ σ' s' W', MI σ' s' (N + 600) (c + 1) W' → K σ' 545 [some (sv E 3), some (rv E (0)), some (rv E (12)), some (iv ((c : Int) + 1)), some (iv (k)), none, none, none, none] []) (nextN : ∀ σ', MI σ' s (N + 600) c W → K σ' 545 [some (sv E 3), some (rv E (0)), some (rv E (12)), some (iv ((c : Int))), some (iv (k)), none, none, none, none] []) : K σ 276 [some (sv E 3), some (rv E (0)), some (rv E (12)), some (iv ((c : Int))), some (iv (k)), none, none, none, none] [] := by
  have hR : 7 ≤ (10 : Nat) ∧ 180 ≤ (396 : Nat) := ⟨by decide, by decide⟩
  have hN : N + 600 ≤ 400000 := by omega
  have hNlt : N < 400000 := by omega
  obtain ⟨hC, hS, hB, h19, h4, hrow, hhist⟩ := hM
  refine g_aload_n X dL_law_276 rfl ?_
  refine g_bipush X dL_law_277 (by decide) ?_
  refine g_iload X dL_law_279 rfl ?_
  refine g_iadd X dL_law_281 ?_
  refine Y.1 _ _ _ _ (80 + k) (by omega) (by omega) (Nat.le_of_ble_eq_true rfl) dL_law_282 (fun z1 => ?_)
  refine g_istore X (lw := [some (sv E 3), some (rv E (0)), some (rv E (12)), some (iv ((c : Int))), some (iv (k)), some (iv (z1)), none, none, none]) dL_law_285 (by decide) rfl rfl ?_
  refine g_iload X dL_law_287 rfl ?_
  refine g_iconst X dL_law_289 ?_
  refine g_ishrA X dL_law_290 (fun z2 => ?_)
  refine g_bipush X dL_law_291 (by decide) ?_
  refine cl_L_206 X (c_L_part l E σ z2 10 (by decide) (by decide)) ⟨Nat.le_of_ble_eq_true rfl, Nat.le_of_ble_eq_true rfl⟩ rfl (Nat.le_of_ble_eq_true rfl) dL_law_293 rfl (fun vp1 τp1 pp1 => ?_)
  obtain ⟨rfl, w1, w1a, w1b, rfl⟩ := pp1
  refine g_istore X (lw := [some (sv E 3), some (rv E (0)), some (rv E (12)), some (iv ((c : Int))), some (iv (k)), some (iv (z1)), some (iv (w1)), none, none]) dL_law_296 (by decide) rfl rfl ?_
  refine g_aload_n X dL_law_298 rfl ?_
  refine g_iload_n X dL_law_299 rfl ?_
  refine g_aload_n X dL_law_300 rfl ?_
  refine cl_L_42 X (c_L_state l E σ s N hC hN hS) ⟨Nat.le_of_ble_eq_true rfl, Nat.le_of_ble_eq_true rfl⟩ rfl (Nat.le_of_ble_eq_true rfl) dL_law_301 rfl (fun v1 σ1 p1 => ?_)
  obtain ⟨rfl, hC1, hf1⟩ := p1
  have ec : (c : Int).toNat = c := by omega
  refine g_last X fk12 hfl fl12 (by omega) (by omega) (by decide) dL_law_304 ?_
  rw [ec]
  have hC2 : CRep (up σ1 12 c (hashR s.1)) s N := hC1.fr (fun x hx => up_neC _ _ (by omega))
  have h12 : (up σ1 12 c (hashR s.1)) 12 c = hashR s.1 := up_same _ _ _ _
  have hM2 : MI (up σ1 12 c (hashR s.1)) s N c W := ⟨hC2, hS, hB, h19, h4, fun j hj => by rw [up_ne _ _ (Or.inr (by omega)), hf1 12 (by decide) (by decide)]; exact hrow j hj, hhist⟩
  generalize up σ1 12 c (hashR s.1) = σ2 at hC2 h12 hM2 ⊢
  refine g_iload X dL_law_305 rfl ?_
  refine g_bipush X dL_law_307 (by decide) ?_
  refine cl_L_206 X (c_L_part l E σ2 z1 7 (by decide) (by decide)) ⟨Nat.le_of_ble_eq_true rfl, Nat.le_of_ble_eq_true rfl⟩ rfl (Nat.le_of_ble_eq_true rfl) dL_law_309 rfl (fun vp2 τp2 pp2 => ?_)
  obtain ⟨rfl, w2, w2a, w2b, rfl⟩ := pp2
  refine g_istore X (lw := [some (sv E 3), some (rv E (0)), some (rv E (12)), some (iv ((c : Int))), some (iv (k)), some (iv (z1)), some (iv (w1)), some (iv (w2)), none]) dL_law_312 (by decide) rfl rfl ?_
  refine g_iload X dL_law_314 rfl ?_
  have join : ∀ (σ3 : Mem) (s3 : St) (a : Int), CRep σ3 s3 (N + 600) → SInv s3 → SR s a s3 → (2 < w2 → SD s3 w1 a) → frM σ2 σ3 → K σ3 445 [some (sv E 3), some (rv E (0)), some (rv E (12)), some (iv ((c : Int))), some (iv (k)), some (iv (z1)), some (iv (w1)), some (iv (w2)), none] [iv a] := by
    intro σ3 s3 a hC3 hS3 hR3 hD3 hf3
    rcases hM2.step h12 hC3 hS3 hR3 hf3 with ⟨ha, hM⟩ | ⟨rfl, rfl, hM, hl⟩
    · refine la_tail X hfl hM.1 hN2 hM.2.1 hM.2.2.1 hM.2.2.2.1 ⟨by omega, ha.2⟩ ⟨by omega, by omega⟩ ⟨by omega, by omega⟩ hc hD3 (fun h => absurd h (by omega)) (fun _ => ?_) (fun h => absurd h (by omega))
      refine g_kill X 5 (lw := [some (sv E 3), some (rv E (0)), some (rv E (12)), some (iv ((c : Int) + 1)), some (iv (k)), none, some (iv (w1)), some (iv (w2)), some (iv (a))]) rfl ?_
      refine g_kill X 6 (lw := [some (sv E 3), some (rv E (0)), some (rv E (12)), some (iv ((c : Int) + 1)), some (iv (k)), none, none, some (iv (w2)), some (iv (a))]) rfl ?_
      refine g_kill X 7 (lw := [some (sv E 3), some (rv E (0)), some (rv E (12)), some (iv ((c : Int) + 1)), some (iv (k)), none, none, none, some (iv (a))]) rfl ?_
      refine g_kill X 8 (lw := [some (sv E 3), some (rv E (0)), some (rv E (12)), some (iv ((c : Int) + 1)), some (iv (k)), none, none, none, none]) rfl ?_
      exact nextP _ _ _ hM
    · refine la_tail X hfl hM.1 hN2 hM.2.1 hM.2.2.1 hM.2.2.2.1 ⟨by decide, by decide⟩ ⟨by omega, by omega⟩ ⟨by omega, by omega⟩ hc hD3 (fun _ => hl) (fun h => absurd h (by decide)) (fun _ σ4 hC4 hf4 => ?_)
      refine g_kill X 5 (lw := [some (sv E 3), some (rv E (0)), some (rv E (12)), some (iv ((c : Int) + 0)), some (iv (k)), none, some (iv (w1)), some (iv (w2)), some (iv (-2))]) rfl ?_
      refine g_kill X 6 (lw := [some (sv E 3), some (rv E (0)), some (rv E (12)), some (iv ((c : Int) + 0)), some (iv (k)), none, none, some (iv (w2)), some (iv (-2))]) rfl ?_
      refine g_kill X 7 (lw := [some (sv E 3), some (rv E (0)), some (rv E (12)), some (iv ((c : Int) + 0)), some (iv (k)), none, none, none, some (iv (-2))]) rfl ?_
      refine g_kill X 8 (lw := [some (sv E 3), some (rv E (0)), some (rv E (12)), some (iv ((c : Int) + 0)), some (iv (k)), none, none, none, none]) rfl ?_
      have e0 : (c : Int) + 0 = c := by omega
      rw [e0]
      obtain ⟨-, m2, m3, m4, m5, m6, m7⟩ := hM
      exact nextN σ4 ⟨hC4, m2, m3, m4, m5, fun j hj => by rw [hf4 12 (by decide) (by decide)]; exact m6 j hj, m7⟩
  refine g_if_ne X (tgt := 326) dL_law_316 (by decide) ⟨by omega, by omega⟩ (fun h0 => ?_) (fun h0 => ?_)
  rotate_left
  · skip
    refine g_aload_n X dL_law_319 rfl ?_
    refine L_cut X hR hC2 hN rfl (Nat.le_of_ble_eq_true rfl) dL_law_320 (fun σ3 hC3 hf3 => ?_)
    refine g_goto X (tgt := 445) dL_law_323 (by decide) ?_
    exact join σ3 _ _ hC3 (hS.cut hC2.2.1 hC2.2.2.1.1) (SR.cut hC2.2.1 hB) (fun h => absurd h (by omega)) hf3
  refine g_iload X dL_law_326 rfl ?_
  refine g_iconst X dL_law_328 ?_
  refine g_icmp_ne X (tgt := 349) dL_law_329 (by decide) ⟨by omega, by omega⟩ ⟨by decide, by decide⟩ (fun h1 => ?_) (fun h1 => ?_)
  rotate_left
  · skip
    refine g_aload_n X dL_law_332 rfl ?_
    refine g_iconst X dL_law_333 ?_
    refine g_iload X dL_law_334 rfl ?_
    refine g_iconst X dL_law_336 ?_
    refine g_ishrA X dL_law_337 (fun z3 => ?_)
    refine g_bipush X dL_law_338 (by decide) ?_
    refine cl_L_206 X (c_L_part l E σ2 z3 51 (by decide) (by decide)) ⟨Nat.le_of_ble_eq_true rfl, Nat.le_of_ble_eq_true rfl⟩ rfl (Nat.le_of_ble_eq_true rfl) dL_law_340 rfl (fun vp3 τp3 pp3 => ?_)
    obtain ⟨rfl, w3, w3a, w3b, rfl⟩ := pp3
    refine L_set X hR hC2 hN ⟨by decide, by decide⟩ ⟨by omega, by omega⟩ rfl (Nat.le_of_ble_eq_true rfl) dL_law_343 (fun σ3 hC3 hf3 => ?_)
    refine g_goto X (tgt := 445) dL_law_346 (by decide) ?_
    exact join σ3 _ _ hC3 (hS.set hC2.2.1 hC2.2.2.1.1 _ _) (SR.set hC2.2.1 hB ⟨by omega, by omega⟩) (fun h => absurd h (by omega)) hf3
  refine g_iload X dL_law_349 rfl ?_
  refine g_iconst X dL_law_351 ?_
  refine g_icmp_ne X (tgt := 376) dL_law_352 (by decide) ⟨by omega, by omega⟩ ⟨by decide, by decide⟩ (fun h2 => ?_) (fun h2 => ?_)
  rotate_left
  · skip
    refine g_aload_n X dL_law_355 rfl ?_
    refine g_iload X dL_law_356 rfl ?_
    refine g_iconst X dL_law_358 ?_
    refine g_iload X dL_law_359 rfl ?_
    refine g_iconst X dL_law_361 ?_
    refine g_ishrA X dL_law_362 (fun z4 => ?_)
    refine g_sipush X dL_law_363 (by decide) ?_
    refine cl_L_206 X (c_L_part l E σ2 z4 9000 (by decide) (by decide)) ⟨Nat.le_of_ble_eq_true rfl, Nat.le_of_ble_eq_true rfl⟩ rfl (Nat.le_of_ble_eq_true rfl) dL_law_366 rfl (fun vp4 τp4 pp4 => ?_)
    obtain ⟨rfl, w4, w4a, w4b, rfl⟩ := pp4
    refine g_iadd X dL_law_369 ?_
    refine L_test X hR hC2 hN ⟨by omega, by omega⟩ ⟨by omega, by omega⟩ rfl (Nat.le_of_ble_eq_true rfl) dL_law_370 (fun σ3 hC3 hf3 => ?_)
    refine g_goto X (tgt := 445) dL_law_373 (by decide) ?_
    exact join σ3 _ _ hC3 (hS.test hC2.2.1 hC2.2.2.1.1 _ _) (SR.test hC2.2.1 hB ⟨by omega, by omega⟩ ⟨by omega, by omega⟩) (fun h => absurd h (by omega)) hf3
  refine g_iload X dL_law_376 rfl ?_
  refine g_iconst X dL_law_378 ?_
  refine g_icmp_ge X (tgt := 404) dL_law_379 (by decide) ⟨by omega, by omega⟩ ⟨by decide, by decide⟩ (fun h5 => ?_) (fun h5 => ?_)
  rotate_left
  · skip
    refine g_aload_n X dL_law_382 rfl ?_
    refine g_iload X dL_law_383 rfl ?_
    refine g_bipush X dL_law_385 (by decide) ?_
    refine g_iload X dL_law_387 rfl ?_
    refine g_iconst X dL_law_389 ?_
    refine g_ishrA X dL_law_390 (fun z5 => ?_)
    refine g_sipush X dL_law_391 (by decide) ?_
    refine cl_L_206 X (c_L_part l E σ2 z5 2901 (by decide) (by decide)) ⟨Nat.le_of_ble_eq_true rfl, Nat.le_of_ble_eq_true rfl⟩ rfl (Nat.le_of_ble_eq_true rfl) dL_law_394 rfl (fun vp5 τp5 pp5 => ?_)
    obtain ⟨rfl, w5, w5a, w5b, rfl⟩ := pp5
    refine g_iadd X dL_law_397 ?_
    obtain ⟨r1, r2⟩ := SR.strike hC2.2.1 hNlt hB (p := w1) (f := 100 + w5) ⟨by omega, by omega⟩ ⟨by omega, by omega⟩
    refine L_strike X hR hC2 hN ⟨by omega, by omega⟩ ⟨by omega, by omega⟩ rfl (Nat.le_of_ble_eq_true rfl) dL_law_398 (fun σ3 hC3 hf3 => ?_)
    refine g_goto X (tgt := 445) dL_law_401 (by decide) ?_
    exact join σ3 _ _ hC3 (hS.strike hC2.2.1 hN hC2.2.2.1.1 _ _) r1 (fun _ => r2) hf3
  refine g_aload_n X dL_law_404 rfl ?_
  refine g_iload X dL_law_405 rfl ?_
  refine g_bipush X dL_law_407 (by decide) ?_
  refine g_iload X dL_law_409 rfl ?_
  refine g_iconst X dL_law_411 ?_
  refine g_ishrA X dL_law_412 (fun z6 => ?_)
  refine g_sipush X dL_law_413 (by decide) ?_
  refine cl_L_206 X (c_L_part l E σ2 z6 2901 (by decide) (by decide)) ⟨Nat.le_of_ble_eq_true rfl, Nat.le_of_ble_eq_true rfl⟩ rfl (Nat.le_of_ble_eq_true rfl) dL_law_416 rfl (fun vp6 τp6 pp6 => ?_)
  obtain ⟨rfl, w6, w6a, w6b, rfl⟩ := pp6
  refine g_iadd X dL_law_419 ?_
  refine g_iload X dL_law_420 rfl ?_
  refine g_bipush X dL_law_422 (by decide) ?_
  refine g_ishrA X dL_law_424 (fun z7 => ?_)
  refine g_bipush X dL_law_425 (by decide) ?_
  refine cl_L_206 X (c_L_part l E σ2 z7 50 (by decide) (by decide)) ⟨Nat.le_of_ble_eq_true rfl, Nat.le_of_ble_eq_true rfl⟩ rfl (Nat.le_of_ble_eq_true rfl) dL_law_427 rfl (fun vp7 τp7 pp7 => ?_)
  obtain ⟨rfl, w7, w7a, w7b, rfl⟩ := pp7
  refine g_iconst X dL_law_430 ?_
  refine g_iload X dL_law_431 rfl ?_
  refine g_bipush X dL_law_433 (by decide) ?_
  refine g_ishrA X dL_law_435 (fun z8 => ?_)
  refine g_bipush X dL_law_436 (by decide) ?_
  refine cl_L_206 X (c_L_part l E σ2 z8 60 (by decide) (by decide)) ⟨Nat.le_of_ble_eq_true rfl, Nat.le_of_ble_eq_true rfl⟩ rfl (Nat.le_of_ble_eq_true rfl) dL_law_438 rfl (fun vp8 τp8 pp8 => ?_)
  obtain ⟨rfl, w8, w8a, w8b, rfl⟩ := pp8
  refine g_iadd X dL_law_441 ?_
  obtain ⟨r1, r2⟩ := SR.drive hC2.2.1 hN hB (p := w1) (f := 100 + w6) (e := w7) (m := 1 + w8) ⟨by omega, by omega⟩ ⟨by omega, by omega⟩ ⟨by omega, by omega⟩ ⟨by omega, by omega⟩
  refine L_drive X hR hC2 hN ⟨by omega, by omega⟩ ⟨by omega, by omega⟩ ⟨by omega, by omega⟩ ⟨by omega, by omega⟩ rfl (Nat.le_of_ble_eq_true rfl) dL_law_442 (fun σ3 hC3 hf3 => ?_)
  exact join σ3 _ _ hC3 (hS.drive hC2.2.1 hN hC2.2.2.1.1 _ _ _ _) r1 (fun _ => r2) hf3
set_option maxHeartbeats 4000000 in
set_option maxRecDepth 100000 in
theorem la_4 {l : Launch} {E : wEnv} {K : Mem → Nat → List (Option Value) → List Value → Prop} (X : Ctx l E K RL cL_law 9 10 396) (Y : LawY K E) (hfl : E.2.2.2 9 = 1) (next : ∀ σ s c W, c ≤ 12 → MI σ s 16200 c W → K σ 551 [some (sv E 3), some (rv E (0)), some (rv E (12)), some (iv ((c : Int))), some (iv (12)), none, none, none, none] []) : ∀ (n k : Nat), k + n = 12 → ∀ σ s c W, c ≤ k → MI σ s (9000 + 600 * (k : Int)) c W → K σ 269 [some (sv E 3), some (rv E (0)), some (rv E (12)), some (iv ((c : Int))), some (iv ((k : Int))), none, none, none, none] [] := by
  have hR : 7 ≤ (10 : Nat) ∧ 180 ≤ (396 : Nat) := ⟨by decide, by decide⟩
  intro n
  induction n with
  | zero =>
    intro k hk σ s c W hc hM
    obtain rfl : k = 12 := by omega
    refine g_iload X dL_law_269 rfl ?_
    refine g_bipush X dL_law_271 (by decide) ?_
    refine g_icmp_ge X (tgt := 551) dL_law_273 (by decide) ⟨by decide, by decide⟩ ⟨by decide, by decide⟩ (fun _ => ?_) (fun c => absurd c (by decide))
    exact next σ s c W hc hM
  | succ n ih =>
    intro k hk σ s c W hc hM
    refine g_iload X dL_law_269 rfl ?_
    refine g_bipush X dL_law_271 (by decide) ?_
    refine g_icmp_ge X (tgt := 551) dL_law_273 (by decide) ⟨by omega, by omega⟩ ⟨by decide, by decide⟩ (fun c => absurd c (by omega)) (fun _ => ?_)
    have ek : ((k + 1 : Nat) : Int) = (k : Int) + 1 := by omega
    have eN : 9000 + 600 * ((k : Int) + 1) = 9000 + 600 * (k : Int) + 600 := by omega
    have go : ∀ σ' s' c' W', c' ≤ k + 1 → MI σ' s' (9000 + 600 * (k : Int) + 600) c' W' → K σ' 545 [some (sv E 3), some (rv E (0)), some (rv E (12)), some (iv ((c' : Int))), some (iv ((k : Int))), none, none, none, none] [] := by
      intro σ' s' c' W' hc' hM'
      refine g_iinc X (lw := [some (sv E 3), some (rv E (0)), some (rv E (12)), some (iv ((c' : Int))), some (iv ((k : Int) + 1)), none, none, none, none]) dL_law_545 rfl (by decide) rfl rfl ?_
      refine g_goto X (tgt := 269) dL_law_548 (by decide) ?_
      have q := ih (k + 1) (by omega) σ' s' c' W' hc' (by rw [ek, eN]; exact hM')
      rw [ek] at q
      exact q
    refine la_turn X Y hfl hM (by omega) ⟨by omega, by omega⟩ (by omega) (fun σ' s' W' hM' => ?_) (fun σ' hM' => go σ' s c W (by omega) hM')
    exact go σ' s' (c + 1) W' (by omega) hM'
set_option maxHeartbeats 4000000 in
set_option maxRecDepth 100000 in
theorem la_end {l : Launch} {E : wEnv} {K : Mem → Nat → List (Option Value) → List Value → Prop} (X : Ctx l E K RL cL_law 9 10 396) (Y : LawY K E) {σ : Mem} {s : St} {N : Int} {c k : Nat} (hc : c ≤ 12) (hC : CRep σ s N) (hN : N + 600 ≤ 400000) (hz : 4 ≤ c → s.2.2.1 = 0) : K σ 608 [some (sv E 3), some (rv E (0)), some (rv E (12)), some (iv ((c : Int))), some (iv ((k : Int))), none, none, none, none] [] := by
  have hR : 7 ≤ (10 : Nat) ∧ 180 ≤ (396 : Nat) := ⟨by decide, by decide⟩
  refine g_iload_n X dL_law_608 rfl ?_
  refine g_iconst X dL_law_609 ?_
  refine g_icmp_lt X (tgt := 622) dL_law_610 (by decide) ⟨by omega, by omega⟩ ⟨by decide, by decide⟩ (fun _ => ?_) (fun h4 => ?_)
  · skip
    refine g_iconst X dL_law_622 ?_
    refine g_goto X (tgt := 627) dL_law_623 (by decide) ?_
    exact Y.2 _ _ _ dL_law_627
  have h0 : s.2.2.1 = 0 := hz (by omega)
  have hu : undoX s = (-2, s) := by unfold undoX; exact if_pos h0
  refine g_aload_n X dL_law_613 rfl ?_
  refine N_undo X hR hC hN hu (Nat.le_of_ble_eq_true rfl) dL_law_614 (fun σ1 hC1 hf1 => ?_)
  refine g_bipush X dL_law_617 (by decide) ?_
  refine g_neS X (tgt := 626) dL_law_619 (by decide) ?_
  refine g_iconst X dL_law_622 ?_
  refine g_goto X (tgt := 627) dL_law_623 (by decide) ?_
  exact Y.2 _ _ _ dL_law_627
set_option maxHeartbeats 4000000 in
set_option maxRecDepth 100000 in
theorem la_5 {l : Launch} {E : wEnv} {K : Mem → Nat → List (Option Value) → List Value → Prop} (X : Ctx l E K RL cL_law 9 10 396) (Y : LawY K E) (hfl : E.2.2.2 9 = 1) {c : Nat} (hc : c ≤ 12) {W : Nat → Row} : ∀ (n k : Nat), k + n = 5 → 1 ≤ k → ∀ σ s, CRep σ s (16200 + 600 * (k : Int)) → SInv s → s.2.2.1 = 5 - k → (∀ j, j < c → σ 12 j = hashR (W j)) → (∀ j, k ≤ j → j ≤ 4 → j ≤ c → s.2.1 (4 - j) = W (c - j)) → K σ 563 [some (sv E 3), some (rv E (0)), some (rv E (12)), some (iv ((c : Int))), some (iv ((k : Int))), none, none, none, none] [] := by
  have hR : 7 ≤ (10 : Nat) ∧ 180 ≤ (396 : Nat) := ⟨by decide, by decide⟩
  intro n
  induction n with
  | zero =>
    intro k hk hk1 σ s hC hS h4 hrow hh
    obtain rfl : k = 5 := by omega
    refine g_iload X dL_law_563 rfl ?_
    refine g_iconst X dL_law_565 ?_
    refine g_icmp_gt X (tgt := 608) dL_law_566 (by decide) ⟨by decide, by decide⟩ ⟨by decide, by decide⟩ (fun _ => ?_) (fun c => absurd c (by decide))
    exact la_end X Y hc hC (by decide) (fun _ => h4)
  | succ n ih =>
    intro k hk hk1 σ s hC hS h4 hrow hh
    refine g_iload X dL_law_563 rfl ?_
    refine g_iconst X dL_law_565 ?_
    refine g_icmp_gt X (tgt := 608) dL_law_566 (by decide) ⟨by omega, by omega⟩ ⟨by decide, by decide⟩ (fun c => absurd c (by omega)) (fun _ => ?_)
    refine g_iload X dL_law_569 rfl ?_
    refine g_iload_n X dL_law_571 rfl ?_
    refine g_icmp_gt X (tgt := 608) dL_law_572 (by decide) ⟨by omega, by omega⟩ ⟨by omega, by omega⟩ (fun hgt => ?_) (fun hle => ?_)
    · exact la_end X Y hc hC (by omega) (fun _ => absurd hgt (by omega))
    have hu : undoX s = (4 - (k : Int), (s.2.1 (4 - k), s.2.1, 4 - k, s.2.2.2.1, s.2.2.2.2)) := by
      unfold undoX
      rw [if_neg (by omega), h4, show 5 - k - 1 = 4 - k by omega]
      exact Prod.ext (show ((4 - k : Nat) : Int) = 4 - (k : Int) by omega) rfl
    have hS1 : SInv (s.2.1 (4 - k), s.2.1, 4 - k, s.2.2.2.1, s.2.2.2.2) := by have q := hS.undo; rw [hu] at q; exact q
    refine g_aload_n X dL_law_575 rfl ?_
    refine L_undo X hR hC (by omega) hu (Nat.le_of_ble_eq_true rfl) dL_law_576 (fun σ1 hC1 hf1 => ?_)
    refine g_iconst X dL_law_579 ?_
    refine g_iload X dL_law_580 rfl ?_
    refine g_isub X dL_law_582 ?_
    refine g_neS X (tgt := 600) dL_law_583 (by decide) ?_
    refine g_aload_n X dL_law_586 rfl ?_
    refine cl_L_42 X (c_L_state l E σ1 _ _ hC1 (by omega) hS1) ⟨Nat.le_of_ble_eq_true rfl, Nat.le_of_ble_eq_true rfl⟩ rfl (Nat.le_of_ble_eq_true rfl) dL_law_587 rfl (fun v2 σ2 p2 => ?_)
    obtain ⟨rfl, hC2, hf2⟩ := p2
    have e1 : (s.2.1 (4 - k), s.2.1, 4 - k, s.2.2.2.1, s.2.2.2.2).1 = W (c - k) := hh k (by omega) (by omega) (by omega)
    have e12 : σ2 12 = σ 12 := by rw [hf2 12 (by decide) (by decide), hf1 12 (by decide) (by decide)]
    have ec : ((c : Int) - (k : Int)).toNat = c - k := by omega
    rw [e1]
    refine g_aload_n X dL_law_590 rfl ?_
    refine g_iload_n X dL_law_591 rfl ?_
    refine g_iload X dL_law_592 rfl ?_
    refine g_isub X dL_law_594 ?_
    refine g_lald X (z := hashR (W (c - k))) fk12 hfl fl12 (by omega) (by omega) (by decide) (by rw [ec, e12]; exact hrow (c - k) (by omega)) dL_law_595 ?_
    refine g_lcmpS X dL_law_596 ?_
    refine g_eqY X (tgt := 602) dL_law_597 (by decide) ?_
    refine g_iinc X (lw := [some (sv E 3), some (rv E (0)), some (rv E (12)), some (iv ((c : Int))), some (iv ((k : Int) + 1)), none, none, none, none]) dL_law_602 rfl (by decide) rfl rfl ?_
    refine g_goto X (tgt := 563) dL_law_605 (by decide) ?_
    have ek : ((k + 1 : Nat) : Int) = (k : Int) + 1 := by omega
    have q := ih (k + 1) (by omega) (by omega) σ2 _ (hC2.mono (by omega) (by omega)) hS1 (by show 4 - k = 5 - (k + 1); omega) (fun j hj => by rw [e12]; exact hrow j hj) (fun j a b d => hh j (by omega) b d)
    rw [ek] at q
    exact q
set_option maxHeartbeats 4000000 in
set_option maxRecDepth 100000 in
theorem la_rest {l : Launch} {E : wEnv} {K : Mem → Nat → List (Option Value) → List Value → Prop} (X : Ctx l E K RL cL_law 9 10 396) (Y : LawY K E) (hfl : E.2.2.2 9 = 1) {σ : Mem} {s : St} (hC : CRep σ s 9000) (hS : SInv s) (hQ : QI s.1 10) (h4 : s.2.2.1 = 4) : K σ 264 [some (sv E 3), some (rv E (0)), some (rv E (12)), none, none, none, none, none, none] [] := by
  have hR : 7 ≤ (10 : Nat) ∧ 180 ≤ (396 : Nat) := ⟨by decide, by decide⟩
  refine g_iconst X dL_law_264 ?_
  refine g_istore_n X (lw := [some (sv E 3), some (rv E (0)), some (rv E (12)), some (iv (0)), none, none, none, none, none]) dL_law_265 (by decide) rfl rfl ?_
  refine g_iconst X dL_law_266 ?_
  refine g_istore X (lw := [some (sv E 3), some (rv E (0)), some (rv E (12)), some (iv (0)), some (iv (0)), none, none, none, none]) dL_law_267 (by decide) rfl rfl ?_
  have go := la_4 X Y hfl (fun σ1 s1 c W hc hM => ?_) 12 0 rfl σ s 0 (fun _ => s.1) (Nat.le_refl _) ⟨hC, hS, hQ.b, hQ.1, h4, fun j hj => absurd hj (Nat.not_lt_zero j), fun j a b d => absurd d (by omega)⟩
  · exact go
  · obtain ⟨hC1, hS1, hB1, h191, h41, hrow, hh⟩ := hM
    refine g_aload_n X dL_law_551 rfl ?_
    refine cl_L_191 X (c_L_refused l E σ1 s1 16200 hC1 (by decide) hS1) ⟨Nat.le_of_ble_eq_true rfl, Nat.le_of_ble_eq_true rfl⟩ rfl (Nat.le_of_ble_eq_true rfl) dL_law_552 rfl (fun v2 σ2 p2 => ?_)
    obtain ⟨rfl, hC2, hf2⟩ := p2
    refine g_neY X (tgt := 560) dL_law_555 (by decide) ?_
    refine g_iconst X dL_law_560 ?_
    refine g_istore X (lw := [some (sv E 3), some (rv E (0)), some (rv E (12)), some (iv ((c : Int))), some (iv (1)), none, none, none, none]) dL_law_561 (by decide) rfl rfl ?_
    exact la_5 X Y hfl hc 4 1 rfl (Nat.le_refl _) σ2 s1 (hC2.mono (by decide) (by decide)) hS1 h41 (fun j hj => by rw [hf2 12 (by decide) (by decide)]; exact hrow j hj) (fun j a b d => hh j a b d)
