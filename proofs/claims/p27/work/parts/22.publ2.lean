/-! ===== contracts: the public methods, piles ===== -/
theorem taken_iff {r : Row} {x y : Int} (h0 : 0 ≤ r 19) : 0 < cnt (takenP r x y) (r 19).toNat ↔ ∃ j : Nat, (j : Int) < r 19 ∧ r (24 + 91 * j + 0) = x ∧ r (24 + 91 * j + 1) = y := by
  rw [cnt_pos]
  constructor
  · rintro ⟨j, h1, h2⟩
    unfold takenP at h2
    simp only [Bool.and_eq_true, decide_eq_true_eq] at h2
    exact ⟨j, by omega, h2⟩
  · rintro ⟨j, h1, h2⟩
    refine ⟨j, by omega, ?_⟩
    unfold takenP
    simp only [Bool.and_eq_true, decide_eq_true_eq]
    exact h2
theorem press_inv {r : Row} {N : Int} (hR : RInv r N) (hN : N + 600 ≤ 400000) {i : Nat} (hi : (i : Int) < r 19) {f : Int} : RInv (if f ≤ heldR r i then r else press1R r i (pressZ r i f)) (N + 600) := by
  have h6 := (hR.2.2.2.2.2.2 i hi).f
  split
  · exact hR.mono (by omega) hN
  · refine press1_inv hR (by omega) hi ?_ ?_
    · unfold pressZ; omega
    · unfold pressZ; omega
set_option maxHeartbeats 1000000 in
set_option maxRecDepth 100000 in
theorem c_X7_count (l : Launch) (E : wEnv) (σ : Mem) (s : St) (N : Int) (hC : CRep σ s N) (hN : N + 600 ≤ 400000) (w : Int) (hw : I32 w) : MetC l E yX7_count cX7_count 2 (some .long) 2 45 [rv E (0), iv (w)] σ (fun v σ' => v = some (jv (countX s w)) ∧ σ = σ') := by
  refine MetC.of (own := RX7) (by decide) rfl (by simp [Value.category]) (Nat.le_of_ble_eq_true rfl) [some (rv E (0)), some (iv (w))] rfl (by simp) (fun K X R => ?_)
  have hS := hC.1
  have hR := hC.2.1
  have hH := hC.2.2.1
  have hI := hC.2.2.2.1
  have hT := hC.2.2.2.2
  have r19 := hR.2.2.2.2.1
  have r0 := hR.1
  have rN := hR.2.2.2.2.2.1
  have qs : ∀ n : Nat, n < 6 → -2147483648 ≤ s.1 (13 + n) ∧ s.1 (13 + n) < 2147483648 := fun n hn => by have q := hR.2.2.2.1; rcases (show n = 0 ∨ n = 1 ∨ n = 2 ∨ n = 3 ∨ n = 4 ∨ n = 5 by omega) with rfl | rfl | rfl | rfl | rfl | rfl <;> simp <;> omega
  have qw := qs (w - 10).toNat
  have hh4 := hH.1
  have hL := hT.1
  refine g_iload_n X dX7_count_0 rfl ?_
  refine g_bipush X dX7_count_1 (by decide) ?_
  refine g_isub X dX7_count_3 ?_
  rcases (show -2147483648 ≤ w - 10 ∨ w - 10 < -2147483648 by omega) with hw1 | hw1
  · skip
    refine cl_X7_86 X (c_X7_isSetting l E σ (w - 10) ⟨by omega, by omega⟩) ⟨Nat.le_of_ble_eq_true rfl, Nat.le_of_ble_eq_true rfl⟩ rfl (Nat.le_of_ble_eq_true rfl) dX7_count_4 rfl (fun v1 τ2 p3 => ?_)
    obtain ⟨rfl, ⟨b4, rfl⟩ | ⟨b4, rfl⟩⟩ := p3
    · skip
      skip
      refine g_if_eq X (tgt := 23) dX7_count_7 (by decide) ⟨by decide, by decide⟩ (fun q => absurd q (by decide)) (fun _ => ?_)
      refine g_aload_n X dX7_count_10 rfl ?_
      refine gf_X7_10 X fk0 dX7_count_11 ?_
      refine g_iload_n X dX7_count_14 rfl ?_
      refine g_bipush X dX7_count_15 (by decide) ?_
      refine g_isub X dX7_count_17 ?_
      refine cl_X7_97 X (cs_X6_setting l E σ 25 s.1 N now_k hS hR (w - 10) (13 + (w - 10).toNat) (by omega) rfl) now_k ⟨Nat.le_of_ble_eq_true rfl, Nat.le_of_ble_eq_true rfl⟩ rfl (Nat.le_of_ble_eq_true rfl) dX7_count_18 rfl (fun v5 τ6 p7 => ?_)
      obtain ⟨rfl, rfl⟩ := p7
      refine g_i2l X dX7_count_21 ⟨by omega, by omega⟩ ?_
      exact R _ _ _ _ dX7_count_22 ⟨congrArg (fun z => some (jv z)) (by first | (exfalso; omega) | (unfold countX; (repeat (first | rw [if_pos (by omega)] | rw [if_neg (by omega)])); (first | done | rfl | omega))), rfl⟩
    · skip
      skip
      refine g_if_eq X (tgt := 23) dX7_count_7 (by decide) ⟨by decide, by decide⟩ (fun _ => ?_) (fun q => absurd q (by decide))
      refine g_iload_n X dX7_count_23 rfl ?_
      rcases (show w = 0 ∨ w = 1 ∨ w = 2 ∨ w = 3 ∨ w = 4 ∨ w = 5 ∨ w = 6 ∨ w = 7 ∨ w = 8 ∨ w = 9 ∨ w = 10 ∨ w = 11 ∨ w = 12 ∨ w = 13 ∨ w = 14 ∨ w = 15 ∨ w = 16 ∨ w = 17 ∨ w = 18 ∨ w = 19 ∨ w = 20 ∨ w = 21 ∨ w = 22 ∨ w = 23 ∨ w = 24 ∨ (w < 0 ∨ 24 < w) by omega) with c8 | c8 | c8 | c8 | c8 | c8 | c8 | c8 | c8 | c8 | c8 | c8 | c8 | c8 | c8 | c8 | c8 | c8 | c8 | c8 | c8 | c8 | c8 | c8 | c8 | c8
      · skip
        refine g_tblIn X (tgt := 140) (off := 116) dX7_count_24 ⟨by omega, by omega⟩ (by omega) (by omega) (by rw [c8]; decide) (by decide) ?_
        refine g_aload_n X dX7_count_140 rfl ?_
        refine gf_X7_10 X fk0 dX7_count_141 ?_
        refine gf_X7_44 X now_k dX7_count_144 ?_
        refine gf_X7_48 X (st1 now_k) (hS.1) dX7_count_147 ?_
        refine g_i2l X dX7_count_150 ⟨by omega, by omega⟩ ?_
        exact R _ _ _ _ dX7_count_151 ⟨congrArg (fun z => some (jv z)) (by first | (exfalso; omega) | (unfold countX; (repeat (first | rw [if_pos (by omega)] | rw [if_neg (by omega)])); (first | done | rfl | omega))), rfl⟩
      · skip
        refine g_tblIn X (tgt := 152) (off := 128) dX7_count_24 ⟨by omega, by omega⟩ (by omega) (by omega) (by rw [c8]; decide) (by decide) ?_
        refine g_aload_n X dX7_count_152 rfl ?_
        refine gf_X7_10 X fk0 dX7_count_153 ?_
        refine gf_X7_104 X now_k (hS.2.2.2.2.1) dX7_count_156 ?_
        refine g_i2l X dX7_count_159 ⟨by omega, by omega⟩ ?_
        exact R _ _ _ _ dX7_count_160 ⟨congrArg (fun z => some (jv z)) (by first | (exfalso; omega) | (unfold countX; (repeat (first | rw [if_pos (by omega)] | rw [if_neg (by omega)])); (first | done | rfl | omega))), rfl⟩
      · skip
        refine g_tblIn X (tgt := 161) (off := 137) dX7_count_24 ⟨by omega, by omega⟩ (by omega) (by omega) (by rw [c8]; decide) (by decide) ?_
        refine g_aload_n X dX7_count_161 rfl ?_
        refine gf_X7_10 X fk0 dX7_count_162 ?_
        refine cl_X7_107 X (c_X6_loosePiles l E σ 25 s.1 N now_k hS hR   ) now_k ⟨Nat.le_of_ble_eq_true rfl, Nat.le_of_ble_eq_true rfl⟩ rfl (Nat.le_of_ble_eq_true rfl) dX7_count_165 rfl (fun v9 τ10 p11 => ?_)
        obtain ⟨rfl, rfl⟩ := p11
        have cb165 := cnt_bd (fun j => decide (s.1 (24 + 91 * j + 6) = 1)) (s.1 19).toNat
        have r19165 := hR.2.2.2.2.1
        refine g_i2l X dX7_count_168 ⟨by omega, by omega⟩ ?_
        exact R _ _ _ _ dX7_count_169 ⟨congrArg (fun z => some (jv z)) (by first | (exfalso; omega) | (unfold countX; (repeat (first | rw [if_pos (by omega)] | rw [if_neg (by omega)])); (first | done | rfl | omega))), rfl⟩
      · skip
        refine g_tblIn X (tgt := 170) (off := 146) dX7_count_24 ⟨by omega, by omega⟩ (by omega) (by omega) (by rw [c8]; decide) (by decide) ?_
        refine g_aload_n X dX7_count_170 rfl ?_
        refine gf_X7_10 X fk0 dX7_count_171 ?_
        refine gf_X7_111 X now_k (hS.2.2.2.2.2.1.1) dX7_count_174 ?_
        exact R _ _ _ _ dX7_count_177 ⟨congrArg (fun z => some (jv z)) (by first | (exfalso; omega) | (unfold countX; (repeat (first | rw [if_pos (by omega)] | rw [if_neg (by omega)])); (first | done | rfl | omega))), rfl⟩
      · skip
        refine g_tblIn X (tgt := 178) (off := 154) dX7_count_24 ⟨by omega, by omega⟩ (by omega) (by omega) (by rw [c8]; decide) (by decide) ?_
        refine g_aload_n X dX7_count_178 rfl ?_
        refine gf_X7_19 X fk0 dX7_count_179 ?_
        refine gf_X7_115 X fk1 hH.2.1 dX7_count_182 ?_
        refine g_i2l X dX7_count_185 ⟨by omega, by omega⟩ ?_
        exact R _ _ _ _ dX7_count_186 ⟨congrArg (fun z => some (jv z)) (by first | (exfalso; omega) | (unfold countX; (repeat (first | rw [if_pos (by omega)] | rw [if_neg (by omega)])); (first | done | rfl | omega))), rfl⟩
      · skip
        refine g_tblIn X (tgt := 187) (off := 163) dX7_count_24 ⟨by omega, by omega⟩ (by omega) (by omega) (by rw [c8]; decide) (by decide) ?_
        refine g_aload_n X dX7_count_187 rfl ?_
        refine gf_X7_26 X fk0 dX7_count_188 ?_
        refine gf_X7_118 X fk3 hT.2.1 dX7_count_191 ?_
        refine g_i2l X dX7_count_194 ⟨by omega, by omega⟩ ?_
        exact R _ _ _ _ dX7_count_195 ⟨congrArg (fun z => some (jv z)) (by first | (exfalso; omega) | (unfold countX; (repeat (first | rw [if_pos (by omega)] | rw [if_neg (by omega)])); (first | done | rfl | omega))), rfl⟩
      · skip
        refine g_tblIn X (tgt := 196) (off := 172) dX7_count_24 ⟨by omega, by omega⟩ (by omega) (by omega) (by rw [c8]; decide) (by decide) ?_
        refine g_aload_n X dX7_count_196 rfl ?_
        refine gf_X7_10 X fk0 dX7_count_197 ?_
        refine cl_X7_121 X (c_X6_footSum l E σ 25 s.1 N now_k hS hR   ) now_k ⟨Nat.le_of_ble_eq_true rfl, Nat.le_of_ble_eq_true rfl⟩ rfl (Nat.le_of_ble_eq_true rfl) dX7_count_200 rfl (fun v12 τ13 p14 => ?_)
        obtain ⟨rfl, rfl⟩ := p14
        exact R _ _ _ _ dX7_count_203 ⟨congrArg (fun z => some (jv z)) (by first | (exfalso; omega) | (unfold countX; (repeat (first | rw [if_pos (by omega)] | rw [if_neg (by omega)])); (first | done | rfl | omega))), rfl⟩
      · skip
        refine g_tblIn X (tgt := 244) (off := 220) dX7_count_24 ⟨by omega, by omega⟩ (by omega) (by omega) (by rw [c8]; decide) (by decide) ?_
        refine g_ldc2 X (n := -1) dX7_count_244 wK_X7_140 (by decide) ?_
        exact R _ _ _ _ dX7_count_247 ⟨congrArg (fun z => some (jv z)) (by first | (exfalso; omega) | (unfold countX; (repeat (first | rw [if_pos (by omega)] | rw [if_neg (by omega)])); (first | done | rfl | omega))), rfl⟩
      · skip
        refine g_tblIn X (tgt := 244) (off := 220) dX7_count_24 ⟨by omega, by omega⟩ (by omega) (by omega) (by rw [c8]; decide) (by decide) ?_
        refine g_ldc2 X (n := -1) dX7_count_244 wK_X7_140 (by decide) ?_
        exact R _ _ _ _ dX7_count_247 ⟨congrArg (fun z => some (jv z)) (by first | (exfalso; omega) | (unfold countX; (repeat (first | rw [if_pos (by omega)] | rw [if_neg (by omega)])); (first | done | rfl | omega))), rfl⟩
      · skip
        refine g_tblIn X (tgt := 244) (off := 220) dX7_count_24 ⟨by omega, by omega⟩ (by omega) (by omega) (by rw [c8]; decide) (by decide) ?_
        refine g_ldc2 X (n := -1) dX7_count_244 wK_X7_140 (by decide) ?_
        exact R _ _ _ _ dX7_count_247 ⟨congrArg (fun z => some (jv z)) (by first | (exfalso; omega) | (unfold countX; (repeat (first | rw [if_pos (by omega)] | rw [if_neg (by omega)])); (first | done | rfl | omega))), rfl⟩
      · skip
        refine g_tblIn X (tgt := 244) (off := 220) dX7_count_24 ⟨by omega, by omega⟩ (by omega) (by omega) (by rw [c8]; decide) (by decide) ?_
        refine g_ldc2 X (n := -1) dX7_count_244 wK_X7_140 (by decide) ?_
        exact R _ _ _ _ dX7_count_247 ⟨congrArg (fun z => some (jv z)) (by first | (exfalso; omega) | (unfold countX; (repeat (first | rw [if_pos (by omega)] | rw [if_neg (by omega)])); (first | done | rfl | omega))), rfl⟩
      · skip
        refine g_tblIn X (tgt := 244) (off := 220) dX7_count_24 ⟨by omega, by omega⟩ (by omega) (by omega) (by rw [c8]; decide) (by decide) ?_
        refine g_ldc2 X (n := -1) dX7_count_244 wK_X7_140 (by decide) ?_
        exact R _ _ _ _ dX7_count_247 ⟨congrArg (fun z => some (jv z)) (by first | (exfalso; omega) | (unfold countX; (repeat (first | rw [if_pos (by omega)] | rw [if_neg (by omega)])); (first | done | rfl | omega))), rfl⟩
      · skip
        refine g_tblIn X (tgt := 244) (off := 220) dX7_count_24 ⟨by omega, by omega⟩ (by omega) (by omega) (by rw [c8]; decide) (by decide) ?_
        refine g_ldc2 X (n := -1) dX7_count_244 wK_X7_140 (by decide) ?_
        exact R _ _ _ _ dX7_count_247 ⟨congrArg (fun z => some (jv z)) (by first | (exfalso; omega) | (unfold countX; (repeat (first | rw [if_pos (by omega)] | rw [if_neg (by omega)])); (first | done | rfl | omega))), rfl⟩
      · skip
        refine g_tblIn X (tgt := 244) (off := 220) dX7_count_24 ⟨by omega, by omega⟩ (by omega) (by omega) (by rw [c8]; decide) (by decide) ?_
        refine g_ldc2 X (n := -1) dX7_count_244 wK_X7_140 (by decide) ?_
        exact R _ _ _ _ dX7_count_247 ⟨congrArg (fun z => some (jv z)) (by first | (exfalso; omega) | (unfold countX; (repeat (first | rw [if_pos (by omega)] | rw [if_neg (by omega)])); (first | done | rfl | omega))), rfl⟩
      · skip
        refine g_tblIn X (tgt := 244) (off := 220) dX7_count_24 ⟨by omega, by omega⟩ (by omega) (by omega) (by rw [c8]; decide) (by decide) ?_
        refine g_ldc2 X (n := -1) dX7_count_244 wK_X7_140 (by decide) ?_
        exact R _ _ _ _ dX7_count_247 ⟨congrArg (fun z => some (jv z)) (by first | (exfalso; omega) | (unfold countX; (repeat (first | rw [if_pos (by omega)] | rw [if_neg (by omega)])); (first | done | rfl | omega))), rfl⟩
      · skip
        refine g_tblIn X (tgt := 244) (off := 220) dX7_count_24 ⟨by omega, by omega⟩ (by omega) (by omega) (by rw [c8]; decide) (by decide) ?_
        refine g_ldc2 X (n := -1) dX7_count_244 wK_X7_140 (by decide) ?_
        exact R _ _ _ _ dX7_count_247 ⟨congrArg (fun z => some (jv z)) (by first | (exfalso; omega) | (unfold countX; (repeat (first | rw [if_pos (by omega)] | rw [if_neg (by omega)])); (first | done | rfl | omega))), rfl⟩
      · skip
        refine g_tblIn X (tgt := 244) (off := 220) dX7_count_24 ⟨by omega, by omega⟩ (by omega) (by omega) (by rw [c8]; decide) (by decide) ?_
        refine g_ldc2 X (n := -1) dX7_count_244 wK_X7_140 (by decide) ?_
        exact R _ _ _ _ dX7_count_247 ⟨congrArg (fun z => some (jv z)) (by first | (exfalso; omega) | (unfold countX; (repeat (first | rw [if_pos (by omega)] | rw [if_neg (by omega)])); (first | done | rfl | omega))), rfl⟩
      · skip
        refine g_tblIn X (tgt := 244) (off := 220) dX7_count_24 ⟨by omega, by omega⟩ (by omega) (by omega) (by rw [c8]; decide) (by decide) ?_
        refine g_ldc2 X (n := -1) dX7_count_244 wK_X7_140 (by decide) ?_
        exact R _ _ _ _ dX7_count_247 ⟨congrArg (fun z => some (jv z)) (by first | (exfalso; omega) | (unfold countX; (repeat (first | rw [if_pos (by omega)] | rw [if_neg (by omega)])); (first | done | rfl | omega))), rfl⟩
      · skip
        refine g_tblIn X (tgt := 244) (off := 220) dX7_count_24 ⟨by omega, by omega⟩ (by omega) (by omega) (by rw [c8]; decide) (by decide) ?_
        refine g_ldc2 X (n := -1) dX7_count_244 wK_X7_140 (by decide) ?_
        exact R _ _ _ _ dX7_count_247 ⟨congrArg (fun z => some (jv z)) (by first | (exfalso; omega) | (unfold countX; (repeat (first | rw [if_pos (by omega)] | rw [if_neg (by omega)])); (first | done | rfl | omega))), rfl⟩
      · skip
        refine g_tblIn X (tgt := 244) (off := 220) dX7_count_24 ⟨by omega, by omega⟩ (by omega) (by omega) (by rw [c8]; decide) (by decide) ?_
        refine g_ldc2 X (n := -1) dX7_count_244 wK_X7_140 (by decide) ?_
        exact R _ _ _ _ dX7_count_247 ⟨congrArg (fun z => some (jv z)) (by first | (exfalso; omega) | (unfold countX; (repeat (first | rw [if_pos (by omega)] | rw [if_neg (by omega)])); (first | done | rfl | omega))), rfl⟩
      · skip
        refine g_tblIn X (tgt := 204) (off := 180) dX7_count_24 ⟨by omega, by omega⟩ (by omega) (by omega) (by rw [c8]; decide) (by decide) ?_
        refine g_aload_n X dX7_count_204 rfl ?_
        refine gf_X7_10 X fk0 dX7_count_205 ?_
        refine gf_X7_125 X now_k (hS.2.2.2.2.2.1.2.1) dX7_count_208 ?_
        exact R _ _ _ _ dX7_count_211 ⟨congrArg (fun z => some (jv z)) (by first | (exfalso; omega) | (unfold countX; (repeat (first | rw [if_pos (by omega)] | rw [if_neg (by omega)])); (first | done | rfl | omega))), rfl⟩
      · skip
        refine g_tblIn X (tgt := 212) (off := 188) dX7_count_24 ⟨by omega, by omega⟩ (by omega) (by omega) (by rw [c8]; decide) (by decide) ?_
        refine g_aload_n X dX7_count_212 rfl ?_
        refine gf_X7_10 X fk0 dX7_count_213 ?_
        refine gf_X7_128 X now_k (hS.2.2.2.2.2.1.2.2.1) dX7_count_216 ?_
        exact R _ _ _ _ dX7_count_219 ⟨congrArg (fun z => some (jv z)) (by first | (exfalso; omega) | (unfold countX; (repeat (first | rw [if_pos (by omega)] | rw [if_neg (by omega)])); (first | done | rfl | omega))), rfl⟩
      · skip
        refine g_tblIn X (tgt := 220) (off := 196) dX7_count_24 ⟨by omega, by omega⟩ (by omega) (by omega) (by rw [c8]; decide) (by decide) ?_
        refine g_aload_n X dX7_count_220 rfl ?_
        refine gf_X7_10 X fk0 dX7_count_221 ?_
        refine gf_X7_131 X now_k (hS.2.2.2.2.2.1.2.2.2.1) dX7_count_224 ?_
        exact R _ _ _ _ dX7_count_227 ⟨congrArg (fun z => some (jv z)) (by first | (exfalso; omega) | (unfold countX; (repeat (first | rw [if_pos (by omega)] | rw [if_neg (by omega)])); (first | done | rfl | omega))), rfl⟩
      · skip
        refine g_tblIn X (tgt := 228) (off := 204) dX7_count_24 ⟨by omega, by omega⟩ (by omega) (by omega) (by rw [c8]; decide) (by decide) ?_
        refine g_aload_n X dX7_count_228 rfl ?_
        refine gf_X7_10 X fk0 dX7_count_229 ?_
        refine gf_X7_134 X now_k (hS.2.2.2.2.2.1.2.2.2.2.1) dX7_count_232 ?_
        exact R _ _ _ _ dX7_count_235 ⟨congrArg (fun z => some (jv z)) (by first | (exfalso; omega) | (unfold countX; (repeat (first | rw [if_pos (by omega)] | rw [if_neg (by omega)])); (first | done | rfl | omega))), rfl⟩
      · skip
        refine g_tblIn X (tgt := 236) (off := 212) dX7_count_24 ⟨by omega, by omega⟩ (by omega) (by omega) (by rw [c8]; decide) (by decide) ?_
        refine g_aload_n X dX7_count_236 rfl ?_
        refine gf_X7_10 X fk0 dX7_count_237 ?_
        refine gf_X7_137 X now_k (hS.2.2.2.2.2.1.2.2.2.2.2) dX7_count_240 ?_
        exact R _ _ _ _ dX7_count_243 ⟨congrArg (fun z => some (jv z)) (by first | (exfalso; omega) | (unfold countX; (repeat (first | rw [if_pos (by omega)] | rw [if_neg (by omega)])); (first | done | rfl | omega))), rfl⟩
      · skip
        refine g_tblOut X (tgt := 244) dX7_count_24 ⟨by omega, by omega⟩ c8 (by decide) ?_
        refine g_ldc2 X (n := -1) dX7_count_244 wK_X7_140 (by decide) ?_
        exact R _ _ _ _ dX7_count_247 ⟨congrArg (fun z => some (jv z)) (by first | (exfalso; omega) | (unfold countX; (repeat (first | rw [if_pos (by omega)] | rw [if_neg (by omega)])); (first | done | rfl | omega))), rfl⟩
  · skip
    rw [show iv (w - 10) = iv (w - 10 + 4294967296) from congrArg Value.int (zI_wrap _)]
    refine cl_X7_86 X (c_X7_isSetting l E σ (w - 10 + 4294967296) ⟨by omega, by omega⟩) ⟨Nat.le_of_ble_eq_true rfl, Nat.le_of_ble_eq_true rfl⟩ rfl (Nat.le_of_ble_eq_true rfl) dX7_count_4 rfl (fun v15 τ16 p17 => ?_)
    obtain ⟨rfl, ⟨b18, rfl⟩ | ⟨b18, rfl⟩⟩ := p17
    · skip
      skip
      refine g_if_eq X (tgt := 23) dX7_count_7 (by decide) ⟨by decide, by decide⟩ (fun q => absurd q (by decide)) (fun _ => ?_)
      refine g_aload_n X dX7_count_10 rfl ?_
      refine gf_X7_10 X fk0 dX7_count_11 ?_
      refine g_iload_n X dX7_count_14 rfl ?_
      refine g_bipush X dX7_count_15 (by decide) ?_
      refine g_isub X dX7_count_17 ?_
      refine cl_X7_97 X (cs_X6_setting l E σ 25 s.1 N now_k hS hR (w - 10) (13 + (w - 10).toNat) (by omega) rfl) now_k ⟨Nat.le_of_ble_eq_true rfl, Nat.le_of_ble_eq_true rfl⟩ rfl (Nat.le_of_ble_eq_true rfl) dX7_count_18 rfl (fun v19 τ20 p21 => ?_)
      obtain ⟨rfl, rfl⟩ := p21
      refine g_i2l X dX7_count_21 ⟨by omega, by omega⟩ ?_
      exact R _ _ _ _ dX7_count_22 ⟨congrArg (fun z => some (jv z)) (by first | (exfalso; omega) | (unfold countX; (repeat (first | rw [if_pos (by omega)] | rw [if_neg (by omega)])); (first | done | rfl | omega))), rfl⟩
    · skip
      skip
      refine g_if_eq X (tgt := 23) dX7_count_7 (by decide) ⟨by decide, by decide⟩ (fun _ => ?_) (fun q => absurd q (by decide))
      refine g_iload_n X dX7_count_23 rfl ?_
      rcases (show w = 0 ∨ w = 1 ∨ w = 2 ∨ w = 3 ∨ w = 4 ∨ w = 5 ∨ w = 6 ∨ w = 7 ∨ w = 8 ∨ w = 9 ∨ w = 10 ∨ w = 11 ∨ w = 12 ∨ w = 13 ∨ w = 14 ∨ w = 15 ∨ w = 16 ∨ w = 17 ∨ w = 18 ∨ w = 19 ∨ w = 20 ∨ w = 21 ∨ w = 22 ∨ w = 23 ∨ w = 24 ∨ (w < 0 ∨ 24 < w) by omega) with c22 | c22 | c22 | c22 | c22 | c22 | c22 | c22 | c22 | c22 | c22 | c22 | c22 | c22 | c22 | c22 | c22 | c22 | c22 | c22 | c22 | c22 | c22 | c22 | c22 | c22
      · skip
        refine g_tblIn X (tgt := 140) (off := 116) dX7_count_24 ⟨by omega, by omega⟩ (by omega) (by omega) (by rw [c22]; decide) (by decide) ?_
        refine g_aload_n X dX7_count_140 rfl ?_
        refine gf_X7_10 X fk0 dX7_count_141 ?_
        refine gf_X7_44 X now_k dX7_count_144 ?_
        refine gf_X7_48 X (st1 now_k) (hS.1) dX7_count_147 ?_
        refine g_i2l X dX7_count_150 ⟨by omega, by omega⟩ ?_
        exact R _ _ _ _ dX7_count_151 ⟨congrArg (fun z => some (jv z)) (by first | (exfalso; omega) | (unfold countX; (repeat (first | rw [if_pos (by omega)] | rw [if_neg (by omega)])); (first | done | rfl | omega))), rfl⟩
      · skip
        refine g_tblIn X (tgt := 152) (off := 128) dX7_count_24 ⟨by omega, by omega⟩ (by omega) (by omega) (by rw [c22]; decide) (by decide) ?_
        refine g_aload_n X dX7_count_152 rfl ?_
        refine gf_X7_10 X fk0 dX7_count_153 ?_
        refine gf_X7_104 X now_k (hS.2.2.2.2.1) dX7_count_156 ?_
        refine g_i2l X dX7_count_159 ⟨by omega, by omega⟩ ?_
        exact R _ _ _ _ dX7_count_160 ⟨congrArg (fun z => some (jv z)) (by first | (exfalso; omega) | (unfold countX; (repeat (first | rw [if_pos (by omega)] | rw [if_neg (by omega)])); (first | done | rfl | omega))), rfl⟩
      · skip
        refine g_tblIn X (tgt := 161) (off := 137) dX7_count_24 ⟨by omega, by omega⟩ (by omega) (by omega) (by rw [c22]; decide) (by decide) ?_
        refine g_aload_n X dX7_count_161 rfl ?_
        refine gf_X7_10 X fk0 dX7_count_162 ?_
        refine cl_X7_107 X (c_X6_loosePiles l E σ 25 s.1 N now_k hS hR   ) now_k ⟨Nat.le_of_ble_eq_true rfl, Nat.le_of_ble_eq_true rfl⟩ rfl (Nat.le_of_ble_eq_true rfl) dX7_count_165 rfl (fun v23 τ24 p25 => ?_)
        obtain ⟨rfl, rfl⟩ := p25
        have cb165 := cnt_bd (fun j => decide (s.1 (24 + 91 * j + 6) = 1)) (s.1 19).toNat
        have r19165 := hR.2.2.2.2.1
        refine g_i2l X dX7_count_168 ⟨by omega, by omega⟩ ?_
        exact R _ _ _ _ dX7_count_169 ⟨congrArg (fun z => some (jv z)) (by first | (exfalso; omega) | (unfold countX; (repeat (first | rw [if_pos (by omega)] | rw [if_neg (by omega)])); (first | done | rfl | omega))), rfl⟩
      · skip
        refine g_tblIn X (tgt := 170) (off := 146) dX7_count_24 ⟨by omega, by omega⟩ (by omega) (by omega) (by rw [c22]; decide) (by decide) ?_
        refine g_aload_n X dX7_count_170 rfl ?_
        refine gf_X7_10 X fk0 dX7_count_171 ?_
        refine gf_X7_111 X now_k (hS.2.2.2.2.2.1.1) dX7_count_174 ?_
        exact R _ _ _ _ dX7_count_177 ⟨congrArg (fun z => some (jv z)) (by first | (exfalso; omega) | (unfold countX; (repeat (first | rw [if_pos (by omega)] | rw [if_neg (by omega)])); (first | done | rfl | omega))), rfl⟩
      · skip
        refine g_tblIn X (tgt := 178) (off := 154) dX7_count_24 ⟨by omega, by omega⟩ (by omega) (by omega) (by rw [c22]; decide) (by decide) ?_
        refine g_aload_n X dX7_count_178 rfl ?_
        refine gf_X7_19 X fk0 dX7_count_179 ?_
        refine gf_X7_115 X fk1 hH.2.1 dX7_count_182 ?_
        refine g_i2l X dX7_count_185 ⟨by omega, by omega⟩ ?_
        exact R _ _ _ _ dX7_count_186 ⟨congrArg (fun z => some (jv z)) (by first | (exfalso; omega) | (unfold countX; (repeat (first | rw [if_pos (by omega)] | rw [if_neg (by omega)])); (first | done | rfl | omega))), rfl⟩
      · skip
        refine g_tblIn X (tgt := 187) (off := 163) dX7_count_24 ⟨by omega, by omega⟩ (by omega) (by omega) (by rw [c22]; decide) (by decide) ?_
        refine g_aload_n X dX7_count_187 rfl ?_
        refine gf_X7_26 X fk0 dX7_count_188 ?_
        refine gf_X7_118 X fk3 hT.2.1 dX7_count_191 ?_
        refine g_i2l X dX7_count_194 ⟨by omega, by omega⟩ ?_
        exact R _ _ _ _ dX7_count_195 ⟨congrArg (fun z => some (jv z)) (by first | (exfalso; omega) | (unfold countX; (repeat (first | rw [if_pos (by omega)] | rw [if_neg (by omega)])); (first | done | rfl | omega))), rfl⟩
      · skip
        refine g_tblIn X (tgt := 196) (off := 172) dX7_count_24 ⟨by omega, by omega⟩ (by omega) (by omega) (by rw [c22]; decide) (by decide) ?_
        refine g_aload_n X dX7_count_196 rfl ?_
        refine gf_X7_10 X fk0 dX7_count_197 ?_
        refine cl_X7_121 X (c_X6_footSum l E σ 25 s.1 N now_k hS hR   ) now_k ⟨Nat.le_of_ble_eq_true rfl, Nat.le_of_ble_eq_true rfl⟩ rfl (Nat.le_of_ble_eq_true rfl) dX7_count_200 rfl (fun v26 τ27 p28 => ?_)
        obtain ⟨rfl, rfl⟩ := p28
        exact R _ _ _ _ dX7_count_203 ⟨congrArg (fun z => some (jv z)) (by first | (exfalso; omega) | (unfold countX; (repeat (first | rw [if_pos (by omega)] | rw [if_neg (by omega)])); (first | done | rfl | omega))), rfl⟩
      · skip
        refine g_tblIn X (tgt := 244) (off := 220) dX7_count_24 ⟨by omega, by omega⟩ (by omega) (by omega) (by rw [c22]; decide) (by decide) ?_
        refine g_ldc2 X (n := -1) dX7_count_244 wK_X7_140 (by decide) ?_
        exact R _ _ _ _ dX7_count_247 ⟨congrArg (fun z => some (jv z)) (by first | (exfalso; omega) | (unfold countX; (repeat (first | rw [if_pos (by omega)] | rw [if_neg (by omega)])); (first | done | rfl | omega))), rfl⟩
      · skip
        refine g_tblIn X (tgt := 244) (off := 220) dX7_count_24 ⟨by omega, by omega⟩ (by omega) (by omega) (by rw [c22]; decide) (by decide) ?_
        refine g_ldc2 X (n := -1) dX7_count_244 wK_X7_140 (by decide) ?_
        exact R _ _ _ _ dX7_count_247 ⟨congrArg (fun z => some (jv z)) (by first | (exfalso; omega) | (unfold countX; (repeat (first | rw [if_pos (by omega)] | rw [if_neg (by omega)])); (first | done | rfl | omega))), rfl⟩
      · skip
        refine g_tblIn X (tgt := 244) (off := 220) dX7_count_24 ⟨by omega, by omega⟩ (by omega) (by omega) (by rw [c22]; decide) (by decide) ?_
        refine g_ldc2 X (n := -1) dX7_count_244 wK_X7_140 (by decide) ?_
        exact R _ _ _ _ dX7_count_247 ⟨congrArg (fun z => some (jv z)) (by first | (exfalso; omega) | (unfold countX; (repeat (first | rw [if_pos (by omega)] | rw [if_neg (by omega)])); (first | done | rfl | omega))), rfl⟩
      · skip
        refine g_tblIn X (tgt := 244) (off := 220) dX7_count_24 ⟨by omega, by omega⟩ (by omega) (by omega) (by rw [c22]; decide) (by decide) ?_
        refine g_ldc2 X (n := -1) dX7_count_244 wK_X7_140 (by decide) ?_
        exact R _ _ _ _ dX7_count_247 ⟨congrArg (fun z => some (jv z)) (by first | (exfalso; omega) | (unfold countX; (repeat (first | rw [if_pos (by omega)] | rw [if_neg (by omega)])); (first | done | rfl | omega))), rfl⟩
      · skip
        refine g_tblIn X (tgt := 244) (off := 220) dX7_count_24 ⟨by omega, by omega⟩ (by omega) (by omega) (by rw [c22]; decide) (by decide) ?_
        refine g_ldc2 X (n := -1) dX7_count_244 wK_X7_140 (by decide) ?_
        exact R _ _ _ _ dX7_count_247 ⟨congrArg (fun z => some (jv z)) (by first | (exfalso; omega) | (unfold countX; (repeat (first | rw [if_pos (by omega)] | rw [if_neg (by omega)])); (first | done | rfl | omega))), rfl⟩
      · skip
        refine g_tblIn X (tgt := 244) (off := 220) dX7_count_24 ⟨by omega, by omega⟩ (by omega) (by omega) (by rw [c22]; decide) (by decide) ?_
        refine g_ldc2 X (n := -1) dX7_count_244 wK_X7_140 (by decide) ?_
        exact R _ _ _ _ dX7_count_247 ⟨congrArg (fun z => some (jv z)) (by first | (exfalso; omega) | (unfold countX; (repeat (first | rw [if_pos (by omega)] | rw [if_neg (by omega)])); (first | done | rfl | omega))), rfl⟩
      · skip
        refine g_tblIn X (tgt := 244) (off := 220) dX7_count_24 ⟨by omega, by omega⟩ (by omega) (by omega) (by rw [c22]; decide) (by decide) ?_
        refine g_ldc2 X (n := -1) dX7_count_244 wK_X7_140 (by decide) ?_
        exact R _ _ _ _ dX7_count_247 ⟨congrArg (fun z => some (jv z)) (by first | (exfalso; omega) | (unfold countX; (repeat (first | rw [if_pos (by omega)] | rw [if_neg (by omega)])); (first | done | rfl | omega))), rfl⟩
      · skip
        refine g_tblIn X (tgt := 244) (off := 220) dX7_count_24 ⟨by omega, by omega⟩ (by omega) (by omega) (by rw [c22]; decide) (by decide) ?_
        refine g_ldc2 X (n := -1) dX7_count_244 wK_X7_140 (by decide) ?_
        exact R _ _ _ _ dX7_count_247 ⟨congrArg (fun z => some (jv z)) (by first | (exfalso; omega) | (unfold countX; (repeat (first | rw [if_pos (by omega)] | rw [if_neg (by omega)])); (first | done | rfl | omega))), rfl⟩
      · skip
        refine g_tblIn X (tgt := 244) (off := 220) dX7_count_24 ⟨by omega, by omega⟩ (by omega) (by omega) (by rw [c22]; decide) (by decide) ?_
        refine g_ldc2 X (n := -1) dX7_count_244 wK_X7_140 (by decide) ?_
        exact R _ _ _ _ dX7_count_247 ⟨congrArg (fun z => some (jv z)) (by first | (exfalso; omega) | (unfold countX; (repeat (first | rw [if_pos (by omega)] | rw [if_neg (by omega)])); (first | done | rfl | omega))), rfl⟩
      · skip
        refine g_tblIn X (tgt := 244) (off := 220) dX7_count_24 ⟨by omega, by omega⟩ (by omega) (by omega) (by rw [c22]; decide) (by decide) ?_
        refine g_ldc2 X (n := -1) dX7_count_244 wK_X7_140 (by decide) ?_
        exact R _ _ _ _ dX7_count_247 ⟨congrArg (fun z => some (jv z)) (by first | (exfalso; omega) | (unfold countX; (repeat (first | rw [if_pos (by omega)] | rw [if_neg (by omega)])); (first | done | rfl | omega))), rfl⟩
      · skip
        refine g_tblIn X (tgt := 244) (off := 220) dX7_count_24 ⟨by omega, by omega⟩ (by omega) (by omega) (by rw [c22]; decide) (by decide) ?_
        refine g_ldc2 X (n := -1) dX7_count_244 wK_X7_140 (by decide) ?_
        exact R _ _ _ _ dX7_count_247 ⟨congrArg (fun z => some (jv z)) (by first | (exfalso; omega) | (unfold countX; (repeat (first | rw [if_pos (by omega)] | rw [if_neg (by omega)])); (first | done | rfl | omega))), rfl⟩
      · skip
        refine g_tblIn X (tgt := 244) (off := 220) dX7_count_24 ⟨by omega, by omega⟩ (by omega) (by omega) (by rw [c22]; decide) (by decide) ?_
        refine g_ldc2 X (n := -1) dX7_count_244 wK_X7_140 (by decide) ?_
        exact R _ _ _ _ dX7_count_247 ⟨congrArg (fun z => some (jv z)) (by first | (exfalso; omega) | (unfold countX; (repeat (first | rw [if_pos (by omega)] | rw [if_neg (by omega)])); (first | done | rfl | omega))), rfl⟩
      · skip
        refine g_tblIn X (tgt := 244) (off := 220) dX7_count_24 ⟨by omega, by omega⟩ (by omega) (by omega) (by rw [c22]; decide) (by decide) ?_
        refine g_ldc2 X (n := -1) dX7_count_244 wK_X7_140 (by decide) ?_
        exact R _ _ _ _ dX7_count_247 ⟨congrArg (fun z => some (jv z)) (by first | (exfalso; omega) | (unfold countX; (repeat (first | rw [if_pos (by omega)] | rw [if_neg (by omega)])); (first | done | rfl | omega))), rfl⟩
      · skip
        refine g_tblIn X (tgt := 204) (off := 180) dX7_count_24 ⟨by omega, by omega⟩ (by omega) (by omega) (by rw [c22]; decide) (by decide) ?_
        refine g_aload_n X dX7_count_204 rfl ?_
        refine gf_X7_10 X fk0 dX7_count_205 ?_
        refine gf_X7_125 X now_k (hS.2.2.2.2.2.1.2.1) dX7_count_208 ?_
        exact R _ _ _ _ dX7_count_211 ⟨congrArg (fun z => some (jv z)) (by first | (exfalso; omega) | (unfold countX; (repeat (first | rw [if_pos (by omega)] | rw [if_neg (by omega)])); (first | done | rfl | omega))), rfl⟩
      · skip
        refine g_tblIn X (tgt := 212) (off := 188) dX7_count_24 ⟨by omega, by omega⟩ (by omega) (by omega) (by rw [c22]; decide) (by decide) ?_
        refine g_aload_n X dX7_count_212 rfl ?_
        refine gf_X7_10 X fk0 dX7_count_213 ?_
        refine gf_X7_128 X now_k (hS.2.2.2.2.2.1.2.2.1) dX7_count_216 ?_
        exact R _ _ _ _ dX7_count_219 ⟨congrArg (fun z => some (jv z)) (by first | (exfalso; omega) | (unfold countX; (repeat (first | rw [if_pos (by omega)] | rw [if_neg (by omega)])); (first | done | rfl | omega))), rfl⟩
      · skip
        refine g_tblIn X (tgt := 220) (off := 196) dX7_count_24 ⟨by omega, by omega⟩ (by omega) (by omega) (by rw [c22]; decide) (by decide) ?_
        refine g_aload_n X dX7_count_220 rfl ?_
        refine gf_X7_10 X fk0 dX7_count_221 ?_
        refine gf_X7_131 X now_k (hS.2.2.2.2.2.1.2.2.2.1) dX7_count_224 ?_
        exact R _ _ _ _ dX7_count_227 ⟨congrArg (fun z => some (jv z)) (by first | (exfalso; omega) | (unfold countX; (repeat (first | rw [if_pos (by omega)] | rw [if_neg (by omega)])); (first | done | rfl | omega))), rfl⟩
      · skip
        refine g_tblIn X (tgt := 228) (off := 204) dX7_count_24 ⟨by omega, by omega⟩ (by omega) (by omega) (by rw [c22]; decide) (by decide) ?_
        refine g_aload_n X dX7_count_228 rfl ?_
        refine gf_X7_10 X fk0 dX7_count_229 ?_
        refine gf_X7_134 X now_k (hS.2.2.2.2.2.1.2.2.2.2.1) dX7_count_232 ?_
        exact R _ _ _ _ dX7_count_235 ⟨congrArg (fun z => some (jv z)) (by first | (exfalso; omega) | (unfold countX; (repeat (first | rw [if_pos (by omega)] | rw [if_neg (by omega)])); (first | done | rfl | omega))), rfl⟩
      · skip
        refine g_tblIn X (tgt := 236) (off := 212) dX7_count_24 ⟨by omega, by omega⟩ (by omega) (by omega) (by rw [c22]; decide) (by decide) ?_
        refine g_aload_n X dX7_count_236 rfl ?_
        refine gf_X7_10 X fk0 dX7_count_237 ?_
        refine gf_X7_137 X now_k (hS.2.2.2.2.2.1.2.2.2.2.2) dX7_count_240 ?_
        exact R _ _ _ _ dX7_count_243 ⟨congrArg (fun z => some (jv z)) (by first | (exfalso; omega) | (unfold countX; (repeat (first | rw [if_pos (by omega)] | rw [if_neg (by omega)])); (first | done | rfl | omega))), rfl⟩
      · skip
        refine g_tblOut X (tgt := 244) dX7_count_24 ⟨by omega, by omega⟩ c22 (by decide) ?_
        refine g_ldc2 X (n := -1) dX7_count_244 wK_X7_140 (by decide) ?_
        exact R _ _ _ _ dX7_count_247 ⟨congrArg (fun z => some (jv z)) (by first | (exfalso; omega) | (unfold countX; (repeat (first | rw [if_pos (by omega)] | rw [if_neg (by omega)])); (first | done | rfl | omega))), rfl⟩
set_option maxHeartbeats 1000000 in
set_option maxRecDepth 100000 in
theorem c_X7_pile (l : Launch) (E : wEnv) (σ : Mem) (s : St) (N : Int) (hC : CRep σ s N) (hN : N + 600 ≤ 400000) (x y t : Int) (hx : I32 x) (hy : I32 y) (ht : I32 t) : MetC l E yX7_pile cX7_pile 4 (some .int) 4 127 [rv E (0), iv (x), iv (y), iv (t)] σ (fun v σ' => v = some (iv (pileX s x y t).1) ∧ CRep σ' (pileX s x y t).2 (N + 600) ∧ frM σ σ') := by
  refine MetC.of (own := RX7) (by decide) rfl (by simp [Value.category]) (Nat.le_of_ble_eq_true rfl) [some (rv E (0)), some (iv (x)), some (iv (y)), some (iv (t))] rfl (by simp) (fun K X R => ?_)
  have hS := hC.1
  have hR := hC.2.1
  have hH := hC.2.2.1
  have hI := hC.2.2.2.1
  have hT := hC.2.2.2.2
  have r19 := hR.2.2.2.2.1
  have r0 := hR.1
  have rN := hR.2.2.2.2.2.1
  have ti := taken_iff (r := s.1) (x := x) (y := y) r19.1
  refine g_iload_n X dX7_pile_0 rfl ?_
  refine g_iconst X dX7_pile_1 ?_
  refine g_sipush X dX7_pile_2 (by decide) ?_
  refine cl_X7_54 X (c_X7_inRange l E σ x 0 20000 ⟨by omega, by omega⟩ ⟨by decide, by decide⟩ ⟨by decide, by decide⟩) ⟨Nat.le_of_ble_eq_true rfl, Nat.le_of_ble_eq_true rfl⟩ rfl (Nat.le_of_ble_eq_true rfl) dX7_pile_5 rfl (fun v1 τ2 p3 => ?_)
  obtain ⟨rfl, ⟨b4, rfl⟩ | ⟨b4, rfl⟩⟩ := p3
  · skip
    skip
    refine g_if_eq X (tgt := 34) dX7_pile_8 (by decide) ⟨by decide, by decide⟩ (fun q => absurd q (by decide)) (fun _ => ?_)
    refine g_iload_n X dX7_pile_11 rfl ?_
    refine g_iconst X dX7_pile_12 ?_
    refine g_sipush X dX7_pile_13 (by decide) ?_
    refine cl_X7_54 X (c_X7_inRange l E σ y 0 20000 ⟨by omega, by omega⟩ ⟨by decide, by decide⟩ ⟨by decide, by decide⟩) ⟨Nat.le_of_ble_eq_true rfl, Nat.le_of_ble_eq_true rfl⟩ rfl (Nat.le_of_ble_eq_true rfl) dX7_pile_16 rfl (fun v5 τ6 p7 => ?_)
    obtain ⟨rfl, ⟨b8, rfl⟩ | ⟨b8, rfl⟩⟩ := p7
    · skip
      skip
      refine g_if_eq X (tgt := 34) dX7_pile_19 (by decide) ⟨by decide, by decide⟩ (fun q => absurd q (by decide)) (fun _ => ?_)
      refine g_iload_n X dX7_pile_22 rfl ?_
      refine g_sipush X dX7_pile_23 (by decide) ?_
      refine g_ldc X (n := 50000) dX7_pile_26 wK_X7_142 (by decide) ?_
      refine cl_X7_54 X (c_X7_inRange l E σ t 1000 50000 ⟨by omega, by omega⟩ ⟨by decide, by decide⟩ ⟨by decide, by decide⟩) ⟨Nat.le_of_ble_eq_true rfl, Nat.le_of_ble_eq_true rfl⟩ rfl (Nat.le_of_ble_eq_true rfl) dX7_pile_28 rfl (fun v9 τ10 p11 => ?_)
      obtain ⟨rfl, ⟨b12, rfl⟩ | ⟨b12, rfl⟩⟩ := p11
      · skip
        skip
        refine g_if_ne X (tgt := 36) dX7_pile_31 (by decide) ⟨by decide, by decide⟩ (fun _ => ?_) (fun q => absurd q (by decide))
        refine g_aload_n X dX7_pile_36 rfl ?_
        refine gf_X7_10 X fk0 dX7_pile_37 ?_
        refine g_iload_n X dX7_pile_40 rfl ?_
        refine g_iload_n X dX7_pile_41 rfl ?_
        refine cl_X7_143 X (c_X6_isTaken l E σ 25 s.1 N now_k hS hR x y  ⟨by omega, by omega⟩ ⟨by omega, by omega⟩) now_k ⟨Nat.le_of_ble_eq_true rfl, Nat.le_of_ble_eq_true rfl⟩ rfl (Nat.le_of_ble_eq_true rfl) dX7_pile_42 rfl (fun v13 τ14 p15 => ?_)
        obtain ⟨rfl, ⟨b16, rfl⟩ | ⟨b16, rfl⟩⟩ := p15
        · skip
          skip
          refine g_if_eq X (tgt := 51) dX7_pile_45 (by decide) ⟨by decide, by decide⟩ (fun q => absurd q (by decide)) (fun _ => ?_)
          refine g_bipush X dX7_pile_48 (by decide) ?_
          exact R _ _ _ _ dX7_pile_50 (by unfold pileX; rw [if_pos (by omega), if_pos (by rw [ti]; assumption)]; exact ⟨rfl, hC.mono (by omega) hN, frM.refl⟩)
        · skip
          skip
          refine g_if_eq X (tgt := 51) dX7_pile_45 (by decide) ⟨by decide, by decide⟩ (fun _ => ?_) (fun q => absurd q (by decide))
          refine g_aload_n X dX7_pile_51 rfl ?_
          refine gf_X7_10 X fk0 dX7_pile_52 ?_
          refine gf_X7_104 X now_k (hS.2.2.2.2.1) dX7_pile_55 ?_
          refine g_bipush X dX7_pile_58 (by decide) ?_
          refine g_icmp_lt X (tgt := 66) dX7_pile_60 (by decide) ⟨by omega, by omega⟩ ⟨by decide, by decide⟩ (fun c17 => ?_) (fun c17 => ?_)
          · skip
            refine g_aload_n X dX7_pile_66 rfl ?_
            refine gf_X7_19 X fk0 dX7_pile_67 ?_
            refine g_aload_n X dX7_pile_70 rfl ?_
            refine gf_X7_10 X fk0 dX7_pile_71 ?_
            refine cl_X7_58 X (c_X2_remember l E σ s.2.1 s.2.2.1 s.1 N hH hI hS hR) fk1 ⟨Nat.le_of_ble_eq_true rfl, Nat.le_of_ble_eq_true rfl⟩ rfl (Nat.le_of_ble_eq_true rfl) dX7_pile_74 rfl (fun v18 τ19 p20 => ?_)
            obtain ⟨rfl, hH74, hS74, hF74⟩ := p20
            refine g_aload_n X dX7_pile_77 rfl ?_
            refine gf_X7_10 X fk0 dX7_pile_78 ?_
            refine g_iload_n X dX7_pile_81 rfl ?_
            refine g_iload_n X dX7_pile_82 rfl ?_
            refine g_iload_n X dX7_pile_83 rfl ?_
            refine cl_X7_147 X (c_X6_place l E τ19 25 s.1 N now_k hS74 hR x y t (by omega)) now_k ⟨Nat.le_of_ble_eq_true rfl, Nat.le_of_ble_eq_true rfl⟩ rfl (Nat.le_of_ble_eq_true rfl) dX7_pile_84 rfl (fun v21 τ22 p23 => ?_)
            obtain ⟨rfl, hS84, hF84⟩ := p23
            exact R _ _ _ _ dX7_pile_87 (by unfold pileX; rw [if_pos (by omega), if_neg (by rw [ti]; assumption), if_neg (by omega)]; exact ⟨rfl, hC.chg hH74 hF74 hS84 ((place_inv hR (by omega) (by omega) (by omega) (by omega) (by omega)).mono (by omega) hN) hF84 hN⟩)
          · skip
            refine g_bipush X dX7_pile_63 (by decide) ?_
            exact R _ _ _ _ dX7_pile_65 (by unfold pileX; rw [if_pos (by omega), if_neg (by rw [ti]; assumption), if_pos (by omega)]; exact ⟨rfl, hC.mono (by omega) hN, frM.refl⟩)
      · skip
        skip
        refine g_if_ne X (tgt := 36) dX7_pile_31 (by decide) ⟨by decide, by decide⟩ (fun q => absurd q (by decide)) (fun _ => ?_)
        refine g_iconst X dX7_pile_34 ?_
        exact R _ _ _ _ dX7_pile_35 (by unfold pileX; rw [if_neg (by omega)]; exact ⟨rfl, hC.mono (by omega) hN, frM.refl⟩)
    · skip
      skip
      refine g_if_eq X (tgt := 34) dX7_pile_19 (by decide) ⟨by decide, by decide⟩ (fun _ => ?_) (fun q => absurd q (by decide))
      refine g_iconst X dX7_pile_34 ?_
      exact R _ _ _ _ dX7_pile_35 (by unfold pileX; rw [if_neg (by omega)]; exact ⟨rfl, hC.mono (by omega) hN, frM.refl⟩)
  · skip
    skip
    refine g_if_eq X (tgt := 34) dX7_pile_8 (by decide) ⟨by decide, by decide⟩ (fun _ => ?_) (fun q => absurd q (by decide))
    refine g_iconst X dX7_pile_34 ?_
    exact R _ _ _ _ dX7_pile_35 (by unfold pileX; rw [if_neg (by omega)]; exact ⟨rfl, hC.mono (by omega) hN, frM.refl⟩)
set_option maxHeartbeats 1000000 in
set_option maxRecDepth 100000 in
theorem c_X7_pileOf (l : Launch) (E : wEnv) (σ : Mem) (s : St) (N : Int) (hC : CRep σ s N) (hN : N + 600 ≤ 400000) (p w : Int) (hp : I32 p) (hw : I32 w) : MetC l E yX7_pileOf cX7_pileOf 4 (some .int) 3 68 [rv E (0), iv (p), iv (w)] σ (fun v σ' => v = some (iv (pileOfX s p w)) ∧ σ = σ') := by
  refine MetC.of (own := RX7) (by decide) rfl (by simp [Value.category]) (Nat.le_of_ble_eq_true rfl) [some (rv E (0)), some (iv (p)), some (iv (w)), none] rfl (by simp) (fun K X R => ?_)
  have hS := hC.1
  have hR := hC.2.1
  have hH := hC.2.2.1
  have hI := hC.2.2.2.1
  have hT := hC.2.2.2.2
  have r19 := hR.2.2.2.2.1
  have r0 := hR.1
  have rN := hR.2.2.2.2.2.1
  refine g_aload_n X dX7_pileOf_0 rfl ?_
  refine gf_X7_10 X fk0 dX7_pileOf_1 ?_
  refine g_iload_n X dX7_pileOf_4 rfl ?_
  refine cl_X7_151 X (c_X6_pileAt l E σ 25 s.1 N now_k hS hR p ⟨by omega, by omega⟩) now_k ⟨Nat.le_of_ble_eq_true rfl, Nat.le_of_ble_eq_true rfl⟩ rfl (Nat.le_of_ble_eq_true rfl) dX7_pileOf_5 rfl (fun v1 τ2 p3 => ?_)
  obtain ⟨rfl, ⟨b4, rfl⟩ | ⟨b4, rfl⟩⟩ := p3
  · skip
    have hp5 := (hS.2.2.2.2.2.2 (p).toNat (by omega))
    have hf5 := hp5.f
    have hi5 := hR.2.2.2.2.2.2 (p).toNat (by omega)
    have hj5 := hi5.f
    refine g_astore_n X (lw := [some (rv E (0)), some (iv (p)), some (iv (w)), some (rv E ((25 + 5 + 1 + 3 * (p).toNat)))]) dX7_pileOf_8 (by decide) rfl rfl ?_
    refine g_aload_n X dX7_pileOf_9 rfl ?_
    refine g_ifnonnull X (tgt := 15) dX7_pileOf_10 (by decide) ?_
    refine g_iload_n X dX7_pileOf_15 rfl ?_
    rcases (show w = 0 ∨ w = 1 ∨ w = 2 ∨ w = 3 ∨ w = 4 ∨ w = 5 ∨ w = 6 ∨ w = 7 ∨ w = 8 ∨ w = 9 ∨ w = 10 ∨ w = 11 ∨ w = 12 ∨ (w < 0 ∨ 12 < w) by omega) with c5 | c5 | c5 | c5 | c5 | c5 | c5 | c5 | c5 | c5 | c5 | c5 | c5 | c5
    · skip
      refine g_tblIn X (tgt := 84) (off := 68) dX7_pileOf_16 ⟨by omega, by omega⟩ (by omega) (by omega) (by rw [c5]; decide) (by decide) ?_
      refine g_aload_n X dX7_pileOf_84 rfl ?_
      refine gf_X7_155 X (stP now_k (p).toNat (by omega)) ((hS.2.2.2.2.2.2 (p).toNat (by omega)).f.2.1) dX7_pileOf_85 ?_
      exact R _ _ _ _ dX7_pileOf_88 ⟨congrArg (fun z => some (iv z)) (by first | (exfalso; omega) | (unfold pileOfX; (repeat (first | rw [if_pos (by omega)] | rw [if_neg (by omega)])); (first | done | rfl | omega | (unfold allowR; rfl) | exact congrArg s.1 (by omega)))), rfl⟩
    · skip
      refine g_tblIn X (tgt := 89) (off := 73) dX7_pileOf_16 ⟨by omega, by omega⟩ (by omega) (by omega) (by rw [c5]; decide) (by decide) ?_
      refine g_aload_n X dX7_pileOf_89 rfl ?_
      refine gf_X7_160 X (stP now_k (p).toNat (by omega)) ((hS.2.2.2.2.2.2 (p).toNat (by omega)).f.2.2.1) dX7_pileOf_90 ?_
      exact R _ _ _ _ dX7_pileOf_93 ⟨congrArg (fun z => some (iv z)) (by first | (exfalso; omega) | (unfold pileOfX; (repeat (first | rw [if_pos (by omega)] | rw [if_neg (by omega)])); (first | done | rfl | omega | (unfold allowR; rfl) | exact congrArg s.1 (by omega)))), rfl⟩
    · skip
      refine g_tblIn X (tgt := 94) (off := 78) dX7_pileOf_16 ⟨by omega, by omega⟩ (by omega) (by omega) (by rw [c5]; decide) (by decide) ?_
      refine g_aload_n X dX7_pileOf_94 rfl ?_
      refine gf_X7_163 X (stP now_k (p).toNat (by omega)) ((hS.2.2.2.2.2.2 (p).toNat (by omega)).f.2.2.2.1) dX7_pileOf_95 ?_
      exact R _ _ _ _ dX7_pileOf_98 ⟨congrArg (fun z => some (iv z)) (by first | (exfalso; omega) | (unfold pileOfX; (repeat (first | rw [if_pos (by omega)] | rw [if_neg (by omega)])); (first | done | rfl | omega | (unfold allowR; rfl) | exact congrArg s.1 (by omega)))), rfl⟩
    · skip
      refine g_tblIn X (tgt := 99) (off := 83) dX7_pileOf_16 ⟨by omega, by omega⟩ (by omega) (by omega) (by rw [c5]; decide) (by decide) ?_
      refine g_aload_n X dX7_pileOf_99 rfl ?_
      refine gf_X7_164 X (stP now_k (p).toNat (by omega)) ((hS.2.2.2.2.2.2 (p).toNat (by omega)).f.2.2.2.2.1) dX7_pileOf_100 ?_
      exact R _ _ _ _ dX7_pileOf_103 ⟨congrArg (fun z => some (iv z)) (by first | (exfalso; omega) | (unfold pileOfX; (repeat (first | rw [if_pos (by omega)] | rw [if_neg (by omega)])); (first | done | rfl | omega | (unfold allowR; rfl) | exact congrArg s.1 (by omega)))), rfl⟩
    · skip
      refine g_tblIn X (tgt := 104) (off := 88) dX7_pileOf_16 ⟨by omega, by omega⟩ (by omega) (by omega) (by rw [c5]; decide) (by decide) ?_
      refine g_aload_n X dX7_pileOf_104 rfl ?_
      refine gf_X7_167 X (stP now_k (p).toNat (by omega)) ((hS.2.2.2.2.2.2 (p).toNat (by omega)).f.2.2.2.2.2.1) dX7_pileOf_105 ?_
      exact R _ _ _ _ dX7_pileOf_108 ⟨congrArg (fun z => some (iv z)) (by first | (exfalso; omega) | (unfold pileOfX; (repeat (first | rw [if_pos (by omega)] | rw [if_neg (by omega)])); (first | done | rfl | omega | (unfold allowR; rfl) | exact congrArg s.1 (by omega)))), rfl⟩
    · skip
      refine g_tblIn X (tgt := 109) (off := 93) dX7_pileOf_16 ⟨by omega, by omega⟩ (by omega) (by omega) (by rw [c5]; decide) (by decide) ?_
      refine g_aload_n X dX7_pileOf_109 rfl ?_
      refine gf_X7_167 X (stP now_k (p).toNat (by omega)) ((hS.2.2.2.2.2.2 (p).toNat (by omega)).f.2.2.2.2.2.1) dX7_pileOf_110 ?_
      refine g_if_le X (tgt := 123) dX7_pileOf_113 (by decide) ⟨by omega, by omega⟩ (fun c6 => ?_) (fun c6 => ?_)
      · skip
        refine g_bipush X dX7_pileOf_123 (by decide) ?_
        exact R _ _ _ _ dX7_pileOf_125 ⟨congrArg (fun z => some (iv z)) (by first | (exfalso; omega) | (unfold pileOfX; (repeat (first | rw [if_pos (by omega)] | rw [if_neg (by omega)])); (first | done | rfl | omega | (unfold allowR; rfl) | exact congrArg s.1 (by omega)))), rfl⟩
      · skip
        refine g_aload_n X dX7_pileOf_116 rfl ?_
        refine gf_X7_170 X (stP now_k (p).toNat (by omega)) ((hS.2.2.2.2.2.2 (p).toNat (by omega)).f.2.2.2.2.2.2.1) dX7_pileOf_117 ?_
        refine g_goto X (tgt := 125) dX7_pileOf_120 (by decide) ?_
        exact R _ _ _ _ dX7_pileOf_125 ⟨congrArg (fun z => some (iv z)) (by first | (exfalso; omega) | (unfold pileOfX; (repeat (first | rw [if_pos (by omega)] | rw [if_neg (by omega)])); (first | done | rfl | omega | (unfold allowR; rfl) | exact congrArg s.1 (by omega)))), rfl⟩
    · skip
      refine g_tblIn X (tgt := 126) (off := 110) dX7_pileOf_16 ⟨by omega, by omega⟩ (by omega) (by omega) (by rw [c5]; decide) (by decide) ?_
      refine g_aload_n X dX7_pileOf_126 rfl ?_
      refine gf_X7_167 X (stP now_k (p).toNat (by omega)) ((hS.2.2.2.2.2.2 (p).toNat (by omega)).f.2.2.2.2.2.1) dX7_pileOf_127 ?_
      refine g_if_le X (tgt := 144) dX7_pileOf_130 (by decide) ⟨by omega, by omega⟩ (fun c7 => ?_) (fun c7 => ?_)
      · skip
        refine g_bipush X dX7_pileOf_144 (by decide) ?_
        exact R _ _ _ _ dX7_pileOf_146 ⟨congrArg (fun z => some (iv z)) (by first | (exfalso; omega) | (unfold pileOfX; (repeat (first | rw [if_pos (by omega)] | rw [if_neg (by omega)])); (first | done | rfl | omega | (unfold allowR; rfl) | exact congrArg s.1 (by omega)))), rfl⟩
      · skip
        refine g_aload_n X dX7_pileOf_133 rfl ?_
        refine gf_X7_10 X fk0 dX7_pileOf_134 ?_
        refine g_aload_n X dX7_pileOf_137 rfl ?_
        refine cl_X7_173 X (c_X6_allowedLoad l E σ 25 s.1 N now_k hS hR ((p).toNat) (by omega) ) now_k ⟨Nat.le_of_ble_eq_true rfl, Nat.le_of_ble_eq_true rfl⟩ rfl (Nat.le_of_ble_eq_true rfl) dX7_pileOf_138 rfl (fun v8 τ9 p10 => ?_)
        obtain ⟨rfl, rfl⟩ := p10
        refine g_goto X (tgt := 146) dX7_pileOf_141 (by decide) ?_
        exact R _ _ _ _ dX7_pileOf_146 ⟨congrArg (fun z => some (iv z)) (by show allowR s.1 p.toNat = _; unfold pileOfX; (repeat (first | rw [if_pos (by omega)] | rw [if_neg (by omega)]))), rfl⟩
    · skip
      refine g_tblIn X (tgt := 147) (off := 131) dX7_pileOf_16 ⟨by omega, by omega⟩ (by omega) (by omega) (by rw [c5]; decide) (by decide) ?_
      refine g_aload_n X dX7_pileOf_147 rfl ?_
      refine gf_X7_177 X (stP now_k (p).toNat (by omega)) ((hS.2.2.2.2.2.2 (p).toNat (by omega)).f.2.2.2.2.2.2.2.1) dX7_pileOf_148 ?_
      refine g_if_eq X (tgt := 158) dX7_pileOf_151 (by decide) ⟨by omega, by omega⟩ (fun c11 => ?_) (fun c11 => ?_)
      · skip
        refine g_iconst X dX7_pileOf_158 ?_
        exact R _ _ _ _ dX7_pileOf_159 ⟨congrArg (fun z => some (iv z)) (by first | (exfalso; omega) | (unfold pileOfX; (repeat (first | rw [if_pos (by omega)] | rw [if_neg (by omega)])); (first | done | rfl | omega | (unfold allowR; rfl) | exact congrArg s.1 (by omega)))), rfl⟩
      · skip
        refine g_iconst X dX7_pileOf_154 ?_
        refine g_goto X (tgt := 159) dX7_pileOf_155 (by decide) ?_
        exact R _ _ _ _ dX7_pileOf_159 ⟨congrArg (fun z => some (iv z)) (by first | (exfalso; omega) | (unfold pileOfX; (repeat (first | rw [if_pos (by omega)] | rw [if_neg (by omega)])); (first | done | rfl | omega | (unfold allowR; rfl) | exact congrArg s.1 (by omega)))), rfl⟩
    · skip
      refine g_tblIn X (tgt := 160) (off := 144) dX7_pileOf_16 ⟨by omega, by omega⟩ (by omega) (by omega) (by rw [c5]; decide) (by decide) ?_
      refine g_aload_n X dX7_pileOf_160 rfl ?_
      refine gf_X7_181 X (stP now_k (p).toNat (by omega)) ((hS.2.2.2.2.2.2 (p).toNat (by omega)).f.2.2.2.2.2.2.2.2.1) dX7_pileOf_161 ?_
      exact R _ _ _ _ dX7_pileOf_164 ⟨congrArg (fun z => some (iv z)) (by first | (exfalso; omega) | (unfold pileOfX; (repeat (first | rw [if_pos (by omega)] | rw [if_neg (by omega)])); (first | done | rfl | omega | (unfold allowR; rfl) | exact congrArg s.1 (by omega)))), rfl⟩
    · skip
      refine g_tblIn X (tgt := 165) (off := 149) dX7_pileOf_16 ⟨by omega, by omega⟩ (by omega) (by omega) (by rw [c5]; decide) (by decide) ?_
      refine g_aload_n X dX7_pileOf_165 rfl ?_
      refine gf_X7_183 X (stP now_k (p).toNat (by omega)) ((hS.2.2.2.2.2.2 (p).toNat (by omega)).f.2.2.2.2.2.2.2.2.2.1) dX7_pileOf_166 ?_
      exact R _ _ _ _ dX7_pileOf_169 ⟨congrArg (fun z => some (iv z)) (by first | (exfalso; omega) | (unfold pileOfX; (repeat (first | rw [if_pos (by omega)] | rw [if_neg (by omega)])); (first | done | rfl | omega | (unfold allowR; rfl) | exact congrArg s.1 (by omega)))), rfl⟩
    · skip
      refine g_tblIn X (tgt := 170) (off := 154) dX7_pileOf_16 ⟨by omega, by omega⟩ (by omega) (by omega) (by rw [c5]; decide) (by decide) ?_
      refine g_aload_n X dX7_pileOf_170 rfl ?_
      refine gf_X7_185 X (stP now_k (p).toNat (by omega)) ((hS.2.2.2.2.2.2 (p).toNat (by omega)).f.2.2.2.2.2.2.2.2.2.2) dX7_pileOf_171 ?_
      exact R _ _ _ _ dX7_pileOf_174 ⟨congrArg (fun z => some (iv z)) (by first | (exfalso; omega) | (unfold pileOfX; (repeat (first | rw [if_pos (by omega)] | rw [if_neg (by omega)])); (first | done | rfl | omega | (unfold allowR; rfl) | exact congrArg s.1 (by omega)))), rfl⟩
    · skip
      refine g_tblIn X (tgt := 175) (off := 159) dX7_pileOf_16 ⟨by omega, by omega⟩ (by omega) (by omega) (by rw [c5]; decide) (by decide) ?_
      refine g_aload_n X dX7_pileOf_175 rfl ?_
      refine gf_X7_10 X fk0 dX7_pileOf_176 ?_
      refine g_aload_n X dX7_pileOf_179 rfl ?_
      refine cl_X7_187 X (c_X6_pilesNear l E σ 25 s.1 N now_k hS hR ((p).toNat) (by omega) ) now_k ⟨Nat.le_of_ble_eq_true rfl, Nat.le_of_ble_eq_true rfl⟩ rfl (Nat.le_of_ble_eq_true rfl) dX7_pileOf_180 rfl (fun v12 τ13 p14 => ?_)
      obtain ⟨rfl, rfl⟩ := p14
      exact R _ _ _ _ dX7_pileOf_183 ⟨congrArg (fun z => some (iv z)) (by first | (exfalso; omega) | (unfold pileOfX; (repeat (first | rw [if_pos (by omega)] | rw [if_neg (by omega)])); (first | done | rfl | omega | (unfold allowR; rfl) | exact congrArg s.1 (by omega)))), rfl⟩
    · skip
      refine g_tblIn X (tgt := 184) (off := 168) dX7_pileOf_16 ⟨by omega, by omega⟩ (by omega) (by omega) (by rw [c5]; decide) (by decide) ?_
      refine g_aload_n X dX7_pileOf_184 rfl ?_
      refine gf_X7_190 X (stP now_k (p).toNat (by omega)) ((hS.2.2.2.2.2.2 (p).toNat (by omega)).f.1) dX7_pileOf_185 ?_
      exact R _ _ _ _ dX7_pileOf_188 ⟨congrArg (fun z => some (iv z)) (by first | (exfalso; omega) | (unfold pileOfX; (repeat (first | rw [if_pos (by omega)] | rw [if_neg (by omega)])); (first | done | rfl | omega | (unfold allowR; rfl) | exact congrArg s.1 (by omega)))), rfl⟩
    · skip
      refine g_tblOut X (tgt := 189) dX7_pileOf_16 ⟨by omega, by omega⟩ c5 (by decide) ?_
      refine g_iconst X dX7_pileOf_189 ?_
      exact R _ _ _ _ dX7_pileOf_190 ⟨congrArg (fun z => some (iv z)) (by first | (exfalso; omega) | (unfold pileOfX; (repeat (first | rw [if_pos (by omega)] | rw [if_neg (by omega)])); (first | done | rfl | omega | (unfold allowR; rfl) | exact congrArg s.1 (by omega)))), rfl⟩
  · skip
    refine g_astore_nN X (lw := [some (rv E (0)), some (iv (p)), some (iv (w)), some (Value.null)]) dX7_pileOf_8 (by decide) rfl rfl ?_
    refine g_aload_nN X dX7_pileOf_9 rfl ?_
    refine g_ifnonnullN X dX7_pileOf_10 ?_
    refine g_iconst X dX7_pileOf_13 ?_
    exact R _ _ _ _ dX7_pileOf_14 ⟨congrArg (fun z => some (iv z)) (by first | (exfalso; omega) | (unfold pileOfX; (repeat (first | rw [if_pos (by omega)] | rw [if_neg (by omega)])); (first | done | rfl | omega | (unfold allowR; rfl) | exact congrArg s.1 (by omega)))), rfl⟩
set_option maxHeartbeats 1000000 in
set_option maxRecDepth 100000 in
theorem c_X7_blow (l : Launch) (E : wEnv) (σ : Mem) (s : St) (N : Int) (hC : CRep σ s N) (hN : N + 600 ≤ 400000) (p i w : Int) (hp : I32 p) (hi : I32 i) (hw : I32 w) : MetC l E yX7_blow cX7_blow 6 (some .int) 1 22 [rv E (0), iv (p), iv (i), iv (w)] σ (fun v σ' => v = some (iv (blowX s p i w)) ∧ σ = σ') := by
  refine MetC.of (own := RX7) (by decide) rfl (by simp [Value.category]) (Nat.le_of_ble_eq_true rfl) [some (rv E (0)), some (iv (p)), some (iv (i)), some (iv (w)), none, none] rfl (by simp) (fun K X R => ?_)
  have hS := hC.1
  have hR := hC.2.1
  have hH := hC.2.2.1
  have hI := hC.2.2.2.1
  have hT := hC.2.2.2.2
  have r19 := hR.2.2.2.2.1
  have r0 := hR.1
  have rN := hR.2.2.2.2.2.1
  refine g_aload_n X dX7_blow_0 rfl ?_
  refine gf_X7_10 X fk0 dX7_blow_1 ?_
  refine g_iload_n X dX7_blow_4 rfl ?_
  refine cl_X7_151 X (c_X6_pileAt l E σ 25 s.1 N now_k hS hR p ⟨by omega, by omega⟩) now_k ⟨Nat.le_of_ble_eq_true rfl, Nat.le_of_ble_eq_true rfl⟩ rfl (Nat.le_of_ble_eq_true rfl) dX7_blow_5 rfl (fun v1 τ2 p3 => ?_)
  obtain ⟨rfl, ⟨b4, rfl⟩ | ⟨b4, rfl⟩⟩ := p3
  · skip
    have hp5 := (hS.2.2.2.2.2.2 (p).toNat (by omega))
    have hf5 := hp5.f
    have hi5 := hR.2.2.2.2.2.2 (p).toNat (by omega)
    have hj5 := hi5.f
    refine g_astore X (lw := [some (rv E (0)), some (iv (p)), some (iv (i)), some (iv (w)), some (rv E ((25 + 5 + 1 + 3 * (p).toNat))), none]) dX7_blow_8 (by decide) rfl rfl ?_
    refine g_aload X dX7_blow_10 rfl ?_
    refine g_ifnull X dX7_blow_12 ?_
    refine g_iload_n X dX7_blow_15 rfl ?_
    refine g_if_lt X (tgt := 28) dX7_blow_16 (by decide) ⟨by omega, by omega⟩ (fun c5 => ?_) (fun c5 => ?_)
    · skip
      refine g_iconst X dX7_blow_28 ?_
      exact R _ _ _ _ dX7_blow_29 ⟨congrArg (fun z => some (iv z)) (by first | (exfalso; omega) | (unfold blowX; (repeat (first | rw [if_pos (by omega)] | rw [if_neg (by omega)])); first | done | exact (hp5.2.2 _ (by omega)).1 | exact (hp5.2.2 _ (by omega)).2)), rfl⟩
    · skip
      refine g_iload_n X dX7_blow_19 rfl ?_
      refine g_iconst X dX7_blow_20 ?_
      refine g_iconst X dX7_blow_21 ?_
      refine cl_X7_54 X (c_X7_inRange l E σ w 0 1 ⟨by omega, by omega⟩ ⟨by decide, by decide⟩ ⟨by decide, by decide⟩) ⟨Nat.le_of_ble_eq_true rfl, Nat.le_of_ble_eq_true rfl⟩ rfl (Nat.le_of_ble_eq_true rfl) dX7_blow_22 rfl (fun v6 τ7 p8 => ?_)
      obtain ⟨rfl, ⟨b9, rfl⟩ | ⟨b9, rfl⟩⟩ := p8
      · skip
        skip
        refine g_if_ne X (tgt := 30) dX7_blow_25 (by decide) ⟨by decide, by decide⟩ (fun _ => ?_) (fun q => absurd q (by decide))
        refine g_iload_n X dX7_blow_30 rfl ?_
        refine g_aload X dX7_blow_31 rfl ?_
        refine gf_X7_190 X (stP now_k (p).toNat (by omega)) ((hS.2.2.2.2.2.2 (p).toNat (by omega)).f.1) dX7_blow_33 ?_
        refine g_icmp_lt X (tgt := 42) dX7_blow_36 (by decide) ⟨by omega, by omega⟩ ⟨by omega, by omega⟩ (fun c10 => ?_) (fun c10 => ?_)
        · skip
          refine g_aload X dX7_blow_42 rfl ?_
          refine gf_X7_190 X (stP now_k (p).toNat (by omega)) ((hS.2.2.2.2.2.2 (p).toNat (by omega)).f.1) dX7_blow_44 ?_
          refine g_iconst X dX7_blow_47 ?_
          refine g_isub X dX7_blow_48 ?_
          refine g_iload_n X dX7_blow_49 rfl ?_
          refine g_isub X dX7_blow_50 ?_
          refine g_istore X (lw := [some (rv E (0)), some (iv (p)), some (iv (i)), some (iv (w)), some (rv E ((25 + 5 + 1 + 3 * (p).toNat))), some (iv (s.1 (24 + 91 * (p).toNat + 10) - 1 - i))]) dX7_blow_51 (by decide) rfl rfl ?_
          refine g_iload_n X dX7_blow_53 rfl ?_
          refine g_if_ne X (tgt := 67) dX7_blow_54 (by decide) ⟨by omega, by omega⟩ (fun c11 => ?_) (fun c11 => ?_)
          · skip
            refine g_aload X dX7_blow_67 rfl ?_
            refine g_iload X dX7_blow_69 rfl ?_
            refine cl_X7_196 X (c_X4_keptLoad l E σ ((25 + 5 + 1 + 3 * (p).toNat)) (s.1 (24 + 91 * (p).toNat + 10) - 1 - i) (stP now_k (p).toNat (by omega)) ⟨by omega, by omega⟩) (stP now_k (p).toNat (by omega)) ⟨Nat.le_of_ble_eq_true rfl, Nat.le_of_ble_eq_true rfl⟩ rfl (Nat.le_of_ble_eq_true rfl) dX7_blow_71 rfl (fun v12 τ13 p14 => ?_)
            obtain ⟨rfl, rfl⟩ := p14
            exact R _ _ _ _ dX7_blow_74 ⟨congrArg (fun z => some (iv z)) (by first | (exfalso; omega) | (unfold blowX; (repeat (first | rw [if_pos (by omega)] | rw [if_neg (by omega)])); first | done | exact (hp5.2.2 _ (by omega)).1 | exact (hp5.2.2 _ (by omega)).2)), rfl⟩
          · skip
            refine g_aload X dX7_blow_57 rfl ?_
            refine g_iload X dX7_blow_59 rfl ?_
            refine cl_X7_193 X (c_X4_keptSet l E σ ((25 + 5 + 1 + 3 * (p).toNat)) (s.1 (24 + 91 * (p).toNat + 10) - 1 - i) (stP now_k (p).toNat (by omega)) ⟨by omega, by omega⟩) (stP now_k (p).toNat (by omega)) ⟨Nat.le_of_ble_eq_true rfl, Nat.le_of_ble_eq_true rfl⟩ rfl (Nat.le_of_ble_eq_true rfl) dX7_blow_61 rfl (fun v15 τ16 p17 => ?_)
            obtain ⟨rfl, rfl⟩ := p17
            refine g_goto X (tgt := 74) dX7_blow_64 (by decide) ?_
            exact R _ _ _ _ dX7_blow_74 ⟨congrArg (fun z => some (iv z)) (by first | (exfalso; omega) | (unfold blowX; (repeat (first | rw [if_pos (by omega)] | rw [if_neg (by omega)])); first | done | exact (hp5.2.2 _ (by omega)).1 | exact (hp5.2.2 _ (by omega)).2)), rfl⟩
        · skip
          refine g_bipush X dX7_blow_39 (by decide) ?_
          exact R _ _ _ _ dX7_blow_41 ⟨congrArg (fun z => some (iv z)) (by first | (exfalso; omega) | (unfold blowX; (repeat (first | rw [if_pos (by omega)] | rw [if_neg (by omega)])); first | done | exact (hp5.2.2 _ (by omega)).1 | exact (hp5.2.2 _ (by omega)).2)), rfl⟩
      · skip
        skip
        refine g_if_ne X (tgt := 30) dX7_blow_25 (by decide) ⟨by decide, by decide⟩ (fun q => absurd q (by decide)) (fun _ => ?_)
        refine g_iconst X dX7_blow_28 ?_
        exact R _ _ _ _ dX7_blow_29 ⟨congrArg (fun z => some (iv z)) (by first | (exfalso; omega) | (unfold blowX; (repeat (first | rw [if_pos (by omega)] | rw [if_neg (by omega)])); first | done | exact (hp5.2.2 _ (by omega)).1 | exact (hp5.2.2 _ (by omega)).2)), rfl⟩
  · skip
    refine g_astoreN X (lw := [some (rv E (0)), some (iv (p)), some (iv (i)), some (iv (w)), some (Value.null), none]) dX7_blow_8 (by decide) rfl rfl ?_
    refine g_aloadN X dX7_blow_10 rfl ?_
    refine g_ifnullN X (tgt := 28) dX7_blow_12 (by decide) ?_
    refine g_iconst X dX7_blow_28 ?_
    exact R _ _ _ _ dX7_blow_29 ⟨congrArg (fun z => some (iv z)) (by first | (exfalso; omega) | (unfold blowX; (repeat (first | rw [if_pos (by omega)] | rw [if_neg (by omega)])); first | done | exact (hp5.2.2 _ (by omega)).1 | exact (hp5.2.2 _ (by omega)).2)), rfl⟩
set_option maxHeartbeats 1000000 in
set_option maxRecDepth 100000 in
theorem c_X7_strike (l : Launch) (E : wEnv) (σ : Mem) (s : St) (N : Int) (hC : CRep σ s N) (hN : N + 600 ≤ 400000) (p h : Int) (hp : I32 p) (hh : I32 h) : MetC l E yX7_strike cX7_strike 4 (some .int) 4 129 [rv E (0), iv (p), iv (h)] σ (fun v σ' => v = some (iv (strikeX s p h).1) ∧ CRep σ' (strikeX s p h).2 (N + 600) ∧ frM σ σ') := by
  refine MetC.of (own := RX7) (by decide) rfl (by simp [Value.category]) (Nat.le_of_ble_eq_true rfl) [some (rv E (0)), some (iv (p)), some (iv (h)), none] rfl (by simp) (fun K X R => ?_)
  have hS := hC.1
  have hR := hC.2.1
  have hH := hC.2.2.1
  have hI := hC.2.2.2.1
  have hT := hC.2.2.2.2
  have r19 := hR.2.2.2.2.1
  have r0 := hR.1
  have rN := hR.2.2.2.2.2.1
  refine g_aload_n X dX7_strike_0 rfl ?_
  refine gf_X7_10 X fk0 dX7_strike_1 ?_
  refine g_iload_n X dX7_strike_4 rfl ?_
  refine cl_X7_151 X (c_X6_pileAt l E σ 25 s.1 N now_k hS hR p ⟨by omega, by omega⟩) now_k ⟨Nat.le_of_ble_eq_true rfl, Nat.le_of_ble_eq_true rfl⟩ rfl (Nat.le_of_ble_eq_true rfl) dX7_strike_5 rfl (fun v1 τ2 p3 => ?_)
  obtain ⟨rfl, ⟨b4, rfl⟩ | ⟨b4, rfl⟩⟩ := p3
  · skip
    have hp5 := (hS.2.2.2.2.2.2 (p).toNat (by omega))
    have hf5 := hp5.f
    have hi5 := hR.2.2.2.2.2.2 (p).toNat (by omega)
    have hj5 := hi5.f
    refine g_astore_n X (lw := [some (rv E (0)), some (iv (p)), some (iv (h)), some (rv E ((25 + 5 + 1 + 3 * (p).toNat)))]) dX7_strike_8 (by decide) rfl rfl ?_
    refine g_aload_n X dX7_strike_9 rfl ?_
    refine g_ifnull X dX7_strike_10 ?_
    refine g_iload_n X dX7_strike_13 rfl ?_
    refine cl_X7_199 X (c_X7_isFall l E σ h ⟨by omega, by omega⟩) ⟨Nat.le_of_ble_eq_true rfl, Nat.le_of_ble_eq_true rfl⟩ rfl (Nat.le_of_ble_eq_true rfl) dX7_strike_14 rfl (fun v5 τ6 p7 => ?_)
    obtain ⟨rfl, ⟨b8, rfl⟩ | ⟨b8, rfl⟩⟩ := p7
    · skip
      skip
      refine g_if_ne X (tgt := 22) dX7_strike_17 (by decide) ⟨by decide, by decide⟩ (fun _ => ?_) (fun q => absurd q (by decide))
      refine g_aload_n X dX7_strike_22 rfl ?_
      refine cl_X7_202 X (c_X4_left l E σ ((25 + 5 + 1 + 3 * (p).toNat)) (stP now_k (p).toNat (by omega))) (stP now_k (p).toNat (by omega)) ⟨Nat.le_of_ble_eq_true rfl, Nat.le_of_ble_eq_true rfl⟩ rfl (Nat.le_of_ble_eq_true rfl) dX7_strike_23 rfl (fun v9 τ10 p11 => ?_)
      obtain ⟨rfl, rfl⟩ := p11
      rw [show σ ((25 + 5 + 1 + 3 * (p).toNat)) 5 = s.1 (24 + 91 * (p).toNat + 2) from ((hS.2.2.2.2.2.2 (p).toNat (by omega)).f.2.2.2.1), show σ ((25 + 5 + 1 + 3 * (p).toNat)) 6 = s.1 (24 + 91 * (p).toNat + 3) from ((hS.2.2.2.2.2.2 (p).toNat (by omega)).f.2.2.2.2.1)]
      refine g_if_gt X (tgt := 32) dX7_strike_26 (by decide) ⟨by omega, by omega⟩ (fun c12 => ?_) (fun c12 => ?_)
      · skip
        refine g_aload_n X dX7_strike_32 rfl ?_
        refine gf_X7_19 X fk0 dX7_strike_33 ?_
        refine g_aload_n X dX7_strike_36 rfl ?_
        refine gf_X7_10 X fk0 dX7_strike_37 ?_
        refine cl_X7_58 X (c_X2_remember l E σ s.2.1 s.2.2.1 s.1 N hH hI hS hR) fk1 ⟨Nat.le_of_ble_eq_true rfl, Nat.le_of_ble_eq_true rfl⟩ rfl (Nat.le_of_ble_eq_true rfl) dX7_strike_40 rfl (fun v13 τ14 p15 => ?_)
        obtain ⟨rfl, hH40, hS40, hF40⟩ := p15
        refine g_aload_n X dX7_strike_43 rfl ?_
        refine gf_X7_10 X fk0 dX7_strike_44 ?_
        refine g_aload_n X dX7_strike_47 rfl ?_
        refine g_iload_n X dX7_strike_48 rfl ?_
        refine cl_X7_205 X (c_X6_hit l E τ14 25 s.1 N now_k hS40 hR (by omega) ((p).toNat) h (by omega) (by omega) (by omega)) now_k ⟨Nat.le_of_ble_eq_true rfl, Nat.le_of_ble_eq_true rfl⟩ rfl (Nat.le_of_ble_eq_true rfl) dX7_strike_49 rfl (fun v16 τ17 p18 => ?_)
        obtain ⟨rfl, hS49, hF49⟩ := p18
        have hi49 := hit_inv hR (by omega) (i := (p).toNat) (h := h) (by omega) (by omega) (by omega)
        have hj49 := hi49.2
        have hk49 := (hi49.1.2.2.2.2.2.2 (p).toNat (by omega)).f
        have hb49 := (hit1_inv hR (by omega) (i := (p).toNat) (h := h) (by omega) (by omega) (by omega)).2.2.2
        exact R _ _ _ _ dX7_strike_52 (by unfold strikeX; (repeat (first | rw [if_pos (by omega)] | rw [if_neg (by omega)])); exact ⟨rfl, hC.chg hH40 hF40 hS49 (hi49.1.mono (by omega) hN) hF49 hN⟩)
      · skip
        refine g_bipush X dX7_strike_29 (by decide) ?_
        exact R _ _ _ _ dX7_strike_31 (by first | (exfalso; omega) | (unfold strikeX; (repeat (first | rw [if_pos (by omega)] | rw [if_neg (by omega)])); exact ⟨rfl, hC.mono (by omega) hN, frM.refl⟩))
    · skip
      skip
      refine g_if_ne X (tgt := 22) dX7_strike_17 (by decide) ⟨by decide, by decide⟩ (fun q => absurd q (by decide)) (fun _ => ?_)
      refine g_iconst X dX7_strike_20 ?_
      exact R _ _ _ _ dX7_strike_21 (by first | (exfalso; omega) | (unfold strikeX; (repeat (first | rw [if_pos (by omega)] | rw [if_neg (by omega)])); exact ⟨rfl, hC.mono (by omega) hN, frM.refl⟩))
  · skip
    refine g_astore_nN X (lw := [some (rv E (0)), some (iv (p)), some (iv (h)), some (Value.null)]) dX7_strike_8 (by decide) rfl rfl ?_
    refine g_aload_nN X dX7_strike_9 rfl ?_
    refine g_ifnullN X (tgt := 20) dX7_strike_10 (by decide) ?_
    refine g_iconst X dX7_strike_20 ?_
    exact R _ _ _ _ dX7_strike_21 (by first | (exfalso; omega) | (unfold strikeX; (repeat (first | rw [if_pos (by omega)] | rw [if_neg (by omega)])); exact ⟨rfl, hC.mono (by omega) hN, frM.refl⟩))
set_option maxHeartbeats 1000000 in
set_option maxRecDepth 100000 in
theorem c_X7_would (l : Launch) (E : wEnv) (σ : Mem) (s : St) (N : Int) (hC : CRep σ s N) (hN : N + 600 ≤ 400000) (p h : Int) (hp : I32 p) (hh : I32 h) : MetC l E yX7_would cX7_would 4 (some .int) 3 67 [rv E (0), iv (p), iv (h)] σ (fun v σ' => v = some (iv (wouldX s p h)) ∧ σ = σ') := by
  refine MetC.of (own := RX7) (by decide) rfl (by simp [Value.category]) (Nat.le_of_ble_eq_true rfl) [some (rv E (0)), some (iv (p)), some (iv (h)), none] rfl (by simp) (fun K X R => ?_)
  have hS := hC.1
  have hR := hC.2.1
  have hH := hC.2.2.1
  have hI := hC.2.2.2.1
  have hT := hC.2.2.2.2
  have r19 := hR.2.2.2.2.1
  have r0 := hR.1
  have rN := hR.2.2.2.2.2.1
  refine g_aload_n X dX7_would_0 rfl ?_
  refine gf_X7_10 X fk0 dX7_would_1 ?_
  refine g_iload_n X dX7_would_4 rfl ?_
  refine cl_X7_151 X (c_X6_pileAt l E σ 25 s.1 N now_k hS hR p ⟨by omega, by omega⟩) now_k ⟨Nat.le_of_ble_eq_true rfl, Nat.le_of_ble_eq_true rfl⟩ rfl (Nat.le_of_ble_eq_true rfl) dX7_would_5 rfl (fun v1 τ2 p3 => ?_)
  obtain ⟨rfl, ⟨b4, rfl⟩ | ⟨b4, rfl⟩⟩ := p3
  · skip
    have hp5 := (hS.2.2.2.2.2.2 (p).toNat (by omega))
    have hf5 := hp5.f
    have hi5 := hR.2.2.2.2.2.2 (p).toNat (by omega)
    have hj5 := hi5.f
    refine g_astore_n X (lw := [some (rv E (0)), some (iv (p)), some (iv (h)), some (rv E ((25 + 5 + 1 + 3 * (p).toNat)))]) dX7_would_8 (by decide) rfl rfl ?_
    refine g_aload_n X dX7_would_9 rfl ?_
    refine g_ifnull X dX7_would_10 ?_
    refine g_iload_n X dX7_would_13 rfl ?_
    refine cl_X7_199 X (c_X7_isFall l E σ h ⟨by omega, by omega⟩) ⟨Nat.le_of_ble_eq_true rfl, Nat.le_of_ble_eq_true rfl⟩ rfl (Nat.le_of_ble_eq_true rfl) dX7_would_14 rfl (fun v5 τ6 p7 => ?_)
    obtain ⟨rfl, ⟨b8, rfl⟩ | ⟨b8, rfl⟩⟩ := p7
    · skip
      skip
      refine g_if_ne X (tgt := 22) dX7_would_17 (by decide) ⟨by decide, by decide⟩ (fun _ => ?_) (fun q => absurd q (by decide))
      refine g_aload_n X dX7_would_22 rfl ?_
      refine cl_X7_202 X (c_X4_left l E σ ((25 + 5 + 1 + 3 * (p).toNat)) (stP now_k (p).toNat (by omega))) (stP now_k (p).toNat (by omega)) ⟨Nat.le_of_ble_eq_true rfl, Nat.le_of_ble_eq_true rfl⟩ rfl (Nat.le_of_ble_eq_true rfl) dX7_would_23 rfl (fun v9 τ10 p11 => ?_)
      obtain ⟨rfl, rfl⟩ := p11
      rw [show σ ((25 + 5 + 1 + 3 * (p).toNat)) 5 = s.1 (24 + 91 * (p).toNat + 2) from ((hS.2.2.2.2.2.2 (p).toNat (by omega)).f.2.2.2.1), show σ ((25 + 5 + 1 + 3 * (p).toNat)) 6 = s.1 (24 + 91 * (p).toNat + 3) from ((hS.2.2.2.2.2.2 (p).toNat (by omega)).f.2.2.2.2.1)]
      refine g_if_gt X (tgt := 32) dX7_would_26 (by decide) ⟨by omega, by omega⟩ (fun c12 => ?_) (fun c12 => ?_)
      · skip
        refine g_aload_n X dX7_would_32 rfl ?_
        refine gf_X7_10 X fk0 dX7_would_33 ?_
        refine g_aload_n X dX7_would_36 rfl ?_
        refine gf_X7_10 X fk0 dX7_would_37 ?_
        refine g_iload_n X dX7_would_40 rfl ?_
        refine cl_X7_209 X (c_X6_energyOf l E σ 25 s.1 N now_k hS hR h  (by omega) (by omega)) now_k ⟨Nat.le_of_ble_eq_true rfl, Nat.le_of_ble_eq_true rfl⟩ rfl (Nat.le_of_ble_eq_true rfl) dX7_would_41 rfl (fun v13 τ14 p15 => ?_)
        obtain ⟨rfl, rfl⟩ := p15
        have eb41 := (energyR_bd hR (h := h) (by omega) (by omega)).2.2
        refine g_aload_n X dX7_would_44 rfl ?_
        refine gf_X7_164 X (stP now_k (p).toNat (by omega)) ((hS.2.2.2.2.2.2 (p).toNat (by omega)).f.2.2.2.2.1) dX7_would_45 ?_
        refine g_aload_n X dX7_would_48 rfl ?_
        refine gf_X7_163 X (stP now_k (p).toNat (by omega)) ((hS.2.2.2.2.2.2 (p).toNat (by omega)).f.2.2.2.1) dX7_would_49 ?_
        refine cl_X7_212 X (c_X6_setOf l E σ 25 s.1 N now_k hS hR (energyR s.1 h) (s.1 (24 + 91 * (p).toNat + 3)) (s.1 (24 + 91 * (p).toNat + 2))  (by omega) (by omega) (by omega) (by omega) (by omega)) now_k ⟨Nat.le_of_ble_eq_true rfl, Nat.le_of_ble_eq_true rfl⟩ rfl (Nat.le_of_ble_eq_true rfl) dX7_would_52 rfl (fun v16 τ17 p18 => ?_)
        obtain ⟨rfl, rfl⟩ := p18
        have sb52 := setR_bd s.1 (energyR s.1 h) (s.1 (24 + 91 * (p).toNat + 3)) (s.1 (24 + 91 * (p).toNat + 2)) (by omega)
        exact R _ _ _ _ dX7_would_55 ⟨congrArg (fun z => some (iv z)) (by first | (exfalso; omega) | (unfold wouldX; (repeat (first | rw [if_pos (by omega)] | rw [if_neg (by omega)])); (first | done | rfl | omega))), rfl⟩
      · skip
        refine g_bipush X dX7_would_29 (by decide) ?_
        exact R _ _ _ _ dX7_would_31 ⟨congrArg (fun z => some (iv z)) (by first | (exfalso; omega) | (unfold wouldX; (repeat (first | rw [if_pos (by omega)] | rw [if_neg (by omega)])); (first | done | rfl | omega))), rfl⟩
    · skip
      skip
      refine g_if_ne X (tgt := 22) dX7_would_17 (by decide) ⟨by decide, by decide⟩ (fun q => absurd q (by decide)) (fun _ => ?_)
      refine g_iconst X dX7_would_20 ?_
      exact R _ _ _ _ dX7_would_21 ⟨congrArg (fun z => some (iv z)) (by first | (exfalso; omega) | (unfold wouldX; (repeat (first | rw [if_pos (by omega)] | rw [if_neg (by omega)])); (first | done | rfl | omega))), rfl⟩
  · skip
    refine g_astore_nN X (lw := [some (rv E (0)), some (iv (p)), some (iv (h)), some (Value.null)]) dX7_would_8 (by decide) rfl rfl ?_
    refine g_aload_nN X dX7_would_9 rfl ?_
    refine g_ifnullN X (tgt := 20) dX7_would_10 (by decide) ?_
    refine g_iconst X dX7_would_20 ?_
    exact R _ _ _ _ dX7_would_21 ⟨congrArg (fun z => some (iv z)) (by first | (exfalso; omega) | (unfold wouldX; (repeat (first | rw [if_pos (by omega)] | rw [if_neg (by omega)])); (first | done | rfl | omega))), rfl⟩
set_option maxHeartbeats 1000000 in
set_option maxRecDepth 100000 in
theorem c_X7_fallFor (l : Launch) (E : wEnv) (σ : Mem) (s : St) (N : Int) (hC : CRep σ s N) (hN : N + 600 ≤ 400000) (p e : Int) (hp : I32 p) (he : I32 e) : MetC l E yX7_fallFor cX7_fallFor 5 (some .int) 3 67 [rv E (0), iv (p), iv (e)] σ (fun v σ' => v = some (iv (fallForX s p e)) ∧ σ = σ') := by
  refine MetC.of (own := RX7) (by decide) rfl (by simp [Value.category]) (Nat.le_of_ble_eq_true rfl) [some (rv E (0)), some (iv (p)), some (iv (e)), none, none] rfl (by simp) (fun K X R => ?_)
  have hS := hC.1
  have hR := hC.2.1
  have hH := hC.2.2.1
  have hI := hC.2.2.2.1
  have hT := hC.2.2.2.2
  have r19 := hR.2.2.2.2.1
  have r0 := hR.1
  have rN := hR.2.2.2.2.2.1
  refine g_aload_n X dX7_fallFor_0 rfl ?_
  refine gf_X7_10 X fk0 dX7_fallFor_1 ?_
  refine g_iload_n X dX7_fallFor_4 rfl ?_
  refine cl_X7_151 X (c_X6_pileAt l E σ 25 s.1 N now_k hS hR p ⟨by omega, by omega⟩) now_k ⟨Nat.le_of_ble_eq_true rfl, Nat.le_of_ble_eq_true rfl⟩ rfl (Nat.le_of_ble_eq_true rfl) dX7_fallFor_5 rfl (fun v1 τ2 p3 => ?_)
  obtain ⟨rfl, ⟨b4, rfl⟩ | ⟨b4, rfl⟩⟩ := p3
  · skip
    have hp5 := (hS.2.2.2.2.2.2 (p).toNat (by omega))
    have hf5 := hp5.f
    have hi5 := hR.2.2.2.2.2.2 (p).toNat (by omega)
    have hj5 := hi5.f
    refine g_astore_n X (lw := [some (rv E (0)), some (iv (p)), some (iv (e)), some (rv E ((25 + 5 + 1 + 3 * (p).toNat))), none]) dX7_fallFor_8 (by decide) rfl rfl ?_
    refine g_aload_n X dX7_fallFor_9 rfl ?_
    refine g_ifnull X dX7_fallFor_10 ?_
    refine g_iload_n X dX7_fallFor_13 rfl ?_
    refine g_iconst X dX7_fallFor_14 ?_
    refine g_sipush X dX7_fallFor_15 (by decide) ?_
    refine cl_X7_54 X (c_X7_inRange l E σ e 0 500 ⟨by omega, by omega⟩ ⟨by decide, by decide⟩ ⟨by decide, by decide⟩) ⟨Nat.le_of_ble_eq_true rfl, Nat.le_of_ble_eq_true rfl⟩ rfl (Nat.le_of_ble_eq_true rfl) dX7_fallFor_18 rfl (fun v5 τ6 p7 => ?_)
    obtain ⟨rfl, ⟨b8, rfl⟩ | ⟨b8, rfl⟩⟩ := p7
    · skip
      skip
      refine g_if_ne X (tgt := 26) dX7_fallFor_21 (by decide) ⟨by decide, by decide⟩ (fun _ => ?_) (fun q => absurd q (by decide))
      refine g_aload_n X dX7_fallFor_26 rfl ?_
      refine cl_X7_202 X (c_X4_left l E σ ((25 + 5 + 1 + 3 * (p).toNat)) (stP now_k (p).toNat (by omega))) (stP now_k (p).toNat (by omega)) ⟨Nat.le_of_ble_eq_true rfl, Nat.le_of_ble_eq_true rfl⟩ rfl (Nat.le_of_ble_eq_true rfl) dX7_fallFor_27 rfl (fun v9 τ10 p11 => ?_)
      obtain ⟨rfl, rfl⟩ := p11
      rw [show σ ((25 + 5 + 1 + 3 * (p).toNat)) 5 = s.1 (24 + 91 * (p).toNat + 2) from ((hS.2.2.2.2.2.2 (p).toNat (by omega)).f.2.2.2.1), show σ ((25 + 5 + 1 + 3 * (p).toNat)) 6 = s.1 (24 + 91 * (p).toNat + 3) from ((hS.2.2.2.2.2.2 (p).toNat (by omega)).f.2.2.2.2.1)]
      refine g_if_gt X (tgt := 36) dX7_fallFor_30 (by decide) ⟨by omega, by omega⟩ (fun c12 => ?_) (fun c12 => ?_)
      · skip
        refine g_bipush X dX7_fallFor_36 (by decide) ?_
        refine g_istore X (lw := [some (rv E (0)), some (iv (p)), some (iv (e)), some (rv E ((25 + 5 + 1 + 3 * (p).toNat))), some (iv (100))]) dX7_fallFor_38 (by decide) rfl rfl ?_
        have L13 : ∀ (fu : Nat) (f : Int), (100 ≤ f) → (f ≤ 3001) → (fallR s.1 p.toNat e 2901 100 = fallR s.1 p.toNat e (3001 - f).toNat f) → 3001 - f < (fu : Int) → K σ 40 [some (rv E (0)), some (iv (p)), some (iv (e)), some (rv E ((25 + 5 + 1 + 3 * (p).toNat))), some (iv (f))] [] := by
          intro fu
          induction fu with
          | zero =>
            intro f j1 j2 j3 hm
            exact absurd hm (by omega)
          | succ fu ih13 =>
            intro f j1 j2 j3 hm
            refine g_iload X dX7_fallFor_40 rfl ?_
            refine g_sipush X dX7_fallFor_42 (by decide) ?_
            refine g_icmp_gt X (tgt := 85) dX7_fallFor_45 (by decide) ⟨by omega, by omega⟩ ⟨by decide, by decide⟩ (fun c14 => ?_) (fun c14 => ?_)
            · skip
              refine g_bipush X dX7_fallFor_85 (by decide) ?_
              exact R _ _ _ _ dX7_fallFor_87 ⟨congrArg (fun z => some (iv z)) (by first | (exfalso; omega) | (unfold fallForX; (repeat (first | rw [if_pos (by omega)] | rw [if_neg (by omega)])); (first | done | rfl | (rw [j3, show (3001 - f).toNat = (3000 - f).toNat + 1 by omega, fallR, if_pos (by first | assumption | (unfold blowS; assumption))]) | (rw [j3, show (3001 - f).toNat = 0 by omega, fallR])))), rfl⟩
            · skip
              refine g_aload_n X dX7_fallFor_48 rfl ?_
              refine gf_X7_10 X fk0 dX7_fallFor_49 ?_
              refine g_aload_n X dX7_fallFor_52 rfl ?_
              refine gf_X7_10 X fk0 dX7_fallFor_53 ?_
              refine g_iload X dX7_fallFor_56 rfl ?_
              refine cl_X7_209 X (c_X6_energyOf l E σ 25 s.1 N now_k hS hR f  (by omega) (by omega)) now_k ⟨Nat.le_of_ble_eq_true rfl, Nat.le_of_ble_eq_true rfl⟩ rfl (Nat.le_of_ble_eq_true rfl) dX7_fallFor_58 rfl (fun v15 τ16 p17 => ?_)
              obtain ⟨rfl, rfl⟩ := p17
              have eb58 := (energyR_bd hR (h := f) (by omega) (by omega)).2.2
              refine g_aload_n X dX7_fallFor_61 rfl ?_
              refine gf_X7_164 X (stP now_k (p).toNat (by omega)) ((hS.2.2.2.2.2.2 (p).toNat (by omega)).f.2.2.2.2.1) dX7_fallFor_62 ?_
              refine g_aload_n X dX7_fallFor_65 rfl ?_
              refine gf_X7_163 X (stP now_k (p).toNat (by omega)) ((hS.2.2.2.2.2.2 (p).toNat (by omega)).f.2.2.2.1) dX7_fallFor_66 ?_
              refine cl_X7_212 X (c_X6_setOf l E σ 25 s.1 N now_k hS hR (energyR s.1 f) (s.1 (24 + 91 * (p).toNat + 3)) (s.1 (24 + 91 * (p).toNat + 2))  (by omega) (by omega) (by omega) (by omega) (by omega)) now_k ⟨Nat.le_of_ble_eq_true rfl, Nat.le_of_ble_eq_true rfl⟩ rfl (Nat.le_of_ble_eq_true rfl) dX7_fallFor_69 rfl (fun v18 τ19 p20 => ?_)
              obtain ⟨rfl, rfl⟩ := p20
              have sb69 := setR_bd s.1 (energyR s.1 f) (s.1 (24 + 91 * (p).toNat + 3)) (s.1 (24 + 91 * (p).toNat + 2)) (by omega)
              refine g_iload_n X dX7_fallFor_72 rfl ?_
              refine g_icmp_lt X (tgt := 79) dX7_fallFor_73 (by decide) ⟨by omega, by omega⟩ ⟨by omega, by omega⟩ (fun c21 => ?_) (fun c21 => ?_)
              · skip
                refine g_iinc X (lw := [some (rv E (0)), some (iv (p)), some (iv (e)), some (rv E ((25 + 5 + 1 + 3 * (p).toNat))), some (iv (f + 1))]) dX7_fallFor_79 rfl (by decide) rfl rfl ?_
                refine g_goto X (tgt := 40) dX7_fallFor_82 (by decide) ?_
                exact ih13  (f + 1) (by omega) (by omega) (by rw [j3, show (3001 - f).toNat = (3001 - (f + 1)).toNat + 1 by omega, fallR, if_neg (by unfold blowS; omega)]) (by omega)
              · skip
                refine g_iload X dX7_fallFor_76 rfl ?_
                exact R _ _ _ _ dX7_fallFor_78 ⟨congrArg (fun z => some (iv z)) (by first | (exfalso; omega) | (unfold fallForX; (repeat (first | rw [if_pos (by omega)] | rw [if_neg (by omega)])); (first | done | rfl | (rw [j3, show (3001 - f).toNat = (3000 - f).toNat + 1 by omega, fallR, if_pos (by first | assumption | (unfold blowS; assumption))]) | (rw [j3, show (3001 - f).toNat = 0 by omega, fallR])))), rfl⟩
        exact L13 _  100 (by omega) (by omega) (by rfl) (by exact Int.lt_toNat_succ _)
      · skip
        refine g_bipush X dX7_fallFor_33 (by decide) ?_
        exact R _ _ _ _ dX7_fallFor_35 ⟨congrArg (fun z => some (iv z)) (by first | (exfalso; omega) | (unfold fallForX; (repeat (first | rw [if_pos (by omega)] | rw [if_neg (by omega)])); (first | done | rfl | (rw [j3, show (3001 - f).toNat = (3000 - f).toNat + 1 by omega, fallR, if_pos (by first | assumption | (unfold blowS; assumption))]) | (rw [j3, show (3001 - f).toNat = 0 by omega, fallR])))), rfl⟩
    · skip
      skip
      refine g_if_ne X (tgt := 26) dX7_fallFor_21 (by decide) ⟨by decide, by decide⟩ (fun q => absurd q (by decide)) (fun _ => ?_)
      refine g_iconst X dX7_fallFor_24 ?_
      exact R _ _ _ _ dX7_fallFor_25 ⟨congrArg (fun z => some (iv z)) (by first | (exfalso; omega) | (unfold fallForX; (repeat (first | rw [if_pos (by omega)] | rw [if_neg (by omega)])); (first | done | rfl | (rw [j3, show (3001 - f).toNat = (3000 - f).toNat + 1 by omega, fallR, if_pos (by first | assumption | (unfold blowS; assumption))]) | (rw [j3, show (3001 - f).toNat = 0 by omega, fallR])))), rfl⟩
  · skip
    refine g_astore_nN X (lw := [some (rv E (0)), some (iv (p)), some (iv (e)), some (Value.null), none]) dX7_fallFor_8 (by decide) rfl rfl ?_
    refine g_aload_nN X dX7_fallFor_9 rfl ?_
    refine g_ifnullN X (tgt := 24) dX7_fallFor_10 (by decide) ?_
    refine g_iconst X dX7_fallFor_24 ?_
    exact R _ _ _ _ dX7_fallFor_25 ⟨congrArg (fun z => some (iv z)) (by first | (exfalso; omega) | (unfold fallForX; (repeat (first | rw [if_pos (by omega)] | rw [if_neg (by omega)])); (first | done | rfl | (rw [j3, show (3001 - f).toNat = (3000 - f).toNat + 1 by omega, fallR, if_pos (by first | assumption | (unfold blowS; assumption))]) | (rw [j3, show (3001 - f).toNat = 0 by omega, fallR])))), rfl⟩
set_option maxHeartbeats 1000000 in
set_option maxRecDepth 100000 in
theorem c_X7_test (l : Launch) (E : wEnv) (σ : Mem) (s : St) (N : Int) (hC : CRep σ s N) (hN : N + 600 ≤ 400000) (p f : Int) (hp : I32 p) (hf : I32 f) : MetC l E yX7_test cX7_test 4 (some .int) 4 127 [rv E (0), iv (p), iv (f)] σ (fun v σ' => v = some (iv (testX s p f).1) ∧ CRep σ' (testX s p f).2 (N + 600) ∧ frM σ σ') := by
  refine MetC.of (own := RX7) (by decide) rfl (by simp [Value.category]) (Nat.le_of_ble_eq_true rfl) [some (rv E (0)), some (iv (p)), some (iv (f)), none] rfl (by simp) (fun K X R => ?_)
  have hS := hC.1
  have hR := hC.2.1
  have hH := hC.2.2.1
  have hI := hC.2.2.2.1
  have hT := hC.2.2.2.2
  have r19 := hR.2.2.2.2.1
  have r0 := hR.1
  have rN := hR.2.2.2.2.2.1
  refine g_aload_n X dX7_test_0 rfl ?_
  refine gf_X7_10 X fk0 dX7_test_1 ?_
  refine g_iload_n X dX7_test_4 rfl ?_
  refine cl_X7_151 X (c_X6_pileAt l E σ 25 s.1 N now_k hS hR p ⟨by omega, by omega⟩) now_k ⟨Nat.le_of_ble_eq_true rfl, Nat.le_of_ble_eq_true rfl⟩ rfl (Nat.le_of_ble_eq_true rfl) dX7_test_5 rfl (fun v1 τ2 p3 => ?_)
  obtain ⟨rfl, ⟨b4, rfl⟩ | ⟨b4, rfl⟩⟩ := p3
  · skip
    have hp5 := (hS.2.2.2.2.2.2 (p).toNat (by omega))
    have hf5 := hp5.f
    have hi5 := hR.2.2.2.2.2.2 (p).toNat (by omega)
    have hj5 := hi5.f
    refine g_astore_n X (lw := [some (rv E (0)), some (iv (p)), some (iv (f)), some (rv E ((25 + 5 + 1 + 3 * (p).toNat)))]) dX7_test_8 (by decide) rfl rfl ?_
    refine g_aload_n X dX7_test_9 rfl ?_
    refine g_ifnull X dX7_test_10 ?_
    refine g_iload_n X dX7_test_13 rfl ?_
    refine g_iconst X dX7_test_14 ?_
    refine g_ldc X (n := 100000) dX7_test_15 wK_X7_218 (by decide) ?_
    refine cl_X7_54 X (c_X7_inRange l E σ f 1 100000 ⟨by omega, by omega⟩ ⟨by decide, by decide⟩ ⟨by decide, by decide⟩) ⟨Nat.le_of_ble_eq_true rfl, Nat.le_of_ble_eq_true rfl⟩ rfl (Nat.le_of_ble_eq_true rfl) dX7_test_17 rfl (fun v5 τ6 p7 => ?_)
    obtain ⟨rfl, ⟨b8, rfl⟩ | ⟨b8, rfl⟩⟩ := p7
    · skip
      skip
      refine g_if_ne X (tgt := 25) dX7_test_20 (by decide) ⟨by decide, by decide⟩ (fun _ => ?_) (fun q => absurd q (by decide))
      refine g_aload_n X dX7_test_25 rfl ?_
      refine gf_X7_19 X fk0 dX7_test_26 ?_
      refine g_aload_n X dX7_test_29 rfl ?_
      refine gf_X7_10 X fk0 dX7_test_30 ?_
      refine cl_X7_58 X (c_X2_remember l E σ s.2.1 s.2.2.1 s.1 N hH hI hS hR) fk1 ⟨Nat.le_of_ble_eq_true rfl, Nat.le_of_ble_eq_true rfl⟩ rfl (Nat.le_of_ble_eq_true rfl) dX7_test_33 rfl (fun v9 τ10 p11 => ?_)
      obtain ⟨rfl, hH33, hS33, hF33⟩ := p11
      refine g_aload_n X dX7_test_36 rfl ?_
      refine gf_X7_10 X fk0 dX7_test_37 ?_
      refine g_aload_n X dX7_test_40 rfl ?_
      refine g_iload_n X dX7_test_41 rfl ?_
      refine cl_X7_219 X (c_X6_loadWith l E τ10 25 s.1 N now_k hS33 hR ((p).toNat) f (by omega) (by omega) (by omega)) now_k ⟨Nat.le_of_ble_eq_true rfl, Nat.le_of_ble_eq_true rfl⟩ rfl (Nat.le_of_ble_eq_true rfl) dX7_test_42 rfl (fun v12 τ13 p14 => ?_)
      obtain ⟨rfl, hS42, hF42⟩ := p14
      exact R _ _ _ _ dX7_test_45 (by unfold testX; rw [if_pos (by omega)]; exact ⟨rfl, hC.chg hH33 hF33 hS42 (press_inv hR hN (by omega)) hF42 hN⟩)
    · skip
      skip
      refine g_if_ne X (tgt := 25) dX7_test_20 (by decide) ⟨by decide, by decide⟩ (fun q => absurd q (by decide)) (fun _ => ?_)
      refine g_iconst X dX7_test_23 ?_
      exact R _ _ _ _ dX7_test_24 (by first | (exfalso; omega) | (unfold testX; (repeat (first | rw [if_pos (by omega)] | rw [if_neg (by omega)])); exact ⟨rfl, hC.mono (by omega) hN, frM.refl⟩))
  · skip
    refine g_astore_nN X (lw := [some (rv E (0)), some (iv (p)), some (iv (f)), some (Value.null)]) dX7_test_8 (by decide) rfl rfl ?_
    refine g_aload_nN X dX7_test_9 rfl ?_
    refine g_ifnullN X (tgt := 23) dX7_test_10 (by decide) ?_
    refine g_iconst X dX7_test_23 ?_
    exact R _ _ _ _ dX7_test_24 (by first | (exfalso; omega) | (unfold testX; (repeat (first | rw [if_pos (by omega)] | rw [if_neg (by omega)])); exact ⟨rfl, hC.mono (by omega) hN, frM.refl⟩))
set_option maxHeartbeats 1000000 in
set_option maxRecDepth 100000 in
theorem c_X7_drive (l : Launch) (E : wEnv) (σ : Mem) (s : St) (N : Int) (hC : CRep σ s N) (hN : N + 600 ≤ 400000) (p h e m : Int) (hp : I32 p) (hh : I32 h) (he : I32 e) (hm : I32 m) : MetC l E yX7_drive cX7_drive 9 (some .int) 4 129 [rv E (0), iv (p), iv (h), iv (e), iv (m)] σ (fun v σ' => v = some (iv (driveX s p h e m).1) ∧ CRep σ' (driveX s p h e m).2 (N + 600) ∧ frM σ σ') := by
  refine MetC.of (own := RX7) (by decide) rfl (by simp [Value.category]) (Nat.le_of_ble_eq_true rfl) [some (rv E (0)), some (iv (p)), some (iv (h)), some (iv (e)), some (iv (m)), none, none, none, none] rfl (by simp) (fun K X R => ?_)
  have hS := hC.1
  have hR := hC.2.1
  have hH := hC.2.2.1
  have hI := hC.2.2.2.1
  have hT := hC.2.2.2.2
  have r19 := hR.2.2.2.2.1
  have r0 := hR.1
  have rN := hR.2.2.2.2.2.1
  refine g_aload_n X dX7_drive_0 rfl ?_
  refine gf_X7_10 X fk0 dX7_drive_1 ?_
  refine g_iload_n X dX7_drive_4 rfl ?_
  refine cl_X7_151 X (c_X6_pileAt l E σ 25 s.1 N now_k hS hR p ⟨by omega, by omega⟩) now_k ⟨Nat.le_of_ble_eq_true rfl, Nat.le_of_ble_eq_true rfl⟩ rfl (Nat.le_of_ble_eq_true rfl) dX7_drive_5 rfl (fun v1 τ2 p3 => ?_)
  obtain ⟨rfl, ⟨b4, rfl⟩ | ⟨b4, rfl⟩⟩ := p3
  · skip
    have hp5 := (hS.2.2.2.2.2.2 (p).toNat (by omega))
    have hf5 := hp5.f
    have hi5 := hR.2.2.2.2.2.2 (p).toNat (by omega)
    have hj5 := hi5.f
    refine g_astore X (lw := [some (rv E (0)), some (iv (p)), some (iv (h)), some (iv (e)), some (iv (m)), some (rv E ((25 + 5 + 1 + 3 * (p).toNat))), none, none, none]) dX7_drive_8 (by decide) rfl rfl ?_
    refine g_aload X dX7_drive_10 rfl ?_
    refine g_ifnull X dX7_drive_12 ?_
    refine g_iload_n X dX7_drive_15 rfl ?_
    refine cl_X7_199 X (c_X7_isFall l E σ h ⟨by omega, by omega⟩) ⟨Nat.le_of_ble_eq_true rfl, Nat.le_of_ble_eq_true rfl⟩ rfl (Nat.le_of_ble_eq_true rfl) dX7_drive_16 rfl (fun v5 τ6 p7 => ?_)
    obtain ⟨rfl, ⟨b8, rfl⟩ | ⟨b8, rfl⟩⟩ := p7
    · skip
      skip
      refine g_if_eq X (tgt := 44) dX7_drive_19 (by decide) ⟨by decide, by decide⟩ (fun q => absurd q (by decide)) (fun _ => ?_)
      refine g_iload_n X dX7_drive_22 rfl ?_
      refine g_iconst X dX7_drive_23 ?_
      refine g_sipush X dX7_drive_24 (by decide) ?_
      refine cl_X7_54 X (c_X7_inRange l E σ e 0 500 ⟨by omega, by omega⟩ ⟨by decide, by decide⟩ ⟨by decide, by decide⟩) ⟨Nat.le_of_ble_eq_true rfl, Nat.le_of_ble_eq_true rfl⟩ rfl (Nat.le_of_ble_eq_true rfl) dX7_drive_27 rfl (fun v9 τ10 p11 => ?_)
      obtain ⟨rfl, ⟨b12, rfl⟩ | ⟨b12, rfl⟩⟩ := p11
      · skip
        skip
        refine g_if_eq X (tgt := 44) dX7_drive_30 (by decide) ⟨by decide, by decide⟩ (fun q => absurd q (by decide)) (fun _ => ?_)
        refine g_iload X dX7_drive_33 rfl ?_
        refine g_iconst X dX7_drive_35 ?_
        refine g_bipush X dX7_drive_36 (by decide) ?_
        refine cl_X7_54 X (c_X7_inRange l E σ m 1 100 ⟨by omega, by omega⟩ ⟨by decide, by decide⟩ ⟨by decide, by decide⟩) ⟨Nat.le_of_ble_eq_true rfl, Nat.le_of_ble_eq_true rfl⟩ rfl (Nat.le_of_ble_eq_true rfl) dX7_drive_38 rfl (fun v13 τ14 p15 => ?_)
        obtain ⟨rfl, ⟨b16, rfl⟩ | ⟨b16, rfl⟩⟩ := p15
        · skip
          skip
          refine g_if_ne X (tgt := 46) dX7_drive_41 (by decide) ⟨by decide, by decide⟩ (fun _ => ?_) (fun q => absurd q (by decide))
          refine g_aload X dX7_drive_46 rfl ?_
          refine cl_X7_202 X (c_X4_left l E σ ((25 + 5 + 1 + 3 * (p).toNat)) (stP now_k (p).toNat (by omega))) (stP now_k (p).toNat (by omega)) ⟨Nat.le_of_ble_eq_true rfl, Nat.le_of_ble_eq_true rfl⟩ rfl (Nat.le_of_ble_eq_true rfl) dX7_drive_48 rfl (fun v17 τ18 p19 => ?_)
          obtain ⟨rfl, rfl⟩ := p19
          rw [show σ ((25 + 5 + 1 + 3 * (p).toNat)) 5 = s.1 (24 + 91 * (p).toNat + 2) from ((hS.2.2.2.2.2.2 (p).toNat (by omega)).f.2.2.2.1), show σ ((25 + 5 + 1 + 3 * (p).toNat)) 6 = s.1 (24 + 91 * (p).toNat + 3) from ((hS.2.2.2.2.2.2 (p).toNat (by omega)).f.2.2.2.2.1)]
          refine g_if_gt X (tgt := 57) dX7_drive_51 (by decide) ⟨by omega, by omega⟩ (fun c20 => ?_) (fun c20 => ?_)
          · skip
            refine g_aload_n X dX7_drive_57 rfl ?_
            refine gf_X7_19 X fk0 dX7_drive_58 ?_
            refine g_aload_n X dX7_drive_61 rfl ?_
            refine gf_X7_10 X fk0 dX7_drive_62 ?_
            refine cl_X7_58 X (c_X2_remember l E σ s.2.1 s.2.2.1 s.1 N hH hI hS hR) fk1 ⟨Nat.le_of_ble_eq_true rfl, Nat.le_of_ble_eq_true rfl⟩ rfl (Nat.le_of_ble_eq_true rfl) dX7_drive_65 rfl (fun v21 τ22 p23 => ?_)
            obtain ⟨rfl, hH65, hS65, hF65⟩ := p23
            obtain ⟨τ0, hτ0⟩ : ∃ z, z = τ22 := ⟨_, rfl⟩
            rw [← hτ0]
            rw [← hτ0] at hH65 hS65 hF65
            refine g_iconst X dX7_drive_68 ?_
            refine g_istore X (lw := [some (rv E (0)), some (iv (p)), some (iv (h)), some (iv (e)), some (iv (m)), some (rv E ((25 + 5 + 1 + 3 * (p).toNat))), some (iv (0)), none, none]) dX7_drive_69 (by decide) rfl rfl ?_
            refine g_iconst X dX7_drive_71 ?_
            refine g_istore X (lw := [some (rv E (0)), some (iv (p)), some (iv (h)), some (iv (e)), some (iv (m)), some (rv E ((25 + 5 + 1 + 3 * (p).toNat))), some (iv (0)), some (iv (1)), none]) dX7_drive_72 (by decide) rfl rfl ?_
            have L24 : ∀ (fu : Nat) (τ : Mem) (ρ : Row) (b g : Int), (0 ≤ b) → (b ≤ m) → (g = 0 ∨ g = 1) → (SRep τ 25 ρ) → (frB τ0 τ 25) → (RInv ρ (N + b)) → (ρ 19 = s.1 19) → ((g = 1 → driveR p.toNat h e m.toNat s.1 = ((driveR p.toNat h e (m - b).toNat ρ).1, (driveR p.toNat h e (m - b).toNat ρ).2 + b)) ∧ (g = 0 → driveR p.toNat h e m.toNat s.1 = (ρ, b))) → m - b < (fu : Int) → K τ 74 [some (rv E (0)), some (iv (p)), some (iv (h)), some (iv (e)), some (iv (m)), some (rv E ((25 + 5 + 1 + 3 * (p).toNat))), some (iv (b)), some (iv (g)), none] [] := by
              intro fu
              induction fu with
              | zero =>
                intro τ ρ b g j1 j2 jg j4 j5 j6 j9 j7 hm
                exact absurd hm (by omega)
              | succ fu ih24 =>
                intro τ ρ b g j1 j2 jg j4 j5 j6 j9 j7 hm
                have hpq := (j6.2.2.2.2.2.2 p.toNat (by omega)).f
                refine g_iload X dX7_drive_74 rfl ?_
                refine g_if_eq X (tgt := 125) dX7_drive_76 (by decide) ⟨by omega, by omega⟩ (fun c25 => ?_) (fun c25 => ?_)
                · skip
                  refine g_iload X dX7_drive_125 rfl ?_
                  exact R _ _ _ _ dX7_drive_127 (by have e2 : driveR p.toNat h e m.toNat s.1 = (ρ, b) := by { by_cases hg : g = 0; exact j7.2 hg; rw [j7.1 (by omega), show (m - b).toNat = 0 by omega, driveR]; simp }; unfold driveX; (repeat (first | rw [if_pos (by omega)] | rw [if_neg (by omega)])); rw [e2]; exact ⟨rfl, hC.chg hH65 hF65 j4 (j6.mono (by omega) hN) j5 hN⟩)
                · skip
                  refine g_iload X dX7_drive_79 rfl ?_
                  refine g_iload X dX7_drive_81 rfl ?_
                  refine g_icmp_ge X (tgt := 125) dX7_drive_83 (by decide) ⟨by omega, by omega⟩ ⟨by omega, by omega⟩ (fun c26 => ?_) (fun c26 => ?_)
                  · skip
                    refine g_iload X dX7_drive_125 rfl ?_
                    exact R _ _ _ _ dX7_drive_127 (by have e2 : driveR p.toNat h e m.toNat s.1 = (ρ, b) := by { by_cases hg : g = 0; exact j7.2 hg; rw [j7.1 (by omega), show (m - b).toNat = 0 by omega, driveR]; simp }; unfold driveX; (repeat (first | rw [if_pos (by omega)] | rw [if_neg (by omega)])); rw [e2]; exact ⟨rfl, hC.chg hH65 hF65 j4 (j6.mono (by omega) hN) j5 hN⟩)
                  · skip
                    refine g_aload_n X dX7_drive_86 rfl ?_
                    refine gf_X7_10 X fk0 dX7_drive_87 ?_
                    refine g_aload X dX7_drive_90 rfl ?_
                    refine g_iload_n X dX7_drive_92 rfl ?_
                    refine cl_X7_205 X (c_X6_hit l E τ 25 ρ (N + b) now_k j4 j6 (by omega) ((p).toNat) h (by omega) (by omega) (by omega)) now_k ⟨Nat.le_of_ble_eq_true rfl, Nat.le_of_ble_eq_true rfl⟩ rfl (Nat.le_of_ble_eq_true rfl) dX7_drive_93 rfl (fun v27 τ28 p29 => ?_)
                    obtain ⟨rfl, hS93, hF93⟩ := p29
                    have hi93 := hit_inv j6 (by omega) (i := (p).toNat) (h := h) (by omega) (by omega) (by omega)
                    have hj93 := hi93.2
                    have hk93 := (hi93.1.2.2.2.2.2.2 (p).toNat (by omega)).f
                    have hb93 := (hit1_inv j6 (by omega) (i := (p).toNat) (h := h) (by omega) (by omega) (by omega)).2.2.2
                    refine g_istore X (lw := [some (rv E (0)), some (iv (p)), some (iv (h)), some (iv (e)), some (iv (m)), some (rv E ((25 + 5 + 1 + 3 * (p).toNat))), some (iv (b)), some (iv (g)), some (iv (blowS ρ (p).toNat h))]) dX7_drive_96 (by decide) rfl rfl ?_
                    refine g_iinc X (lw := [some (rv E (0)), some (iv (p)), some (iv (h)), some (iv (e)), some (iv (m)), some (rv E ((25 + 5 + 1 + 3 * (p).toNat))), some (iv (b + 1)), some (iv (g)), some (iv (blowS ρ (p).toNat h))]) dX7_drive_98 rfl (by decide) rfl rfl ?_
                    refine g_iload X dX7_drive_101 rfl ?_
                    refine g_iload_n X dX7_drive_103 rfl ?_
                    refine g_icmp_le X (tgt := 119) dX7_drive_104 (by decide) ⟨by omega, by omega⟩ ⟨by omega, by omega⟩ (fun c30 => ?_) (fun c30 => ?_)
                    · skip
                      refine g_iconst X dX7_drive_119 ?_
                      refine g_istore X (lw := [some (rv E (0)), some (iv (p)), some (iv (h)), some (iv (e)), some (iv (m)), some (rv E ((25 + 5 + 1 + 3 * (p).toNat))), some (iv (b + 1)), some (iv (0)), some (iv (blowS ρ (p).toNat h))]) dX7_drive_120 (by decide) rfl rfl ?_
                      refine g_goto X (tgt := 74) dX7_drive_122 (by decide) ?_
                      refine g_kill X 8 (lw := [some (rv E (0)), some (iv (p)), some (iv (h)), some (iv (e)), some (iv (m)), some (rv E ((25 + 5 + 1 + 3 * (p).toNat))), some (iv (b + 1)), some (iv (0)), none]) rfl ?_
                      exact ih24 τ28 (hitR ρ (p).toNat h) (b + 1) 0 (by omega) (by omega) (by omega) (by exact hS93) (by exact j5.trans hF93) (by rw [← Int.add_assoc]; exact hi93.1) (by rw [hj93, j9]) (by first | exact ⟨fun q => by omega, fun _ => by rw [j7.1 (by omega), show (m - b).toNat = (m - (b + 1)).toNat + 1 by omega, driveR, if_neg (by omega)]; exact Prod.ext rfl (by show 1 + b = b + 1; omega)⟩ | exact ⟨fun _ => by rw [j7.1 (by omega), show (m - b).toNat = (m - (b + 1)).toNat + 1 by omega, driveR, if_pos (by omega)]; exact Prod.ext rfl (by simp only []; omega), fun q => by omega⟩) (by omega)
                    · skip
                      refine g_aload X dX7_drive_107 rfl ?_
                      refine cl_X7_202 X (c_X4_left l E τ28 ((25 + 5 + 1 + 3 * (p).toNat)) (stP now_k (p).toNat (by omega))) (stP now_k (p).toNat (by omega)) ⟨Nat.le_of_ble_eq_true rfl, Nat.le_of_ble_eq_true rfl⟩ rfl (Nat.le_of_ble_eq_true rfl) dX7_drive_109 rfl (fun v31 τ32 p33 => ?_)
                      obtain ⟨rfl, rfl⟩ := p33
                      rw [show τ28 ((25 + 5 + 1 + 3 * (p).toNat)) 5 = (hitR ρ (p).toNat h) (24 + 91 * (p).toNat + 2) from ((hS93.2.2.2.2.2.2 (p).toNat (by omega)).f.2.2.2.1), show τ28 ((25 + 5 + 1 + 3 * (p).toNat)) 6 = (hitR ρ (p).toNat h) (24 + 91 * (p).toNat + 3) from ((hS93.2.2.2.2.2.2 (p).toNat (by omega)).f.2.2.2.2.1)]
                      refine g_if_le X (tgt := 119) dX7_drive_112 (by decide) ⟨by omega, by omega⟩ (fun c34 => ?_) (fun c34 => ?_)
                      · skip
                        refine g_iconst X dX7_drive_119 ?_
                        refine g_istore X (lw := [some (rv E (0)), some (iv (p)), some (iv (h)), some (iv (e)), some (iv (m)), some (rv E ((25 + 5 + 1 + 3 * (p).toNat))), some (iv (b + 1)), some (iv (0)), some (iv (blowS ρ (p).toNat h))]) dX7_drive_120 (by decide) rfl rfl ?_
                        refine g_goto X (tgt := 74) dX7_drive_122 (by decide) ?_
                        refine g_kill X 8 (lw := [some (rv E (0)), some (iv (p)), some (iv (h)), some (iv (e)), some (iv (m)), some (rv E ((25 + 5 + 1 + 3 * (p).toNat))), some (iv (b + 1)), some (iv (0)), none]) rfl ?_
                        exact ih24 τ28 (hitR ρ (p).toNat h) (b + 1) 0 (by omega) (by omega) (by omega) (by exact hS93) (by exact j5.trans hF93) (by rw [← Int.add_assoc]; exact hi93.1) (by rw [hj93, j9]) (by first | exact ⟨fun q => by omega, fun _ => by rw [j7.1 (by omega), show (m - b).toNat = (m - (b + 1)).toNat + 1 by omega, driveR, if_neg (by omega)]; exact Prod.ext rfl (by show 1 + b = b + 1; omega)⟩ | exact ⟨fun _ => by rw [j7.1 (by omega), show (m - b).toNat = (m - (b + 1)).toNat + 1 by omega, driveR, if_pos (by omega)]; exact Prod.ext rfl (by simp only []; omega), fun q => by omega⟩) (by omega)
                      · skip
                        refine g_iconst X dX7_drive_115 ?_
                        refine g_goto X (tgt := 120) dX7_drive_116 (by decide) ?_
                        refine g_istore X (lw := [some (rv E (0)), some (iv (p)), some (iv (h)), some (iv (e)), some (iv (m)), some (rv E ((25 + 5 + 1 + 3 * (p).toNat))), some (iv (b + 1)), some (iv (1)), some (iv (blowS ρ (p).toNat h))]) dX7_drive_120 (by decide) rfl rfl ?_
                        refine g_goto X (tgt := 74) dX7_drive_122 (by decide) ?_
                        refine g_kill X 8 (lw := [some (rv E (0)), some (iv (p)), some (iv (h)), some (iv (e)), some (iv (m)), some (rv E ((25 + 5 + 1 + 3 * (p).toNat))), some (iv (b + 1)), some (iv (1)), none]) rfl ?_
                        exact ih24 τ28 (hitR ρ (p).toNat h) (b + 1) 1 (by omega) (by omega) (by omega) (by exact hS93) (by exact j5.trans hF93) (by rw [← Int.add_assoc]; exact hi93.1) (by rw [hj93, j9]) (by first | exact ⟨fun q => by omega, fun _ => by rw [j7.1 (by omega), show (m - b).toNat = (m - (b + 1)).toNat + 1 by omega, driveR, if_neg (by omega)]; exact Prod.ext rfl (by show 1 + b = b + 1; omega)⟩ | exact ⟨fun _ => by rw [j7.1 (by omega), show (m - b).toNat = (m - (b + 1)).toNat + 1 by omega, driveR, if_pos (by omega)]; exact Prod.ext rfl (by simp only []; omega), fun q => by omega⟩) (by omega)
            exact L24 _ τ0 s.1 0 1 (by omega) (by omega) (by omega) (by exact hS65) (by exact frB.refl) (by simpa using hR) (by rfl) (by exact ⟨fun _ => by simp, fun q => by omega⟩) (by exact Int.lt_toNat_succ _)
          · skip
            refine g_bipush X dX7_drive_54 (by decide) ?_
            exact R _ _ _ _ dX7_drive_56 (by first | (exfalso; omega) | (unfold driveX; (repeat (first | rw [if_pos (by omega)] | rw [if_neg (by omega)])); exact ⟨rfl, hC.mono (by omega) hN, frM.refl⟩))
        · skip
          skip
          refine g_if_ne X (tgt := 46) dX7_drive_41 (by decide) ⟨by decide, by decide⟩ (fun q => absurd q (by decide)) (fun _ => ?_)
          refine g_iconst X dX7_drive_44 ?_
          exact R _ _ _ _ dX7_drive_45 (by first | (exfalso; omega) | (unfold driveX; (repeat (first | rw [if_pos (by omega)] | rw [if_neg (by omega)])); exact ⟨rfl, hC.mono (by omega) hN, frM.refl⟩))
      · skip
        skip
        refine g_if_eq X (tgt := 44) dX7_drive_30 (by decide) ⟨by decide, by decide⟩ (fun _ => ?_) (fun q => absurd q (by decide))
        refine g_iconst X dX7_drive_44 ?_
        exact R _ _ _ _ dX7_drive_45 (by first | (exfalso; omega) | (unfold driveX; (repeat (first | rw [if_pos (by omega)] | rw [if_neg (by omega)])); exact ⟨rfl, hC.mono (by omega) hN, frM.refl⟩))
    · skip
      skip
      refine g_if_eq X (tgt := 44) dX7_drive_19 (by decide) ⟨by decide, by decide⟩ (fun _ => ?_) (fun q => absurd q (by decide))
      refine g_iconst X dX7_drive_44 ?_
      exact R _ _ _ _ dX7_drive_45 (by first | (exfalso; omega) | (unfold driveX; (repeat (first | rw [if_pos (by omega)] | rw [if_neg (by omega)])); exact ⟨rfl, hC.mono (by omega) hN, frM.refl⟩))
  · skip
    refine g_astoreN X (lw := [some (rv E (0)), some (iv (p)), some (iv (h)), some (iv (e)), some (iv (m)), some (Value.null), none, none, none]) dX7_drive_8 (by decide) rfl rfl ?_
    refine g_aloadN X dX7_drive_10 rfl ?_
    refine g_ifnullN X (tgt := 44) dX7_drive_12 (by decide) ?_
    refine g_iconst X dX7_drive_44 ?_
    exact R _ _ _ _ dX7_drive_45 (by first | (exfalso; omega) | (unfold driveX; (repeat (first | rw [if_pos (by omega)] | rw [if_neg (by omega)])); exact ⟨rfl, hC.mono (by omega) hN, frM.refl⟩))
