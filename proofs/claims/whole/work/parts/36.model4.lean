/-! ===== contracts: the reference's public methods, piles ===== -/
set_option maxHeartbeats 1000000 in
set_option maxRecDepth 100000 in
theorem c_X8_count (l : Launch) (E : wEnv) (σ : Mem) (s : St) (N : Int) (hM : MRep σ s) (hR : RInv s.1 N) (hN : N + 600 ≤ 400000) (w : Int) (hw : I32 w) : MetC l E yX8_count cX8_count 2 (some .long) 2 44 [rv E (12), iv (w)] σ (fun v σ' => v = some (jv (countX s w)) ∧ σ = σ') := by
  refine MetC.of (own := RX8) (by decide) rfl (by simp [Value.category]) (Nat.le_of_ble_eq_true rfl) [some (rv E (12)), some (iv (w))] rfl (by simp) (fun K X R => ?_)
  have hM1 := hM.1
  have hM2 := hM.2.1
  have hM3 := hM.2.2
  have r19 := hR.2.2.2.2.1
  have r0 := hR.1
  have rN := hR.2.2.2.2.2.1
  have hn4 := hM2.1
  have hL := hM3.1
  have qb : 22 ≤ w → w ≤ 24 → -2147483648 ≤ s.1 (21 + w - 22).toNat ∧ s.1 (21 + w - 22).toNat < 2147483648 := fun a b => by rcases (show (21 + w - 22).toNat = 21 ∨ (21 + w - 22).toNat = 22 ∨ (21 + w - 22).toNat = 23 by omega) with e | e | e <;> rw [e] <;> omega
  have qs : 10 ≤ w → w ≤ 15 → -2147483648 ≤ s.1 (13 + w - 10).toNat ∧ s.1 (13 + w - 10).toNat < 2147483648 := fun a b => by have q := hR.2.2.2.1; rcases (show (13 + w - 10).toNat = 13 ∨ (13 + w - 10).toNat = 14 ∨ (13 + w - 10).toNat = 15 ∨ (13 + w - 10).toNat = 16 ∨ (13 + w - 10).toNat = 17 ∨ (13 + w - 10).toNat = 18 by omega) with e | e | e | e | e | e <;> rw [e] <;> omega
  refine g_iload_n X dX8_count_0 rfl ?_
  rcases (show w = 0 ∨ w = 1 ∨ w = 2 ∨ w = 3 ∨ w = 4 ∨ w = 5 ∨ w = 6 ∨ w = 7 ∨ w = 8 ∨ w = 9 ∨ w = 10 ∨ w = 11 ∨ w = 12 ∨ w = 13 ∨ w = 14 ∨ w = 15 ∨ w = 16 ∨ w = 17 ∨ w = 18 ∨ w = 19 ∨ w = 20 ∨ w = 21 ∨ w = 22 ∨ w = 23 ∨ w = 24 ∨ (w < 0 ∨ 24 < w) by omega) with c1 | c1 | c1 | c1 | c1 | c1 | c1 | c1 | c1 | c1 | c1 | c1 | c1 | c1 | c1 | c1 | c1 | c1 | c1 | c1 | c1 | c1 | c1 | c1 | c1 | c1
  · skip
    refine g_tblIn X (tgt := 116) (off := 115) dX8_count_1 ⟨by omega, by omega⟩ (by omega) (by omega) (by rw [c1]; decide) (by decide) ?_
    refine g_aload_n X dX8_count_116 rfl ?_
    refine gf_X8_7 X fk12 dX8_count_117 ?_
    refine g_iconst X dX8_count_120 ?_
    refine g_iald X fk13 fl13 (by omega) (by omega) (by decide) (hM1.at (n := 0) (by omega) (by omega)) dX8_count_121 ?_
    refine g_i2l X dX8_count_122 ⟨by omega, by omega⟩ ?_
    exact R _ _ _ _ dX8_count_123 ⟨congrArg (fun z => some (jv z)) (by first | (exfalso; omega) | (unfold countX; (repeat (first | rw [if_pos (by omega)] | rw [if_neg (by omega)])); (first | done | rfl | exact congrArg s.1 (by omega) | (rw [show (w - 20).toNat = 0 by omega]; exact hM1.2.1) | (rw [show (w - 20).toNat = 1 by omega]; exact hM1.2.2)))), rfl⟩
  · skip
    refine g_tblIn X (tgt := 124) (off := 123) dX8_count_1 ⟨by omega, by omega⟩ (by omega) (by omega) (by rw [c1]; decide) (by decide) ?_
    refine g_aload_n X dX8_count_124 rfl ?_
    refine gf_X8_7 X fk12 dX8_count_125 ?_
    refine g_bipush X dX8_count_128 (by decide) ?_
    refine g_iald X fk13 fl13 (by omega) (by omega) (by decide) (hM1.at (n := 19) (by omega) (by omega)) dX8_count_130 ?_
    refine g_i2l X dX8_count_131 ⟨by omega, by omega⟩ ?_
    exact R _ _ _ _ dX8_count_132 ⟨congrArg (fun z => some (jv z)) (by first | (exfalso; omega) | (unfold countX; (repeat (first | rw [if_pos (by omega)] | rw [if_neg (by omega)])); (first | done | rfl | exact congrArg s.1 (by omega) | (rw [show (w - 20).toNat = 0 by omega]; exact hM1.2.1) | (rw [show (w - 20).toNat = 1 by omega]; exact hM1.2.2)))), rfl⟩
  · skip
    refine g_tblIn X (tgt := 133) (off := 132) dX8_count_1 ⟨by omega, by omega⟩ (by omega) (by omega) (by rw [c1]; decide) (by decide) ?_
    refine g_aload_n X dX8_count_133 rfl ?_
    refine cl_X8_77 X (c_X8_loosePiles l E σ s.1 N hM1 hR  ) fk12 ⟨Nat.le_of_ble_eq_true rfl, Nat.le_of_ble_eq_true rfl⟩ rfl (Nat.le_of_ble_eq_true rfl) dX8_count_134 rfl (fun v2 τ3 p4 => ?_)
    obtain ⟨rfl, rfl⟩ := p4
    have cb134 := cnt_bd (looseP s.1) (s.1 19).toNat
    refine g_i2l X dX8_count_137 ⟨by omega, by omega⟩ ?_
    exact R _ _ _ _ dX8_count_138 ⟨congrArg (fun z => some (jv z)) (by first | (exfalso; omega) | (unfold countX; (repeat (first | rw [if_pos (by omega)] | rw [if_neg (by omega)])); (first | done | rfl | exact congrArg s.1 (by omega) | (rw [show (w - 20).toNat = 0 by omega]; exact hM1.2.1) | (rw [show (w - 20).toNat = 1 by omega]; exact hM1.2.2)))), rfl⟩
  · skip
    refine g_tblIn X (tgt := 139) (off := 138) dX8_count_1 ⟨by omega, by omega⟩ (by omega) (by omega) (by rw [c1]; decide) (by decide) ?_
    refine g_aload_n X dX8_count_139 rfl ?_
    refine gf_X8_7 X fk12 dX8_count_140 ?_
    refine g_bipush X dX8_count_143 (by decide) ?_
    refine g_iald X fk13 fl13 (by omega) (by omega) (by decide) (hM1.at (n := 20) (by omega) (by omega)) dX8_count_145 ?_
    refine g_i2l X dX8_count_146 ⟨by omega, by omega⟩ ?_
    exact R _ _ _ _ dX8_count_147 ⟨congrArg (fun z => some (jv z)) (by first | (exfalso; omega) | (unfold countX; (repeat (first | rw [if_pos (by omega)] | rw [if_neg (by omega)])); (first | done | rfl | exact congrArg s.1 (by omega) | (rw [show (w - 20).toNat = 0 by omega]; exact hM1.2.1) | (rw [show (w - 20).toNat = 1 by omega]; exact hM1.2.2)))), rfl⟩
  · skip
    refine g_tblIn X (tgt := 148) (off := 147) dX8_count_1 ⟨by omega, by omega⟩ (by omega) (by omega) (by rw [c1]; decide) (by decide) ?_
    refine g_aload_n X dX8_count_148 rfl ?_
    refine gf_X8_47 X fk12 (show σ 12 4 = ((s.2.2.1 : Nat) : Int) from hM2.2.1) dX8_count_149 ?_
    refine g_i2l X dX8_count_152 ⟨by omega, by omega⟩ ?_
    exact R _ _ _ _ dX8_count_153 ⟨congrArg (fun z => some (jv z)) (by first | (exfalso; omega) | (unfold countX; (repeat (first | rw [if_pos (by omega)] | rw [if_neg (by omega)])); (first | done | rfl | exact congrArg s.1 (by omega) | (rw [show (w - 20).toNat = 0 by omega]; exact hM1.2.1) | (rw [show (w - 20).toNat = 1 by omega]; exact hM1.2.2)))), rfl⟩
  · skip
    refine g_tblIn X (tgt := 154) (off := 153) dX8_count_1 ⟨by omega, by omega⟩ (by omega) (by omega) (by rw [c1]; decide) (by decide) ?_
    refine g_aload_n X dX8_count_154 rfl ?_
    refine gf_X8_81 X fk12 (show σ 12 6 = ((s.2.2.2.1 : Nat) : Int) from hM3.2.1) dX8_count_155 ?_
    refine g_i2l X dX8_count_158 ⟨by omega, by omega⟩ ?_
    exact R _ _ _ _ dX8_count_159 ⟨congrArg (fun z => some (jv z)) (by first | (exfalso; omega) | (unfold countX; (repeat (first | rw [if_pos (by omega)] | rw [if_neg (by omega)])); (first | done | rfl | exact congrArg s.1 (by omega) | (rw [show (w - 20).toNat = 0 by omega]; exact hM1.2.1) | (rw [show (w - 20).toNat = 1 by omega]; exact hM1.2.2)))), rfl⟩
  · skip
    refine g_tblIn X (tgt := 160) (off := 159) dX8_count_1 ⟨by omega, by omega⟩ (by omega) (by omega) (by rw [c1]; decide) (by decide) ?_
    refine g_aload_n X dX8_count_160 rfl ?_
    refine cl_X8_84 X (c_X8_feet l E σ s.1 N hM1 hR  ) fk12 ⟨Nat.le_of_ble_eq_true rfl, Nat.le_of_ble_eq_true rfl⟩ rfl (Nat.le_of_ble_eq_true rfl) dX8_count_161 rfl (fun v5 τ6 p7 => ?_)
    obtain ⟨rfl, rfl⟩ := p7
    have fb161 := sumT_bd (th := fun j => s.1 (24 + 91 * j + 3)) (M := 50000) (s.1 19).toNat (fun j hj => by have q := (hR.2.2.2.2.2.2 j (by omega)).f; omega)
    refine g_i2l X dX8_count_164 ⟨by omega, by omega⟩ ?_
    exact R _ _ _ _ dX8_count_165 ⟨congrArg (fun z => some (jv z)) (by first | (exfalso; omega) | (unfold countX; (repeat (first | rw [if_pos (by omega)] | rw [if_neg (by omega)])); (first | done | rfl | exact congrArg s.1 (by omega) | (rw [show (w - 20).toNat = 0 by omega]; exact hM1.2.1) | (rw [show (w - 20).toNat = 1 by omega]; exact hM1.2.2)))), rfl⟩
  · skip
    refine g_tblIn X (tgt := 190) (off := 189) dX8_count_1 ⟨by omega, by omega⟩ (by omega) (by omega) (by rw [c1]; decide) (by decide) ?_
    refine g_iload_n X dX8_count_190 rfl ?_
    refine g_bipush X dX8_count_191 (by decide) ?_
    refine g_bipush X dX8_count_193 (by decide) ?_
    refine cl_X8_51 X (c_X8_in l E σ w 10 15 ⟨by omega, by omega⟩ ⟨by decide, by decide⟩ ⟨by decide, by decide⟩) ⟨Nat.le_of_ble_eq_true rfl, Nat.le_of_ble_eq_true rfl⟩ rfl (Nat.le_of_ble_eq_true rfl) dX8_count_195 rfl (fun v8 τ9 p10 => ?_)
    obtain ⟨rfl, ⟨b11, rfl⟩ | ⟨b11, rfl⟩⟩ := p10
    · skip
      skip
      refine g_if_eq X (tgt := 217) dX8_count_198 (by decide) ⟨by decide, by decide⟩ (fun q => absurd q (by decide)) (fun _ => ?_)
      refine g_aload_n X dX8_count_201 rfl ?_
      refine gf_X8_7 X fk12 dX8_count_202 ?_
      refine g_bipush X dX8_count_205 (by decide) ?_
      refine g_iload_n X dX8_count_207 rfl ?_
      refine g_iadd X dX8_count_208 ?_
      refine g_bipush X dX8_count_209 (by decide) ?_
      refine g_isub X dX8_count_211 ?_
      refine g_iald X fk13 fl13 (by omega) (by omega) (by decide) (hM1.at (n := (13 + w - 10).toNat) (by omega) (by omega)) dX8_count_212 ?_
      refine g_i2l X dX8_count_213 ⟨by omega, by omega⟩ ?_
      refine g_goto X (tgt := 220) dX8_count_214 (by decide) ?_
      exact R _ _ _ _ dX8_count_220 ⟨congrArg (fun z => some (jv z)) (by first | (exfalso; omega) | (unfold countX; (repeat (first | rw [if_pos (by omega)] | rw [if_neg (by omega)])); (first | done | rfl | exact congrArg s.1 (by omega) | (rw [show (w - 20).toNat = 0 by omega]; exact hM1.2.1) | (rw [show (w - 20).toNat = 1 by omega]; exact hM1.2.2)))), rfl⟩
    · skip
      skip
      refine g_if_eq X (tgt := 217) dX8_count_198 (by decide) ⟨by decide, by decide⟩ (fun _ => ?_) (fun q => absurd q (by decide))
      refine g_ldc2 X (n := -1) dX8_count_217 wK_X8_87 (by decide) ?_
      exact R _ _ _ _ dX8_count_220 ⟨congrArg (fun z => some (jv z)) (by first | (exfalso; omega) | (unfold countX; (repeat (first | rw [if_pos (by omega)] | rw [if_neg (by omega)])); (first | done | rfl | exact congrArg s.1 (by omega) | (rw [show (w - 20).toNat = 0 by omega]; exact hM1.2.1) | (rw [show (w - 20).toNat = 1 by omega]; exact hM1.2.2)))), rfl⟩
  · skip
    refine g_tblIn X (tgt := 190) (off := 189) dX8_count_1 ⟨by omega, by omega⟩ (by omega) (by omega) (by rw [c1]; decide) (by decide) ?_
    refine g_iload_n X dX8_count_190 rfl ?_
    refine g_bipush X dX8_count_191 (by decide) ?_
    refine g_bipush X dX8_count_193 (by decide) ?_
    refine cl_X8_51 X (c_X8_in l E σ w 10 15 ⟨by omega, by omega⟩ ⟨by decide, by decide⟩ ⟨by decide, by decide⟩) ⟨Nat.le_of_ble_eq_true rfl, Nat.le_of_ble_eq_true rfl⟩ rfl (Nat.le_of_ble_eq_true rfl) dX8_count_195 rfl (fun v12 τ13 p14 => ?_)
    obtain ⟨rfl, ⟨b15, rfl⟩ | ⟨b15, rfl⟩⟩ := p14
    · skip
      skip
      refine g_if_eq X (tgt := 217) dX8_count_198 (by decide) ⟨by decide, by decide⟩ (fun q => absurd q (by decide)) (fun _ => ?_)
      refine g_aload_n X dX8_count_201 rfl ?_
      refine gf_X8_7 X fk12 dX8_count_202 ?_
      refine g_bipush X dX8_count_205 (by decide) ?_
      refine g_iload_n X dX8_count_207 rfl ?_
      refine g_iadd X dX8_count_208 ?_
      refine g_bipush X dX8_count_209 (by decide) ?_
      refine g_isub X dX8_count_211 ?_
      refine g_iald X fk13 fl13 (by omega) (by omega) (by decide) (hM1.at (n := (13 + w - 10).toNat) (by omega) (by omega)) dX8_count_212 ?_
      refine g_i2l X dX8_count_213 ⟨by omega, by omega⟩ ?_
      refine g_goto X (tgt := 220) dX8_count_214 (by decide) ?_
      exact R _ _ _ _ dX8_count_220 ⟨congrArg (fun z => some (jv z)) (by first | (exfalso; omega) | (unfold countX; (repeat (first | rw [if_pos (by omega)] | rw [if_neg (by omega)])); (first | done | rfl | exact congrArg s.1 (by omega) | (rw [show (w - 20).toNat = 0 by omega]; exact hM1.2.1) | (rw [show (w - 20).toNat = 1 by omega]; exact hM1.2.2)))), rfl⟩
    · skip
      skip
      refine g_if_eq X (tgt := 217) dX8_count_198 (by decide) ⟨by decide, by decide⟩ (fun _ => ?_) (fun q => absurd q (by decide))
      refine g_ldc2 X (n := -1) dX8_count_217 wK_X8_87 (by decide) ?_
      exact R _ _ _ _ dX8_count_220 ⟨congrArg (fun z => some (jv z)) (by first | (exfalso; omega) | (unfold countX; (repeat (first | rw [if_pos (by omega)] | rw [if_neg (by omega)])); (first | done | rfl | exact congrArg s.1 (by omega) | (rw [show (w - 20).toNat = 0 by omega]; exact hM1.2.1) | (rw [show (w - 20).toNat = 1 by omega]; exact hM1.2.2)))), rfl⟩
  · skip
    refine g_tblIn X (tgt := 190) (off := 189) dX8_count_1 ⟨by omega, by omega⟩ (by omega) (by omega) (by rw [c1]; decide) (by decide) ?_
    refine g_iload_n X dX8_count_190 rfl ?_
    refine g_bipush X dX8_count_191 (by decide) ?_
    refine g_bipush X dX8_count_193 (by decide) ?_
    refine cl_X8_51 X (c_X8_in l E σ w 10 15 ⟨by omega, by omega⟩ ⟨by decide, by decide⟩ ⟨by decide, by decide⟩) ⟨Nat.le_of_ble_eq_true rfl, Nat.le_of_ble_eq_true rfl⟩ rfl (Nat.le_of_ble_eq_true rfl) dX8_count_195 rfl (fun v16 τ17 p18 => ?_)
    obtain ⟨rfl, ⟨b19, rfl⟩ | ⟨b19, rfl⟩⟩ := p18
    · skip
      skip
      refine g_if_eq X (tgt := 217) dX8_count_198 (by decide) ⟨by decide, by decide⟩ (fun q => absurd q (by decide)) (fun _ => ?_)
      refine g_aload_n X dX8_count_201 rfl ?_
      refine gf_X8_7 X fk12 dX8_count_202 ?_
      refine g_bipush X dX8_count_205 (by decide) ?_
      refine g_iload_n X dX8_count_207 rfl ?_
      refine g_iadd X dX8_count_208 ?_
      refine g_bipush X dX8_count_209 (by decide) ?_
      refine g_isub X dX8_count_211 ?_
      refine g_iald X fk13 fl13 (by omega) (by omega) (by decide) (hM1.at (n := (13 + w - 10).toNat) (by omega) (by omega)) dX8_count_212 ?_
      refine g_i2l X dX8_count_213 ⟨by omega, by omega⟩ ?_
      refine g_goto X (tgt := 220) dX8_count_214 (by decide) ?_
      exact R _ _ _ _ dX8_count_220 ⟨congrArg (fun z => some (jv z)) (by first | (exfalso; omega) | (unfold countX; (repeat (first | rw [if_pos (by omega)] | rw [if_neg (by omega)])); (first | done | rfl | exact congrArg s.1 (by omega) | (rw [show (w - 20).toNat = 0 by omega]; exact hM1.2.1) | (rw [show (w - 20).toNat = 1 by omega]; exact hM1.2.2)))), rfl⟩
    · skip
      skip
      refine g_if_eq X (tgt := 217) dX8_count_198 (by decide) ⟨by decide, by decide⟩ (fun _ => ?_) (fun q => absurd q (by decide))
      refine g_ldc2 X (n := -1) dX8_count_217 wK_X8_87 (by decide) ?_
      exact R _ _ _ _ dX8_count_220 ⟨congrArg (fun z => some (jv z)) (by first | (exfalso; omega) | (unfold countX; (repeat (first | rw [if_pos (by omega)] | rw [if_neg (by omega)])); (first | done | rfl | exact congrArg s.1 (by omega) | (rw [show (w - 20).toNat = 0 by omega]; exact hM1.2.1) | (rw [show (w - 20).toNat = 1 by omega]; exact hM1.2.2)))), rfl⟩
  · skip
    refine g_tblIn X (tgt := 190) (off := 189) dX8_count_1 ⟨by omega, by omega⟩ (by omega) (by omega) (by rw [c1]; decide) (by decide) ?_
    refine g_iload_n X dX8_count_190 rfl ?_
    refine g_bipush X dX8_count_191 (by decide) ?_
    refine g_bipush X dX8_count_193 (by decide) ?_
    refine cl_X8_51 X (c_X8_in l E σ w 10 15 ⟨by omega, by omega⟩ ⟨by decide, by decide⟩ ⟨by decide, by decide⟩) ⟨Nat.le_of_ble_eq_true rfl, Nat.le_of_ble_eq_true rfl⟩ rfl (Nat.le_of_ble_eq_true rfl) dX8_count_195 rfl (fun v20 τ21 p22 => ?_)
    obtain ⟨rfl, ⟨b23, rfl⟩ | ⟨b23, rfl⟩⟩ := p22
    · skip
      skip
      refine g_if_eq X (tgt := 217) dX8_count_198 (by decide) ⟨by decide, by decide⟩ (fun q => absurd q (by decide)) (fun _ => ?_)
      refine g_aload_n X dX8_count_201 rfl ?_
      refine gf_X8_7 X fk12 dX8_count_202 ?_
      refine g_bipush X dX8_count_205 (by decide) ?_
      refine g_iload_n X dX8_count_207 rfl ?_
      refine g_iadd X dX8_count_208 ?_
      refine g_bipush X dX8_count_209 (by decide) ?_
      refine g_isub X dX8_count_211 ?_
      refine g_iald X fk13 fl13 (by omega) (by omega) (by decide) (hM1.at (n := (13 + w - 10).toNat) (by omega) (by omega)) dX8_count_212 ?_
      refine g_i2l X dX8_count_213 ⟨by omega, by omega⟩ ?_
      refine g_goto X (tgt := 220) dX8_count_214 (by decide) ?_
      exact R _ _ _ _ dX8_count_220 ⟨congrArg (fun z => some (jv z)) (by first | (exfalso; omega) | (unfold countX; (repeat (first | rw [if_pos (by omega)] | rw [if_neg (by omega)])); (first | done | rfl | exact congrArg s.1 (by omega) | (rw [show (w - 20).toNat = 0 by omega]; exact hM1.2.1) | (rw [show (w - 20).toNat = 1 by omega]; exact hM1.2.2)))), rfl⟩
    · skip
      skip
      refine g_if_eq X (tgt := 217) dX8_count_198 (by decide) ⟨by decide, by decide⟩ (fun _ => ?_) (fun q => absurd q (by decide))
      refine g_ldc2 X (n := -1) dX8_count_217 wK_X8_87 (by decide) ?_
      exact R _ _ _ _ dX8_count_220 ⟨congrArg (fun z => some (jv z)) (by first | (exfalso; omega) | (unfold countX; (repeat (first | rw [if_pos (by omega)] | rw [if_neg (by omega)])); (first | done | rfl | exact congrArg s.1 (by omega) | (rw [show (w - 20).toNat = 0 by omega]; exact hM1.2.1) | (rw [show (w - 20).toNat = 1 by omega]; exact hM1.2.2)))), rfl⟩
  · skip
    refine g_tblIn X (tgt := 190) (off := 189) dX8_count_1 ⟨by omega, by omega⟩ (by omega) (by omega) (by rw [c1]; decide) (by decide) ?_
    refine g_iload_n X dX8_count_190 rfl ?_
    refine g_bipush X dX8_count_191 (by decide) ?_
    refine g_bipush X dX8_count_193 (by decide) ?_
    refine cl_X8_51 X (c_X8_in l E σ w 10 15 ⟨by omega, by omega⟩ ⟨by decide, by decide⟩ ⟨by decide, by decide⟩) ⟨Nat.le_of_ble_eq_true rfl, Nat.le_of_ble_eq_true rfl⟩ rfl (Nat.le_of_ble_eq_true rfl) dX8_count_195 rfl (fun v24 τ25 p26 => ?_)
    obtain ⟨rfl, ⟨b27, rfl⟩ | ⟨b27, rfl⟩⟩ := p26
    · skip
      skip
      refine g_if_eq X (tgt := 217) dX8_count_198 (by decide) ⟨by decide, by decide⟩ (fun q => absurd q (by decide)) (fun _ => ?_)
      refine g_aload_n X dX8_count_201 rfl ?_
      refine gf_X8_7 X fk12 dX8_count_202 ?_
      refine g_bipush X dX8_count_205 (by decide) ?_
      refine g_iload_n X dX8_count_207 rfl ?_
      refine g_iadd X dX8_count_208 ?_
      refine g_bipush X dX8_count_209 (by decide) ?_
      refine g_isub X dX8_count_211 ?_
      refine g_iald X fk13 fl13 (by omega) (by omega) (by decide) (hM1.at (n := (13 + w - 10).toNat) (by omega) (by omega)) dX8_count_212 ?_
      refine g_i2l X dX8_count_213 ⟨by omega, by omega⟩ ?_
      refine g_goto X (tgt := 220) dX8_count_214 (by decide) ?_
      exact R _ _ _ _ dX8_count_220 ⟨congrArg (fun z => some (jv z)) (by first | (exfalso; omega) | (unfold countX; (repeat (first | rw [if_pos (by omega)] | rw [if_neg (by omega)])); (first | done | rfl | exact congrArg s.1 (by omega) | (rw [show (w - 20).toNat = 0 by omega]; exact hM1.2.1) | (rw [show (w - 20).toNat = 1 by omega]; exact hM1.2.2)))), rfl⟩
    · skip
      skip
      refine g_if_eq X (tgt := 217) dX8_count_198 (by decide) ⟨by decide, by decide⟩ (fun _ => ?_) (fun q => absurd q (by decide))
      refine g_ldc2 X (n := -1) dX8_count_217 wK_X8_87 (by decide) ?_
      exact R _ _ _ _ dX8_count_220 ⟨congrArg (fun z => some (jv z)) (by first | (exfalso; omega) | (unfold countX; (repeat (first | rw [if_pos (by omega)] | rw [if_neg (by omega)])); (first | done | rfl | exact congrArg s.1 (by omega) | (rw [show (w - 20).toNat = 0 by omega]; exact hM1.2.1) | (rw [show (w - 20).toNat = 1 by omega]; exact hM1.2.2)))), rfl⟩
  · skip
    refine g_tblIn X (tgt := 190) (off := 189) dX8_count_1 ⟨by omega, by omega⟩ (by omega) (by omega) (by rw [c1]; decide) (by decide) ?_
    refine g_iload_n X dX8_count_190 rfl ?_
    refine g_bipush X dX8_count_191 (by decide) ?_
    refine g_bipush X dX8_count_193 (by decide) ?_
    refine cl_X8_51 X (c_X8_in l E σ w 10 15 ⟨by omega, by omega⟩ ⟨by decide, by decide⟩ ⟨by decide, by decide⟩) ⟨Nat.le_of_ble_eq_true rfl, Nat.le_of_ble_eq_true rfl⟩ rfl (Nat.le_of_ble_eq_true rfl) dX8_count_195 rfl (fun v28 τ29 p30 => ?_)
    obtain ⟨rfl, ⟨b31, rfl⟩ | ⟨b31, rfl⟩⟩ := p30
    · skip
      skip
      refine g_if_eq X (tgt := 217) dX8_count_198 (by decide) ⟨by decide, by decide⟩ (fun q => absurd q (by decide)) (fun _ => ?_)
      refine g_aload_n X dX8_count_201 rfl ?_
      refine gf_X8_7 X fk12 dX8_count_202 ?_
      refine g_bipush X dX8_count_205 (by decide) ?_
      refine g_iload_n X dX8_count_207 rfl ?_
      refine g_iadd X dX8_count_208 ?_
      refine g_bipush X dX8_count_209 (by decide) ?_
      refine g_isub X dX8_count_211 ?_
      refine g_iald X fk13 fl13 (by omega) (by omega) (by decide) (hM1.at (n := (13 + w - 10).toNat) (by omega) (by omega)) dX8_count_212 ?_
      refine g_i2l X dX8_count_213 ⟨by omega, by omega⟩ ?_
      refine g_goto X (tgt := 220) dX8_count_214 (by decide) ?_
      exact R _ _ _ _ dX8_count_220 ⟨congrArg (fun z => some (jv z)) (by first | (exfalso; omega) | (unfold countX; (repeat (first | rw [if_pos (by omega)] | rw [if_neg (by omega)])); (first | done | rfl | exact congrArg s.1 (by omega) | (rw [show (w - 20).toNat = 0 by omega]; exact hM1.2.1) | (rw [show (w - 20).toNat = 1 by omega]; exact hM1.2.2)))), rfl⟩
    · skip
      skip
      refine g_if_eq X (tgt := 217) dX8_count_198 (by decide) ⟨by decide, by decide⟩ (fun _ => ?_) (fun q => absurd q (by decide))
      refine g_ldc2 X (n := -1) dX8_count_217 wK_X8_87 (by decide) ?_
      exact R _ _ _ _ dX8_count_220 ⟨congrArg (fun z => some (jv z)) (by first | (exfalso; omega) | (unfold countX; (repeat (first | rw [if_pos (by omega)] | rw [if_neg (by omega)])); (first | done | rfl | exact congrArg s.1 (by omega) | (rw [show (w - 20).toNat = 0 by omega]; exact hM1.2.1) | (rw [show (w - 20).toNat = 1 by omega]; exact hM1.2.2)))), rfl⟩
  · skip
    refine g_tblIn X (tgt := 190) (off := 189) dX8_count_1 ⟨by omega, by omega⟩ (by omega) (by omega) (by rw [c1]; decide) (by decide) ?_
    refine g_iload_n X dX8_count_190 rfl ?_
    refine g_bipush X dX8_count_191 (by decide) ?_
    refine g_bipush X dX8_count_193 (by decide) ?_
    refine cl_X8_51 X (c_X8_in l E σ w 10 15 ⟨by omega, by omega⟩ ⟨by decide, by decide⟩ ⟨by decide, by decide⟩) ⟨Nat.le_of_ble_eq_true rfl, Nat.le_of_ble_eq_true rfl⟩ rfl (Nat.le_of_ble_eq_true rfl) dX8_count_195 rfl (fun v32 τ33 p34 => ?_)
    obtain ⟨rfl, ⟨b35, rfl⟩ | ⟨b35, rfl⟩⟩ := p34
    · skip
      skip
      refine g_if_eq X (tgt := 217) dX8_count_198 (by decide) ⟨by decide, by decide⟩ (fun q => absurd q (by decide)) (fun _ => ?_)
      refine g_aload_n X dX8_count_201 rfl ?_
      refine gf_X8_7 X fk12 dX8_count_202 ?_
      refine g_bipush X dX8_count_205 (by decide) ?_
      refine g_iload_n X dX8_count_207 rfl ?_
      refine g_iadd X dX8_count_208 ?_
      refine g_bipush X dX8_count_209 (by decide) ?_
      refine g_isub X dX8_count_211 ?_
      refine g_iald X fk13 fl13 (by omega) (by omega) (by decide) (hM1.at (n := (13 + w - 10).toNat) (by omega) (by omega)) dX8_count_212 ?_
      refine g_i2l X dX8_count_213 ⟨by omega, by omega⟩ ?_
      refine g_goto X (tgt := 220) dX8_count_214 (by decide) ?_
      exact R _ _ _ _ dX8_count_220 ⟨congrArg (fun z => some (jv z)) (by first | (exfalso; omega) | (unfold countX; (repeat (first | rw [if_pos (by omega)] | rw [if_neg (by omega)])); (first | done | rfl | exact congrArg s.1 (by omega) | (rw [show (w - 20).toNat = 0 by omega]; exact hM1.2.1) | (rw [show (w - 20).toNat = 1 by omega]; exact hM1.2.2)))), rfl⟩
    · skip
      skip
      refine g_if_eq X (tgt := 217) dX8_count_198 (by decide) ⟨by decide, by decide⟩ (fun _ => ?_) (fun q => absurd q (by decide))
      refine g_ldc2 X (n := -1) dX8_count_217 wK_X8_87 (by decide) ?_
      exact R _ _ _ _ dX8_count_220 ⟨congrArg (fun z => some (jv z)) (by first | (exfalso; omega) | (unfold countX; (repeat (first | rw [if_pos (by omega)] | rw [if_neg (by omega)])); (first | done | rfl | exact congrArg s.1 (by omega) | (rw [show (w - 20).toNat = 0 by omega]; exact hM1.2.1) | (rw [show (w - 20).toNat = 1 by omega]; exact hM1.2.2)))), rfl⟩
  · skip
    refine g_tblIn X (tgt := 190) (off := 189) dX8_count_1 ⟨by omega, by omega⟩ (by omega) (by omega) (by rw [c1]; decide) (by decide) ?_
    refine g_iload_n X dX8_count_190 rfl ?_
    refine g_bipush X dX8_count_191 (by decide) ?_
    refine g_bipush X dX8_count_193 (by decide) ?_
    refine cl_X8_51 X (c_X8_in l E σ w 10 15 ⟨by omega, by omega⟩ ⟨by decide, by decide⟩ ⟨by decide, by decide⟩) ⟨Nat.le_of_ble_eq_true rfl, Nat.le_of_ble_eq_true rfl⟩ rfl (Nat.le_of_ble_eq_true rfl) dX8_count_195 rfl (fun v36 τ37 p38 => ?_)
    obtain ⟨rfl, ⟨b39, rfl⟩ | ⟨b39, rfl⟩⟩ := p38
    · skip
      skip
      refine g_if_eq X (tgt := 217) dX8_count_198 (by decide) ⟨by decide, by decide⟩ (fun q => absurd q (by decide)) (fun _ => ?_)
      refine g_aload_n X dX8_count_201 rfl ?_
      refine gf_X8_7 X fk12 dX8_count_202 ?_
      refine g_bipush X dX8_count_205 (by decide) ?_
      refine g_iload_n X dX8_count_207 rfl ?_
      refine g_iadd X dX8_count_208 ?_
      refine g_bipush X dX8_count_209 (by decide) ?_
      refine g_isub X dX8_count_211 ?_
      refine g_iald X fk13 fl13 (by omega) (by omega) (by decide) (hM1.at (n := (13 + w - 10).toNat) (by omega) (by omega)) dX8_count_212 ?_
      refine g_i2l X dX8_count_213 ⟨by omega, by omega⟩ ?_
      refine g_goto X (tgt := 220) dX8_count_214 (by decide) ?_
      exact R _ _ _ _ dX8_count_220 ⟨congrArg (fun z => some (jv z)) (by first | (exfalso; omega) | (unfold countX; (repeat (first | rw [if_pos (by omega)] | rw [if_neg (by omega)])); (first | done | rfl | exact congrArg s.1 (by omega) | (rw [show (w - 20).toNat = 0 by omega]; exact hM1.2.1) | (rw [show (w - 20).toNat = 1 by omega]; exact hM1.2.2)))), rfl⟩
    · skip
      skip
      refine g_if_eq X (tgt := 217) dX8_count_198 (by decide) ⟨by decide, by decide⟩ (fun _ => ?_) (fun q => absurd q (by decide))
      refine g_ldc2 X (n := -1) dX8_count_217 wK_X8_87 (by decide) ?_
      exact R _ _ _ _ dX8_count_220 ⟨congrArg (fun z => some (jv z)) (by first | (exfalso; omega) | (unfold countX; (repeat (first | rw [if_pos (by omega)] | rw [if_neg (by omega)])); (first | done | rfl | exact congrArg s.1 (by omega) | (rw [show (w - 20).toNat = 0 by omega]; exact hM1.2.1) | (rw [show (w - 20).toNat = 1 by omega]; exact hM1.2.2)))), rfl⟩
  · skip
    refine g_tblIn X (tgt := 190) (off := 189) dX8_count_1 ⟨by omega, by omega⟩ (by omega) (by omega) (by rw [c1]; decide) (by decide) ?_
    refine g_iload_n X dX8_count_190 rfl ?_
    refine g_bipush X dX8_count_191 (by decide) ?_
    refine g_bipush X dX8_count_193 (by decide) ?_
    refine cl_X8_51 X (c_X8_in l E σ w 10 15 ⟨by omega, by omega⟩ ⟨by decide, by decide⟩ ⟨by decide, by decide⟩) ⟨Nat.le_of_ble_eq_true rfl, Nat.le_of_ble_eq_true rfl⟩ rfl (Nat.le_of_ble_eq_true rfl) dX8_count_195 rfl (fun v40 τ41 p42 => ?_)
    obtain ⟨rfl, ⟨b43, rfl⟩ | ⟨b43, rfl⟩⟩ := p42
    · skip
      skip
      refine g_if_eq X (tgt := 217) dX8_count_198 (by decide) ⟨by decide, by decide⟩ (fun q => absurd q (by decide)) (fun _ => ?_)
      refine g_aload_n X dX8_count_201 rfl ?_
      refine gf_X8_7 X fk12 dX8_count_202 ?_
      refine g_bipush X dX8_count_205 (by decide) ?_
      refine g_iload_n X dX8_count_207 rfl ?_
      refine g_iadd X dX8_count_208 ?_
      refine g_bipush X dX8_count_209 (by decide) ?_
      refine g_isub X dX8_count_211 ?_
      refine g_iald X fk13 fl13 (by omega) (by omega) (by decide) (hM1.at (n := (13 + w - 10).toNat) (by omega) (by omega)) dX8_count_212 ?_
      refine g_i2l X dX8_count_213 ⟨by omega, by omega⟩ ?_
      refine g_goto X (tgt := 220) dX8_count_214 (by decide) ?_
      exact R _ _ _ _ dX8_count_220 ⟨congrArg (fun z => some (jv z)) (by first | (exfalso; omega) | (unfold countX; (repeat (first | rw [if_pos (by omega)] | rw [if_neg (by omega)])); (first | done | rfl | exact congrArg s.1 (by omega) | (rw [show (w - 20).toNat = 0 by omega]; exact hM1.2.1) | (rw [show (w - 20).toNat = 1 by omega]; exact hM1.2.2)))), rfl⟩
    · skip
      skip
      refine g_if_eq X (tgt := 217) dX8_count_198 (by decide) ⟨by decide, by decide⟩ (fun _ => ?_) (fun q => absurd q (by decide))
      refine g_ldc2 X (n := -1) dX8_count_217 wK_X8_87 (by decide) ?_
      exact R _ _ _ _ dX8_count_220 ⟨congrArg (fun z => some (jv z)) (by first | (exfalso; omega) | (unfold countX; (repeat (first | rw [if_pos (by omega)] | rw [if_neg (by omega)])); (first | done | rfl | exact congrArg s.1 (by omega) | (rw [show (w - 20).toNat = 0 by omega]; exact hM1.2.1) | (rw [show (w - 20).toNat = 1 by omega]; exact hM1.2.2)))), rfl⟩
  · skip
    refine g_tblIn X (tgt := 190) (off := 189) dX8_count_1 ⟨by omega, by omega⟩ (by omega) (by omega) (by rw [c1]; decide) (by decide) ?_
    refine g_iload_n X dX8_count_190 rfl ?_
    refine g_bipush X dX8_count_191 (by decide) ?_
    refine g_bipush X dX8_count_193 (by decide) ?_
    refine cl_X8_51 X (c_X8_in l E σ w 10 15 ⟨by omega, by omega⟩ ⟨by decide, by decide⟩ ⟨by decide, by decide⟩) ⟨Nat.le_of_ble_eq_true rfl, Nat.le_of_ble_eq_true rfl⟩ rfl (Nat.le_of_ble_eq_true rfl) dX8_count_195 rfl (fun v44 τ45 p46 => ?_)
    obtain ⟨rfl, ⟨b47, rfl⟩ | ⟨b47, rfl⟩⟩ := p46
    · skip
      skip
      refine g_if_eq X (tgt := 217) dX8_count_198 (by decide) ⟨by decide, by decide⟩ (fun q => absurd q (by decide)) (fun _ => ?_)
      refine g_aload_n X dX8_count_201 rfl ?_
      refine gf_X8_7 X fk12 dX8_count_202 ?_
      refine g_bipush X dX8_count_205 (by decide) ?_
      refine g_iload_n X dX8_count_207 rfl ?_
      refine g_iadd X dX8_count_208 ?_
      refine g_bipush X dX8_count_209 (by decide) ?_
      refine g_isub X dX8_count_211 ?_
      refine g_iald X fk13 fl13 (by omega) (by omega) (by decide) (hM1.at (n := (13 + w - 10).toNat) (by omega) (by omega)) dX8_count_212 ?_
      refine g_i2l X dX8_count_213 ⟨by omega, by omega⟩ ?_
      refine g_goto X (tgt := 220) dX8_count_214 (by decide) ?_
      exact R _ _ _ _ dX8_count_220 ⟨congrArg (fun z => some (jv z)) (by first | (exfalso; omega) | (unfold countX; (repeat (first | rw [if_pos (by omega)] | rw [if_neg (by omega)])); (first | done | rfl | exact congrArg s.1 (by omega) | (rw [show (w - 20).toNat = 0 by omega]; exact hM1.2.1) | (rw [show (w - 20).toNat = 1 by omega]; exact hM1.2.2)))), rfl⟩
    · skip
      skip
      refine g_if_eq X (tgt := 217) dX8_count_198 (by decide) ⟨by decide, by decide⟩ (fun _ => ?_) (fun q => absurd q (by decide))
      refine g_ldc2 X (n := -1) dX8_count_217 wK_X8_87 (by decide) ?_
      exact R _ _ _ _ dX8_count_220 ⟨congrArg (fun z => some (jv z)) (by first | (exfalso; omega) | (unfold countX; (repeat (first | rw [if_pos (by omega)] | rw [if_neg (by omega)])); (first | done | rfl | exact congrArg s.1 (by omega) | (rw [show (w - 20).toNat = 0 by omega]; exact hM1.2.1) | (rw [show (w - 20).toNat = 1 by omega]; exact hM1.2.2)))), rfl⟩
  · skip
    refine g_tblIn X (tgt := 190) (off := 189) dX8_count_1 ⟨by omega, by omega⟩ (by omega) (by omega) (by rw [c1]; decide) (by decide) ?_
    refine g_iload_n X dX8_count_190 rfl ?_
    refine g_bipush X dX8_count_191 (by decide) ?_
    refine g_bipush X dX8_count_193 (by decide) ?_
    refine cl_X8_51 X (c_X8_in l E σ w 10 15 ⟨by omega, by omega⟩ ⟨by decide, by decide⟩ ⟨by decide, by decide⟩) ⟨Nat.le_of_ble_eq_true rfl, Nat.le_of_ble_eq_true rfl⟩ rfl (Nat.le_of_ble_eq_true rfl) dX8_count_195 rfl (fun v48 τ49 p50 => ?_)
    obtain ⟨rfl, ⟨b51, rfl⟩ | ⟨b51, rfl⟩⟩ := p50
    · skip
      skip
      refine g_if_eq X (tgt := 217) dX8_count_198 (by decide) ⟨by decide, by decide⟩ (fun q => absurd q (by decide)) (fun _ => ?_)
      refine g_aload_n X dX8_count_201 rfl ?_
      refine gf_X8_7 X fk12 dX8_count_202 ?_
      refine g_bipush X dX8_count_205 (by decide) ?_
      refine g_iload_n X dX8_count_207 rfl ?_
      refine g_iadd X dX8_count_208 ?_
      refine g_bipush X dX8_count_209 (by decide) ?_
      refine g_isub X dX8_count_211 ?_
      refine g_iald X fk13 fl13 (by omega) (by omega) (by decide) (hM1.at (n := (13 + w - 10).toNat) (by omega) (by omega)) dX8_count_212 ?_
      refine g_i2l X dX8_count_213 ⟨by omega, by omega⟩ ?_
      refine g_goto X (tgt := 220) dX8_count_214 (by decide) ?_
      exact R _ _ _ _ dX8_count_220 ⟨congrArg (fun z => some (jv z)) (by first | (exfalso; omega) | (unfold countX; (repeat (first | rw [if_pos (by omega)] | rw [if_neg (by omega)])); (first | done | rfl | exact congrArg s.1 (by omega) | (rw [show (w - 20).toNat = 0 by omega]; exact hM1.2.1) | (rw [show (w - 20).toNat = 1 by omega]; exact hM1.2.2)))), rfl⟩
    · skip
      skip
      refine g_if_eq X (tgt := 217) dX8_count_198 (by decide) ⟨by decide, by decide⟩ (fun _ => ?_) (fun q => absurd q (by decide))
      refine g_ldc2 X (n := -1) dX8_count_217 wK_X8_87 (by decide) ?_
      exact R _ _ _ _ dX8_count_220 ⟨congrArg (fun z => some (jv z)) (by first | (exfalso; omega) | (unfold countX; (repeat (first | rw [if_pos (by omega)] | rw [if_neg (by omega)])); (first | done | rfl | exact congrArg s.1 (by omega) | (rw [show (w - 20).toNat = 0 by omega]; exact hM1.2.1) | (rw [show (w - 20).toNat = 1 by omega]; exact hM1.2.2)))), rfl⟩
  · skip
    refine g_tblIn X (tgt := 190) (off := 189) dX8_count_1 ⟨by omega, by omega⟩ (by omega) (by omega) (by rw [c1]; decide) (by decide) ?_
    refine g_iload_n X dX8_count_190 rfl ?_
    refine g_bipush X dX8_count_191 (by decide) ?_
    refine g_bipush X dX8_count_193 (by decide) ?_
    refine cl_X8_51 X (c_X8_in l E σ w 10 15 ⟨by omega, by omega⟩ ⟨by decide, by decide⟩ ⟨by decide, by decide⟩) ⟨Nat.le_of_ble_eq_true rfl, Nat.le_of_ble_eq_true rfl⟩ rfl (Nat.le_of_ble_eq_true rfl) dX8_count_195 rfl (fun v52 τ53 p54 => ?_)
    obtain ⟨rfl, ⟨b55, rfl⟩ | ⟨b55, rfl⟩⟩ := p54
    · skip
      skip
      refine g_if_eq X (tgt := 217) dX8_count_198 (by decide) ⟨by decide, by decide⟩ (fun q => absurd q (by decide)) (fun _ => ?_)
      refine g_aload_n X dX8_count_201 rfl ?_
      refine gf_X8_7 X fk12 dX8_count_202 ?_
      refine g_bipush X dX8_count_205 (by decide) ?_
      refine g_iload_n X dX8_count_207 rfl ?_
      refine g_iadd X dX8_count_208 ?_
      refine g_bipush X dX8_count_209 (by decide) ?_
      refine g_isub X dX8_count_211 ?_
      refine g_iald X fk13 fl13 (by omega) (by omega) (by decide) (hM1.at (n := (13 + w - 10).toNat) (by omega) (by omega)) dX8_count_212 ?_
      refine g_i2l X dX8_count_213 ⟨by omega, by omega⟩ ?_
      refine g_goto X (tgt := 220) dX8_count_214 (by decide) ?_
      exact R _ _ _ _ dX8_count_220 ⟨congrArg (fun z => some (jv z)) (by first | (exfalso; omega) | (unfold countX; (repeat (first | rw [if_pos (by omega)] | rw [if_neg (by omega)])); (first | done | rfl | exact congrArg s.1 (by omega) | (rw [show (w - 20).toNat = 0 by omega]; exact hM1.2.1) | (rw [show (w - 20).toNat = 1 by omega]; exact hM1.2.2)))), rfl⟩
    · skip
      skip
      refine g_if_eq X (tgt := 217) dX8_count_198 (by decide) ⟨by decide, by decide⟩ (fun _ => ?_) (fun q => absurd q (by decide))
      refine g_ldc2 X (n := -1) dX8_count_217 wK_X8_87 (by decide) ?_
      exact R _ _ _ _ dX8_count_220 ⟨congrArg (fun z => some (jv z)) (by first | (exfalso; omega) | (unfold countX; (repeat (first | rw [if_pos (by omega)] | rw [if_neg (by omega)])); (first | done | rfl | exact congrArg s.1 (by omega) | (rw [show (w - 20).toNat = 0 by omega]; exact hM1.2.1) | (rw [show (w - 20).toNat = 1 by omega]; exact hM1.2.2)))), rfl⟩
  · skip
    refine g_tblIn X (tgt := 190) (off := 189) dX8_count_1 ⟨by omega, by omega⟩ (by omega) (by omega) (by rw [c1]; decide) (by decide) ?_
    refine g_iload_n X dX8_count_190 rfl ?_
    refine g_bipush X dX8_count_191 (by decide) ?_
    refine g_bipush X dX8_count_193 (by decide) ?_
    refine cl_X8_51 X (c_X8_in l E σ w 10 15 ⟨by omega, by omega⟩ ⟨by decide, by decide⟩ ⟨by decide, by decide⟩) ⟨Nat.le_of_ble_eq_true rfl, Nat.le_of_ble_eq_true rfl⟩ rfl (Nat.le_of_ble_eq_true rfl) dX8_count_195 rfl (fun v56 τ57 p58 => ?_)
    obtain ⟨rfl, ⟨b59, rfl⟩ | ⟨b59, rfl⟩⟩ := p58
    · skip
      skip
      refine g_if_eq X (tgt := 217) dX8_count_198 (by decide) ⟨by decide, by decide⟩ (fun q => absurd q (by decide)) (fun _ => ?_)
      refine g_aload_n X dX8_count_201 rfl ?_
      refine gf_X8_7 X fk12 dX8_count_202 ?_
      refine g_bipush X dX8_count_205 (by decide) ?_
      refine g_iload_n X dX8_count_207 rfl ?_
      refine g_iadd X dX8_count_208 ?_
      refine g_bipush X dX8_count_209 (by decide) ?_
      refine g_isub X dX8_count_211 ?_
      refine g_iald X fk13 fl13 (by omega) (by omega) (by decide) (hM1.at (n := (13 + w - 10).toNat) (by omega) (by omega)) dX8_count_212 ?_
      refine g_i2l X dX8_count_213 ⟨by omega, by omega⟩ ?_
      refine g_goto X (tgt := 220) dX8_count_214 (by decide) ?_
      exact R _ _ _ _ dX8_count_220 ⟨congrArg (fun z => some (jv z)) (by first | (exfalso; omega) | (unfold countX; (repeat (first | rw [if_pos (by omega)] | rw [if_neg (by omega)])); (first | done | rfl | exact congrArg s.1 (by omega) | (rw [show (w - 20).toNat = 0 by omega]; exact hM1.2.1) | (rw [show (w - 20).toNat = 1 by omega]; exact hM1.2.2)))), rfl⟩
    · skip
      skip
      refine g_if_eq X (tgt := 217) dX8_count_198 (by decide) ⟨by decide, by decide⟩ (fun _ => ?_) (fun q => absurd q (by decide))
      refine g_ldc2 X (n := -1) dX8_count_217 wK_X8_87 (by decide) ?_
      exact R _ _ _ _ dX8_count_220 ⟨congrArg (fun z => some (jv z)) (by first | (exfalso; omega) | (unfold countX; (repeat (first | rw [if_pos (by omega)] | rw [if_neg (by omega)])); (first | done | rfl | exact congrArg s.1 (by omega) | (rw [show (w - 20).toNat = 0 by omega]; exact hM1.2.1) | (rw [show (w - 20).toNat = 1 by omega]; exact hM1.2.2)))), rfl⟩
  · skip
    refine g_tblIn X (tgt := 166) (off := 165) dX8_count_1 ⟨by omega, by omega⟩ (by omega) (by omega) (by rw [c1]; decide) (by decide) ?_
    refine g_aload_n X dX8_count_166 rfl ?_
    refine gf_X8_16 X fk12 dX8_count_167 ?_
    refine g_iload_n X dX8_count_170 rfl ?_
    refine g_bipush X dX8_count_171 (by decide) ?_
    refine g_isub X dX8_count_173 ?_
    refine g_lald X fk15 fl15 (by omega) (by omega) (by decide) rfl dX8_count_174 ?_
    exact R _ _ _ _ dX8_count_175 ⟨congrArg (fun z => some (jv z)) (by first | (exfalso; omega) | (unfold countX; (repeat (first | rw [if_pos (by omega)] | rw [if_neg (by omega)])); (first | done | rfl | exact congrArg s.1 (by omega) | (rw [show (w - 20).toNat = 0 by omega]; exact hM1.2.1) | (rw [show (w - 20).toNat = 1 by omega]; exact hM1.2.2)))), rfl⟩
  · skip
    refine g_tblIn X (tgt := 166) (off := 165) dX8_count_1 ⟨by omega, by omega⟩ (by omega) (by omega) (by rw [c1]; decide) (by decide) ?_
    refine g_aload_n X dX8_count_166 rfl ?_
    refine gf_X8_16 X fk12 dX8_count_167 ?_
    refine g_iload_n X dX8_count_170 rfl ?_
    refine g_bipush X dX8_count_171 (by decide) ?_
    refine g_isub X dX8_count_173 ?_
    refine g_lald X fk15 fl15 (by omega) (by omega) (by decide) rfl dX8_count_174 ?_
    exact R _ _ _ _ dX8_count_175 ⟨congrArg (fun z => some (jv z)) (by first | (exfalso; omega) | (unfold countX; (repeat (first | rw [if_pos (by omega)] | rw [if_neg (by omega)])); (first | done | rfl | exact congrArg s.1 (by omega) | (rw [show (w - 20).toNat = 0 by omega]; exact hM1.2.1) | (rw [show (w - 20).toNat = 1 by omega]; exact hM1.2.2)))), rfl⟩
  · skip
    refine g_tblIn X (tgt := 176) (off := 175) dX8_count_1 ⟨by omega, by omega⟩ (by omega) (by omega) (by rw [c1]; decide) (by decide) ?_
    refine g_aload_n X dX8_count_176 rfl ?_
    refine gf_X8_7 X fk12 dX8_count_177 ?_
    refine g_bipush X dX8_count_180 (by decide) ?_
    refine g_iload_n X dX8_count_182 rfl ?_
    refine g_iadd X dX8_count_183 ?_
    refine g_bipush X dX8_count_184 (by decide) ?_
    refine g_isub X dX8_count_186 ?_
    refine g_iald X fk13 fl13 (by omega) (by omega) (by decide) (hM1.at (n := (21 + w - 22).toNat) (by omega) (by omega)) dX8_count_187 ?_
    refine g_i2l X dX8_count_188 ⟨by omega, by omega⟩ ?_
    exact R _ _ _ _ dX8_count_189 ⟨congrArg (fun z => some (jv z)) (by first | (exfalso; omega) | (unfold countX; (repeat (first | rw [if_pos (by omega)] | rw [if_neg (by omega)])); (first | done | rfl | exact congrArg s.1 (by omega) | (rw [show (w - 20).toNat = 0 by omega]; exact hM1.2.1) | (rw [show (w - 20).toNat = 1 by omega]; exact hM1.2.2)))), rfl⟩
  · skip
    refine g_tblIn X (tgt := 176) (off := 175) dX8_count_1 ⟨by omega, by omega⟩ (by omega) (by omega) (by rw [c1]; decide) (by decide) ?_
    refine g_aload_n X dX8_count_176 rfl ?_
    refine gf_X8_7 X fk12 dX8_count_177 ?_
    refine g_bipush X dX8_count_180 (by decide) ?_
    refine g_iload_n X dX8_count_182 rfl ?_
    refine g_iadd X dX8_count_183 ?_
    refine g_bipush X dX8_count_184 (by decide) ?_
    refine g_isub X dX8_count_186 ?_
    refine g_iald X fk13 fl13 (by omega) (by omega) (by decide) (hM1.at (n := (21 + w - 22).toNat) (by omega) (by omega)) dX8_count_187 ?_
    refine g_i2l X dX8_count_188 ⟨by omega, by omega⟩ ?_
    exact R _ _ _ _ dX8_count_189 ⟨congrArg (fun z => some (jv z)) (by first | (exfalso; omega) | (unfold countX; (repeat (first | rw [if_pos (by omega)] | rw [if_neg (by omega)])); (first | done | rfl | exact congrArg s.1 (by omega) | (rw [show (w - 20).toNat = 0 by omega]; exact hM1.2.1) | (rw [show (w - 20).toNat = 1 by omega]; exact hM1.2.2)))), rfl⟩
  · skip
    refine g_tblIn X (tgt := 176) (off := 175) dX8_count_1 ⟨by omega, by omega⟩ (by omega) (by omega) (by rw [c1]; decide) (by decide) ?_
    refine g_aload_n X dX8_count_176 rfl ?_
    refine gf_X8_7 X fk12 dX8_count_177 ?_
    refine g_bipush X dX8_count_180 (by decide) ?_
    refine g_iload_n X dX8_count_182 rfl ?_
    refine g_iadd X dX8_count_183 ?_
    refine g_bipush X dX8_count_184 (by decide) ?_
    refine g_isub X dX8_count_186 ?_
    refine g_iald X fk13 fl13 (by omega) (by omega) (by decide) (hM1.at (n := (21 + w - 22).toNat) (by omega) (by omega)) dX8_count_187 ?_
    refine g_i2l X dX8_count_188 ⟨by omega, by omega⟩ ?_
    exact R _ _ _ _ dX8_count_189 ⟨congrArg (fun z => some (jv z)) (by first | (exfalso; omega) | (unfold countX; (repeat (first | rw [if_pos (by omega)] | rw [if_neg (by omega)])); (first | done | rfl | exact congrArg s.1 (by omega) | (rw [show (w - 20).toNat = 0 by omega]; exact hM1.2.1) | (rw [show (w - 20).toNat = 1 by omega]; exact hM1.2.2)))), rfl⟩
  · skip
    refine g_tblOut X (tgt := 190) dX8_count_1 ⟨by omega, by omega⟩ c1 (by decide) ?_
    refine g_iload_n X dX8_count_190 rfl ?_
    refine g_bipush X dX8_count_191 (by decide) ?_
    refine g_bipush X dX8_count_193 (by decide) ?_
    refine cl_X8_51 X (c_X8_in l E σ w 10 15 ⟨by omega, by omega⟩ ⟨by decide, by decide⟩ ⟨by decide, by decide⟩) ⟨Nat.le_of_ble_eq_true rfl, Nat.le_of_ble_eq_true rfl⟩ rfl (Nat.le_of_ble_eq_true rfl) dX8_count_195 rfl (fun v60 τ61 p62 => ?_)
    obtain ⟨rfl, ⟨b63, rfl⟩ | ⟨b63, rfl⟩⟩ := p62
    · skip
      skip
      refine g_if_eq X (tgt := 217) dX8_count_198 (by decide) ⟨by decide, by decide⟩ (fun q => absurd q (by decide)) (fun _ => ?_)
      refine g_aload_n X dX8_count_201 rfl ?_
      refine gf_X8_7 X fk12 dX8_count_202 ?_
      refine g_bipush X dX8_count_205 (by decide) ?_
      refine g_iload_n X dX8_count_207 rfl ?_
      refine g_iadd X dX8_count_208 ?_
      refine g_bipush X dX8_count_209 (by decide) ?_
      refine g_isub X dX8_count_211 ?_
      refine g_iald X fk13 fl13 (by omega) (by omega) (by decide) (hM1.at (n := (13 + w - 10).toNat) (by omega) (by omega)) dX8_count_212 ?_
      refine g_i2l X dX8_count_213 ⟨by omega, by omega⟩ ?_
      refine g_goto X (tgt := 220) dX8_count_214 (by decide) ?_
      exact R _ _ _ _ dX8_count_220 ⟨congrArg (fun z => some (jv z)) (by first | (exfalso; omega) | (unfold countX; (repeat (first | rw [if_pos (by omega)] | rw [if_neg (by omega)])); (first | done | rfl | exact congrArg s.1 (by omega) | (rw [show (w - 20).toNat = 0 by omega]; exact hM1.2.1) | (rw [show (w - 20).toNat = 1 by omega]; exact hM1.2.2)))), rfl⟩
    · skip
      skip
      refine g_if_eq X (tgt := 217) dX8_count_198 (by decide) ⟨by decide, by decide⟩ (fun _ => ?_) (fun q => absurd q (by decide))
      refine g_ldc2 X (n := -1) dX8_count_217 wK_X8_87 (by decide) ?_
      exact R _ _ _ _ dX8_count_220 ⟨congrArg (fun z => some (jv z)) (by first | (exfalso; omega) | (unfold countX; (repeat (first | rw [if_pos (by omega)] | rw [if_neg (by omega)])); (first | done | rfl | exact congrArg s.1 (by omega) | (rw [show (w - 20).toNat = 0 by omega]; exact hM1.2.1) | (rw [show (w - 20).toNat = 1 by omega]; exact hM1.2.2)))), rfl⟩
set_option maxHeartbeats 1000000 in
set_option maxRecDepth 100000 in
theorem c_X8_pile (l : Launch) (E : wEnv) (σ : Mem) (s : St) (N : Int) (hM : MRep σ s) (hR : RInv s.1 N) (hN : N + 600 ≤ 400000) (x y t : Int) (hx : I32 x) (hy : I32 y) (ht : I32 t) : MetC l E yX8_pile cX8_pile 6 (some .int) 2 46 [rv E (12), iv (x), iv (y), iv (t)] σ (fun v σ' => v = some (iv (pileX s x y t).1) ∧ MRep σ' (pileX s x y t).2 ∧ frC σ σ') := by
  refine MetC.of (own := RX8) (by decide) rfl (by simp [Value.category]) (Nat.le_of_ble_eq_true rfl) [some (rv E (12)), some (iv (x)), some (iv (y)), some (iv (t)), none, none] rfl (by simp) (fun K X R => ?_)
  have hM1 := hM.1
  have hM2 := hM.2.1
  have hM3 := hM.2.2
  have r19 := hR.2.2.2.2.1
  have r0 := hR.1
  have rN := hR.2.2.2.2.2.1
  have ti := taken_iff (r := s.1) (x := x) (y := y) r19.1
  refine g_iload_n X dX8_pile_0 rfl ?_
  refine g_iconst X dX8_pile_1 ?_
  refine g_sipush X dX8_pile_2 (by decide) ?_
  refine cl_X8_51 X (c_X8_in l E σ x 0 20000 ⟨by omega, by omega⟩ ⟨by decide, by decide⟩ ⟨by decide, by decide⟩) ⟨Nat.le_of_ble_eq_true rfl, Nat.le_of_ble_eq_true rfl⟩ rfl (Nat.le_of_ble_eq_true rfl) dX8_pile_5 rfl (fun v1 τ2 p3 => ?_)
  obtain ⟨rfl, ⟨b4, rfl⟩ | ⟨b4, rfl⟩⟩ := p3
  · skip
    skip
    refine g_if_eq X (tgt := 34) dX8_pile_8 (by decide) ⟨by decide, by decide⟩ (fun q => absurd q (by decide)) (fun _ => ?_)
    refine g_iload_n X dX8_pile_11 rfl ?_
    refine g_iconst X dX8_pile_12 ?_
    refine g_sipush X dX8_pile_13 (by decide) ?_
    refine cl_X8_51 X (c_X8_in l E σ y 0 20000 ⟨by omega, by omega⟩ ⟨by decide, by decide⟩ ⟨by decide, by decide⟩) ⟨Nat.le_of_ble_eq_true rfl, Nat.le_of_ble_eq_true rfl⟩ rfl (Nat.le_of_ble_eq_true rfl) dX8_pile_16 rfl (fun v5 τ6 p7 => ?_)
    obtain ⟨rfl, ⟨b8, rfl⟩ | ⟨b8, rfl⟩⟩ := p7
    · skip
      skip
      refine g_if_eq X (tgt := 34) dX8_pile_19 (by decide) ⟨by decide, by decide⟩ (fun q => absurd q (by decide)) (fun _ => ?_)
      refine g_iload_n X dX8_pile_22 rfl ?_
      refine g_sipush X dX8_pile_23 (by decide) ?_
      refine g_ldc X (n := 50000) dX8_pile_26 wK_X8_89 (by decide) ?_
      refine cl_X8_51 X (c_X8_in l E σ t 1000 50000 ⟨by omega, by omega⟩ ⟨by decide, by decide⟩ ⟨by decide, by decide⟩) ⟨Nat.le_of_ble_eq_true rfl, Nat.le_of_ble_eq_true rfl⟩ rfl (Nat.le_of_ble_eq_true rfl) dX8_pile_28 rfl (fun v9 τ10 p11 => ?_)
      obtain ⟨rfl, ⟨b12, rfl⟩ | ⟨b12, rfl⟩⟩ := p11
      · skip
        skip
        refine g_if_ne X (tgt := 36) dX8_pile_31 (by decide) ⟨by decide, by decide⟩ (fun _ => ?_) (fun q => absurd q (by decide))
        refine g_aload_n X dX8_pile_36 rfl ?_
        refine g_iload_n X dX8_pile_37 rfl ?_
        refine g_iload_n X dX8_pile_38 rfl ?_
        refine cl_X8_90 X (c_X8_stands l E σ s.1 N hM1 hR x y ⟨by omega, by omega⟩ ⟨by omega, by omega⟩) fk12 ⟨Nat.le_of_ble_eq_true rfl, Nat.le_of_ble_eq_true rfl⟩ rfl (Nat.le_of_ble_eq_true rfl) dX8_pile_39 rfl (fun v13 τ14 p15 => ?_)
        obtain ⟨rfl, ⟨b16, rfl⟩ | ⟨b16, rfl⟩⟩ := p15
        · skip
          skip
          refine g_if_eq X (tgt := 48) dX8_pile_42 (by decide) ⟨by decide, by decide⟩ (fun q => absurd q (by decide)) (fun _ => ?_)
          refine g_bipush X dX8_pile_45 (by decide) ?_
          exact R _ _ _ _ dX8_pile_47 (by unfold pileX; rw [if_pos (by omega), if_pos (by rw [ti]; assumption)]; exact ⟨rfl, hM, frC.refl⟩)
        · skip
          skip
          refine g_if_eq X (tgt := 48) dX8_pile_42 (by decide) ⟨by decide, by decide⟩ (fun _ => ?_) (fun q => absurd q (by decide))
          refine g_aload_n X dX8_pile_48 rfl ?_
          refine gf_X8_7 X fk12 dX8_pile_49 ?_
          refine g_bipush X dX8_pile_52 (by decide) ?_
          refine g_iald X fk13 fl13 (by omega) (by omega) (by decide) (hM1.at (n := 19) (by omega) (by omega)) dX8_pile_54 ?_
          refine g_bipush X dX8_pile_55 (by decide) ?_
          refine g_icmp_ne X (tgt := 63) dX8_pile_57 (by decide) ⟨by omega, by omega⟩ ⟨by decide, by decide⟩ (fun c17 => ?_) (fun c17 => ?_)
          · skip
            refine g_aload_n X dX8_pile_63 rfl ?_
            refine cl_X8_55 X (c_X8_records l E σ s.2.1 s.2.2.1 s.1 hM1 hM2) fk12 ⟨Nat.le_of_ble_eq_true rfl, Nat.le_of_ble_eq_true rfl⟩ rfl (Nat.le_of_ble_eq_true rfl) dX8_pile_64 rfl (fun v18 τ19 p20 => ?_)
            obtain ⟨rfl, hH64, hF64, hG64⟩ := p20
            have hM64 := hM1.fr (hF64 13 (by decide) (by decide) (by decide)) (hF64 15 (by decide) (by decide) (by decide))
            obtain ⟨μ0, hμ0⟩ : ∃ z, z = τ19 := ⟨_, rfl⟩
            rw [← hμ0]
            rw [← hμ0] at hH64 hF64 hG64 hM64
            refine g_aload_n X dX8_pile_67 rfl ?_
            refine gf_X8_7 X fk12 dX8_pile_68 ?_
            refine g_bipush X dX8_pile_71 (by decide) ?_
            refine g_iald X fk13 fl13 (by omega) (by omega) (by decide) (hM64.at (n := 19) (by omega) (by omega)) dX8_pile_73 ?_
            refine g_istore X (lw := [some (rv E (12)), some (iv (x)), some (iv (y)), some (iv (t)), some (iv (s.1 19)), none]) dX8_pile_74 (by decide) rfl rfl ?_
            refine g_iconst X dX8_pile_76 ?_
            refine g_istore X (lw := [some (rv E (12)), some (iv (x)), some (iv (y)), some (iv (t)), some (iv (s.1 19)), some (iv (0))]) dX8_pile_77 (by decide) rfl rfl ?_
            have L21 : ∀ (fu : Nat) (χ : Mem) (k : Int), (0 ≤ k) → (k ≤ 91) → (RR χ (zeroR s.1 (s.1 19).toNat k.toNat)) → (frR μ0 χ) → 91 - k < (fu : Int) → K χ 79 [some (rv E (12)), some (iv (x)), some (iv (y)), some (iv (t)), some (iv (s.1 19)), some (iv (k))] [] := by
              intro fu
              induction fu with
              | zero =>
                intro χ k j1 j2 j4 j5 hm
                exact absurd hm (by omega)
              | succ fu ih21 =>
                intro χ k j1 j2 j4 j5 hm
                refine g_iload X dX8_pile_79 rfl ?_
                refine g_bipush X dX8_pile_81 (by decide) ?_
                refine g_icmp_ge X (tgt := 101) dX8_pile_83 (by decide) ⟨by omega, by omega⟩ ⟨by decide, by decide⟩ (fun c22 => ?_) (fun c22 => ?_)
                · skip
                  refine g_aload_n X dX8_pile_101 rfl ?_
                  refine g_iload X dX8_pile_102 rfl ?_
                  refine g_iconst X dX8_pile_104 ?_
                  refine g_iload_n X dX8_pile_105 rfl ?_
                  refine cl_X8_93 X (c_X8_put l E χ (s.1 19) 0 x (24 + 91 * (s.1 19).toNat + 0) (by omega) (by omega) (by omega)) fk12 ⟨Nat.le_of_ble_eq_true rfl, Nat.le_of_ble_eq_true rfl⟩ rfl (Nat.le_of_ble_eq_true rfl) dX8_pile_106 rfl (fun v23 τ24 p25 => ?_)
                  obtain ⟨rfl, rfl⟩ := p25
                  refine g_aload_n X dX8_pile_109 rfl ?_
                  refine g_iload X dX8_pile_110 rfl ?_
                  refine g_iconst X dX8_pile_112 ?_
                  refine g_iload_n X dX8_pile_113 rfl ?_
                  refine cl_X8_93 X (c_X8_put l E (up χ 13 ((24 + 91 * (s.1 19).toNat + 0)) (x)) (s.1 19) 1 y (24 + 91 * (s.1 19).toNat + 1) (by omega) (by omega) (by omega)) fk12 ⟨Nat.le_of_ble_eq_true rfl, Nat.le_of_ble_eq_true rfl⟩ rfl (Nat.le_of_ble_eq_true rfl) dX8_pile_114 rfl (fun v26 τ27 p28 => ?_)
                  obtain ⟨rfl, rfl⟩ := p28
                  refine g_aload_n X dX8_pile_117 rfl ?_
                  refine g_iload X dX8_pile_118 rfl ?_
                  refine g_iconst X dX8_pile_120 ?_
                  refine g_iload_n X dX8_pile_121 rfl ?_
                  refine cl_X8_93 X (c_X8_put l E (up (up χ 13 ((24 + 91 * (s.1 19).toNat + 0)) (x)) 13 ((24 + 91 * (s.1 19).toNat + 1)) (y)) (s.1 19) 2 t (24 + 91 * (s.1 19).toNat + 2) (by omega) (by omega) (by omega)) fk12 ⟨Nat.le_of_ble_eq_true rfl, Nat.le_of_ble_eq_true rfl⟩ rfl (Nat.le_of_ble_eq_true rfl) dX8_pile_122 rfl (fun v29 τ30 p31 => ?_)
                  obtain ⟨rfl, rfl⟩ := p31
                  refine g_aload_n X dX8_pile_125 rfl ?_
                  refine gf_X8_7 X fk12 dX8_pile_126 ?_
                  refine g_bipush X dX8_pile_129 (by decide) ?_
                  refine g_dup2 X dX8_pile_131 rfl rfl ?_
                  refine g_iald X fk13 fl13 (by omega) (by omega) (by decide) (up_ne2 (by omega) (up_ne2 (by omega) (up_ne2 (by omega) (show χ 13 19 = s.1 19 from ((j4.at (n := 19) (by omega) (by omega)).trans (by unfold zeroR; rw [if_neg (by omega)])))))) dX8_pile_132 ?_
                  refine g_iconst X dX8_pile_133 ?_
                  refine g_iadd X dX8_pile_134 ?_
                  refine g_iast X fk13 fl13 (by omega) (by omega) (by decide) dX8_pile_135 ?_
                  refine g_iload X dX8_pile_136 rfl ?_
                  exact R _ _ _ _ dX8_pile_138 (by have hq := ((((j4.put (n := 24 + 91 * (s.1 19).toNat + 0) (v := x) (by omega)).put (n := 24 + 91 * (s.1 19).toNat + 1) (v := y) (by omega)).put (n := 24 + 91 * (s.1 19).toNat + 2) (v := t) (by omega)).put (n := 19) (v := s.1 19 + 1) (by omega)).congr (r' := placeR s.1 x y t) (fun n _ => by rw [show k.toNat = 91 by omega]; exact place_eq rfl n); unfold pileX; rw [if_pos (by omega), if_neg (by rw [ti]; assumption), if_neg (by omega)]; exact ⟨rfl, hM.chg hH64 hF64 hG64 hq ((((j5.up (Or.inl rfl)).up (Or.inl rfl)).up (Or.inl rfl)).up (Or.inl rfl))⟩)
                · skip
                  refine g_aload_n X dX8_pile_86 rfl ?_
                  refine g_iload X dX8_pile_87 rfl ?_
                  refine g_iload X dX8_pile_89 rfl ?_
                  refine g_iconst X dX8_pile_91 ?_
                  refine cl_X8_93 X (c_X8_put l E χ (s.1 19) k 0 (24 + 91 * (s.1 19).toNat + k.toNat) (by omega) (by omega) (by omega)) fk12 ⟨Nat.le_of_ble_eq_true rfl, Nat.le_of_ble_eq_true rfl⟩ rfl (Nat.le_of_ble_eq_true rfl) dX8_pile_92 rfl (fun v32 τ33 p34 => ?_)
                  obtain ⟨rfl, rfl⟩ := p34
                  refine g_iinc X (lw := [some (rv E (12)), some (iv (x)), some (iv (y)), some (iv (t)), some (iv (s.1 19)), some (iv (k + 1))]) dX8_pile_95 rfl (by decide) rfl rfl ?_
                  refine g_goto X (tgt := 79) dX8_pile_98 (by decide) ?_
                  exact ih21 (up χ 13 ((24 + 91 * (s.1 19).toNat + k.toNat)) (0))  (k + 1) (by omega) (by omega) (by have e := (j4.put (n := 24 + 91 * (s.1 19).toNat + k.toNat) (v := 0) (by omega)).congr (r' := zeroR s.1 (s.1 19).toNat (k.toNat + 1)) (fun n _ => zeroR_step n); rw [show (k + 1).toNat = k.toNat + 1 by omega]; exact e) (by exact j5.up (Or.inl rfl)) (by omega)
            exact L21 _ μ0  0 (by omega) (by omega) (by exact hM64.congr (fun n _ => by unfold zeroR; rw [if_neg (by omega)])) (by exact frR.refl) (by exact Int.lt_toNat_succ _)
          · skip
            refine g_bipush X dX8_pile_60 (by decide) ?_
            exact R _ _ _ _ dX8_pile_62 (by unfold pileX; rw [if_pos (by omega), if_neg (by rw [ti]; assumption), if_pos (by omega)]; exact ⟨rfl, hM, frC.refl⟩)
      · skip
        skip
        refine g_if_ne X (tgt := 36) dX8_pile_31 (by decide) ⟨by decide, by decide⟩ (fun q => absurd q (by decide)) (fun _ => ?_)
        refine g_iconst X dX8_pile_34 ?_
        exact R _ _ _ _ dX8_pile_35 (by first | (exfalso; omega) | (unfold pileX; (repeat (first | rw [if_pos (by omega)] | rw [if_neg (by omega)])); exact ⟨rfl, hM, frC.refl⟩))
    · skip
      skip
      refine g_if_eq X (tgt := 34) dX8_pile_19 (by decide) ⟨by decide, by decide⟩ (fun _ => ?_) (fun q => absurd q (by decide))
      refine g_iconst X dX8_pile_34 ?_
      exact R _ _ _ _ dX8_pile_35 (by first | (exfalso; omega) | (unfold pileX; (repeat (first | rw [if_pos (by omega)] | rw [if_neg (by omega)])); exact ⟨rfl, hM, frC.refl⟩))
  · skip
    skip
    refine g_if_eq X (tgt := 34) dX8_pile_8 (by decide) ⟨by decide, by decide⟩ (fun _ => ?_) (fun q => absurd q (by decide))
    refine g_iconst X dX8_pile_34 ?_
    exact R _ _ _ _ dX8_pile_35 (by first | (exfalso; omega) | (unfold pileX; (repeat (first | rw [if_pos (by omega)] | rw [if_neg (by omega)])); exact ⟨rfl, hM, frC.refl⟩))
set_option maxHeartbeats 1000000 in
set_option maxRecDepth 100000 in
theorem c_X8_pileOf (l : Launch) (E : wEnv) (σ : Mem) (s : St) (N : Int) (hM : MRep σ s) (hR : RInv s.1 N) (hN : N + 600 ≤ 400000) (p w : Int) (hp : I32 p) (hw : I32 w) : MetC l E yX8_pileOf cX8_pileOf 3 (some .int) 3 68 [rv E (12), iv (p), iv (w)] σ (fun v σ' => v = some (iv (pileOfX s p w)) ∧ σ = σ') := by
  refine MetC.of (own := RX8) (by decide) rfl (by simp [Value.category]) (Nat.le_of_ble_eq_true rfl) [some (rv E (12)), some (iv (p)), some (iv (w))] rfl (by simp) (fun K X R => ?_)
  have hM1 := hM.1
  have hM2 := hM.2.1
  have hM3 := hM.2.2
  have r19 := hR.2.2.2.2.1
  have r0 := hR.1
  have rN := hR.2.2.2.2.2.1
  refine g_aload_n X dX8_pileOf_0 rfl ?_
  refine g_iload_n X dX8_pileOf_1 rfl ?_
  refine cl_X8_103 X (c_X8_isPile l E σ s.1 N hM1 hR p ⟨by omega, by omega⟩) fk12 ⟨Nat.le_of_ble_eq_true rfl, Nat.le_of_ble_eq_true rfl⟩ rfl (Nat.le_of_ble_eq_true rfl) dX8_pileOf_2 rfl (fun v1 τ2 p3 => ?_)
  obtain ⟨rfl, ⟨b4, rfl⟩ | ⟨b4, rfl⟩⟩ := p3
  · skip
    have pi2 := (hR.2.2.2.2.2.2 p.toNat (by omega)).f
    refine g_if_eq X (tgt := 18) dX8_pileOf_5 (by decide) ⟨by decide, by decide⟩ (fun q => absurd q (by decide)) (fun _ => ?_)
    refine g_iload_n X dX8_pileOf_8 rfl ?_
    refine g_iconst X dX8_pileOf_9 ?_
    refine g_bipush X dX8_pileOf_10 (by decide) ?_
    refine cl_X8_51 X (c_X8_in l E σ w 0 12 ⟨by omega, by omega⟩ ⟨by decide, by decide⟩ ⟨by decide, by decide⟩) ⟨Nat.le_of_ble_eq_true rfl, Nat.le_of_ble_eq_true rfl⟩ rfl (Nat.le_of_ble_eq_true rfl) dX8_pileOf_12 rfl (fun v5 τ6 p7 => ?_)
    obtain ⟨rfl, ⟨b8, rfl⟩ | ⟨b8, rfl⟩⟩ := p7
    · skip
      skip
      refine g_if_ne X (tgt := 20) dX8_pileOf_15 (by decide) ⟨by decide, by decide⟩ (fun _ => ?_) (fun q => absurd q (by decide))
      refine g_iload_n X dX8_pileOf_20 rfl ?_
      rcases (show w = 5 ∨ w = 6 ∨ w = 7 ∨ w = 8 ∨ w = 9 ∨ w = 10 ∨ w = 11 ∨ w = 12 ∨ (w < 5 ∨ 12 < w) by omega) with c9 | c9 | c9 | c9 | c9 | c9 | c9 | c9 | c9
      · skip
        refine g_tblIn X (tgt := 68) (off := 47) dX8_pileOf_21 ⟨by omega, by omega⟩ (by omega) (by omega) (by rw [c9]; decide) (by decide) ?_
        refine g_aload_n X dX8_pileOf_68 rfl ?_
        refine g_iload_n X dX8_pileOf_69 rfl ?_
        refine g_iconst X dX8_pileOf_70 ?_
        refine cl_X8_62 X (c0_X8_of l E σ p 4 (24 + 91 * p.toNat + 4) (by omega) (by omega) (by omega)) fk12 ⟨Nat.le_of_ble_eq_true rfl, Nat.le_of_ble_eq_true rfl⟩ rfl (Nat.le_of_ble_eq_true rfl) dX8_pileOf_71 rfl (fun v10 τ11 p12 => ?_)
        obtain ⟨rfl, rfl⟩ := p12
        rw [show σ 13 (24 + 91 * p.toNat + 4) = s.1 (24 + 91 * p.toNat + 4) from (hM1.at (n := (24 + 91 * p.toNat + 4)) (by omega) (by omega))]
        refine g_if_ne X (tgt := 82) dX8_pileOf_74 (by decide) ⟨by omega, by omega⟩ (fun c13 => ?_) (fun c13 => ?_)
        · skip
          refine g_aload_n X dX8_pileOf_82 rfl ?_
          refine g_iload_n X dX8_pileOf_83 rfl ?_
          refine g_iconst X dX8_pileOf_84 ?_
          refine cl_X8_62 X (c0_X8_of l E σ p 5 (24 + 91 * p.toNat + 5) (by omega) (by omega) (by omega)) fk12 ⟨Nat.le_of_ble_eq_true rfl, Nat.le_of_ble_eq_true rfl⟩ rfl (Nat.le_of_ble_eq_true rfl) dX8_pileOf_85 rfl (fun v14 τ15 p16 => ?_)
          obtain ⟨rfl, rfl⟩ := p16
          rw [show σ 13 (24 + 91 * p.toNat + 5) = s.1 (24 + 91 * p.toNat + 5) from (hM1.at (n := (24 + 91 * p.toNat + 5)) (by omega) (by omega))]
          exact R _ _ _ _ dX8_pileOf_88 ⟨congrArg (fun z => some (iv z)) (by first | (exfalso; omega) | (unfold pileOfX; (repeat (first | rw [if_pos (by omega)] | rw [if_neg (by omega)])); (first | done | rfl | omega | exact congrArg s.1 (by omega)))), rfl⟩
        · skip
          refine g_bipush X dX8_pileOf_77 (by decide) ?_
          refine g_goto X (tgt := 88) dX8_pileOf_79 (by decide) ?_
          exact R _ _ _ _ dX8_pileOf_88 ⟨congrArg (fun z => some (iv z)) (by first | (exfalso; omega) | (unfold pileOfX; (repeat (first | rw [if_pos (by omega)] | rw [if_neg (by omega)])); (first | done | rfl | omega | exact congrArg s.1 (by omega)))), rfl⟩
      · skip
        refine g_tblIn X (tgt := 89) (off := 68) dX8_pileOf_21 ⟨by omega, by omega⟩ (by omega) (by omega) (by rw [c9]; decide) (by decide) ?_
        refine g_aload_n X dX8_pileOf_89 rfl ?_
        refine g_iload_n X dX8_pileOf_90 rfl ?_
        refine g_iconst X dX8_pileOf_91 ?_
        refine cl_X8_62 X (c0_X8_of l E σ p 4 (24 + 91 * p.toNat + 4) (by omega) (by omega) (by omega)) fk12 ⟨Nat.le_of_ble_eq_true rfl, Nat.le_of_ble_eq_true rfl⟩ rfl (Nat.le_of_ble_eq_true rfl) dX8_pileOf_92 rfl (fun v17 τ18 p19 => ?_)
        obtain ⟨rfl, rfl⟩ := p19
        rw [show σ 13 (24 + 91 * p.toNat + 4) = s.1 (24 + 91 * p.toNat + 4) from (hM1.at (n := (24 + 91 * p.toNat + 4)) (by omega) (by omega))]
        refine g_if_ne X (tgt := 103) dX8_pileOf_95 (by decide) ⟨by omega, by omega⟩ (fun c20 => ?_) (fun c20 => ?_)
        · skip
          refine g_aload_n X dX8_pileOf_103 rfl ?_
          refine g_iload_n X dX8_pileOf_104 rfl ?_
          refine cl_X8_107 X (c_X8_allowed l E σ s.1 N hM1 hR p (by omega)) fk12 ⟨Nat.le_of_ble_eq_true rfl, Nat.le_of_ble_eq_true rfl⟩ rfl (Nat.le_of_ble_eq_true rfl) dX8_pileOf_105 rfl (fun v21 τ22 p23 => ?_)
          obtain ⟨rfl, rfl⟩ := p23
          exact R _ _ _ _ dX8_pileOf_108 ⟨congrArg (fun z => some (iv z)) (by first | (exfalso; omega) | (unfold pileOfX; (repeat (first | rw [if_pos (by omega)] | rw [if_neg (by omega)])); (first | done | rfl | omega | exact congrArg s.1 (by omega)))), rfl⟩
        · skip
          refine g_bipush X dX8_pileOf_98 (by decide) ?_
          refine g_goto X (tgt := 108) dX8_pileOf_100 (by decide) ?_
          exact R _ _ _ _ dX8_pileOf_108 ⟨congrArg (fun z => some (iv z)) (by first | (exfalso; omega) | (unfold pileOfX; (repeat (first | rw [if_pos (by omega)] | rw [if_neg (by omega)])); (first | done | rfl | omega | exact congrArg s.1 (by omega)))), rfl⟩
      · skip
        refine g_tblIn X (tgt := 109) (off := 88) dX8_pileOf_21 ⟨by omega, by omega⟩ (by omega) (by omega) (by rw [c9]; decide) (by decide) ?_
        refine g_aload_n X dX8_pileOf_109 rfl ?_
        refine g_iload_n X dX8_pileOf_110 rfl ?_
        refine g_bipush X dX8_pileOf_111 (by decide) ?_
        refine cl_X8_62 X (c0_X8_of l E σ p 6 (24 + 91 * p.toNat + 6) (by omega) (by omega) (by omega)) fk12 ⟨Nat.le_of_ble_eq_true rfl, Nat.le_of_ble_eq_true rfl⟩ rfl (Nat.le_of_ble_eq_true rfl) dX8_pileOf_113 rfl (fun v24 τ25 p26 => ?_)
        obtain ⟨rfl, rfl⟩ := p26
        rw [show σ 13 (24 + 91 * p.toNat + 6) = s.1 (24 + 91 * p.toNat + 6) from (hM1.at (n := (24 + 91 * p.toNat + 6)) (by omega) (by omega))]
        exact R _ _ _ _ dX8_pileOf_116 ⟨congrArg (fun z => some (iv z)) (by first | (exfalso; omega) | (unfold pileOfX; (repeat (first | rw [if_pos (by omega)] | rw [if_neg (by omega)])); (first | done | rfl | omega | exact congrArg s.1 (by omega)))), rfl⟩
      · skip
        refine g_tblIn X (tgt := 117) (off := 96) dX8_pileOf_21 ⟨by omega, by omega⟩ (by omega) (by omega) (by rw [c9]; decide) (by decide) ?_
        refine g_aload_n X dX8_pileOf_117 rfl ?_
        refine g_iload_n X dX8_pileOf_118 rfl ?_
        refine g_bipush X dX8_pileOf_119 (by decide) ?_
        refine g_iload_n X dX8_pileOf_121 rfl ?_
        refine g_iadd X dX8_pileOf_122 ?_
        refine g_bipush X dX8_pileOf_123 (by decide) ?_
        refine g_isub X dX8_pileOf_125 ?_
        refine cl_X8_62 X (c0_X8_of l E σ p (7 + w - 8) (24 + 91 * p.toNat + (7 + w - 8).toNat) (by omega) (by omega) (by omega)) fk12 ⟨Nat.le_of_ble_eq_true rfl, Nat.le_of_ble_eq_true rfl⟩ rfl (Nat.le_of_ble_eq_true rfl) dX8_pileOf_126 rfl (fun v27 τ28 p29 => ?_)
        obtain ⟨rfl, rfl⟩ := p29
        rw [show σ 13 (24 + 91 * p.toNat + (7 + w - 8).toNat) = s.1 (24 + 91 * p.toNat + (7 + w - 8).toNat) from (hM1.at (n := (24 + 91 * p.toNat + (7 + w - 8).toNat)) (by omega) (by omega))]
        exact R _ _ _ _ dX8_pileOf_129 ⟨congrArg (fun z => some (iv z)) (by first | (exfalso; omega) | (unfold pileOfX; (repeat (first | rw [if_pos (by omega)] | rw [if_neg (by omega)])); (first | done | rfl | omega | exact congrArg s.1 (by omega)))), rfl⟩
      · skip
        refine g_tblIn X (tgt := 117) (off := 96) dX8_pileOf_21 ⟨by omega, by omega⟩ (by omega) (by omega) (by rw [c9]; decide) (by decide) ?_
        refine g_aload_n X dX8_pileOf_117 rfl ?_
        refine g_iload_n X dX8_pileOf_118 rfl ?_
        refine g_bipush X dX8_pileOf_119 (by decide) ?_
        refine g_iload_n X dX8_pileOf_121 rfl ?_
        refine g_iadd X dX8_pileOf_122 ?_
        refine g_bipush X dX8_pileOf_123 (by decide) ?_
        refine g_isub X dX8_pileOf_125 ?_
        refine cl_X8_62 X (c0_X8_of l E σ p (7 + w - 8) (24 + 91 * p.toNat + (7 + w - 8).toNat) (by omega) (by omega) (by omega)) fk12 ⟨Nat.le_of_ble_eq_true rfl, Nat.le_of_ble_eq_true rfl⟩ rfl (Nat.le_of_ble_eq_true rfl) dX8_pileOf_126 rfl (fun v30 τ31 p32 => ?_)
        obtain ⟨rfl, rfl⟩ := p32
        rw [show σ 13 (24 + 91 * p.toNat + (7 + w - 8).toNat) = s.1 (24 + 91 * p.toNat + (7 + w - 8).toNat) from (hM1.at (n := (24 + 91 * p.toNat + (7 + w - 8).toNat)) (by omega) (by omega))]
        exact R _ _ _ _ dX8_pileOf_129 ⟨congrArg (fun z => some (iv z)) (by first | (exfalso; omega) | (unfold pileOfX; (repeat (first | rw [if_pos (by omega)] | rw [if_neg (by omega)])); (first | done | rfl | omega | exact congrArg s.1 (by omega)))), rfl⟩
      · skip
        refine g_tblIn X (tgt := 117) (off := 96) dX8_pileOf_21 ⟨by omega, by omega⟩ (by omega) (by omega) (by rw [c9]; decide) (by decide) ?_
        refine g_aload_n X dX8_pileOf_117 rfl ?_
        refine g_iload_n X dX8_pileOf_118 rfl ?_
        refine g_bipush X dX8_pileOf_119 (by decide) ?_
        refine g_iload_n X dX8_pileOf_121 rfl ?_
        refine g_iadd X dX8_pileOf_122 ?_
        refine g_bipush X dX8_pileOf_123 (by decide) ?_
        refine g_isub X dX8_pileOf_125 ?_
        refine cl_X8_62 X (c0_X8_of l E σ p (7 + w - 8) (24 + 91 * p.toNat + (7 + w - 8).toNat) (by omega) (by omega) (by omega)) fk12 ⟨Nat.le_of_ble_eq_true rfl, Nat.le_of_ble_eq_true rfl⟩ rfl (Nat.le_of_ble_eq_true rfl) dX8_pileOf_126 rfl (fun v33 τ34 p35 => ?_)
        obtain ⟨rfl, rfl⟩ := p35
        rw [show σ 13 (24 + 91 * p.toNat + (7 + w - 8).toNat) = s.1 (24 + 91 * p.toNat + (7 + w - 8).toNat) from (hM1.at (n := (24 + 91 * p.toNat + (7 + w - 8).toNat)) (by omega) (by omega))]
        exact R _ _ _ _ dX8_pileOf_129 ⟨congrArg (fun z => some (iv z)) (by first | (exfalso; omega) | (unfold pileOfX; (repeat (first | rw [if_pos (by omega)] | rw [if_neg (by omega)])); (first | done | rfl | omega | exact congrArg s.1 (by omega)))), rfl⟩
      · skip
        refine g_tblIn X (tgt := 130) (off := 109) dX8_pileOf_21 ⟨by omega, by omega⟩ (by omega) (by omega) (by rw [c9]; decide) (by decide) ?_
        refine g_aload_n X dX8_pileOf_130 rfl ?_
        refine g_iload_n X dX8_pileOf_131 rfl ?_
        refine cl_X8_110 X (c_X8_near l E σ s.1 N hM1 hR p (by omega)) fk12 ⟨Nat.le_of_ble_eq_true rfl, Nat.le_of_ble_eq_true rfl⟩ rfl (Nat.le_of_ble_eq_true rfl) dX8_pileOf_132 rfl (fun v36 τ37 p38 => ?_)
        obtain ⟨rfl, rfl⟩ := p38
        exact R _ _ _ _ dX8_pileOf_135 ⟨congrArg (fun z => some (iv z)) (by first | (exfalso; omega) | (unfold pileOfX; (repeat (first | rw [if_pos (by omega)] | rw [if_neg (by omega)])); (first | done | rfl | omega | exact congrArg s.1 (by omega)))), rfl⟩
      · skip
        refine g_tblIn X (tgt := 136) (off := 115) dX8_pileOf_21 ⟨by omega, by omega⟩ (by omega) (by omega) (by rw [c9]; decide) (by decide) ?_
        refine g_aload_n X dX8_pileOf_136 rfl ?_
        refine g_iload_n X dX8_pileOf_137 rfl ?_
        refine g_bipush X dX8_pileOf_138 (by decide) ?_
        refine cl_X8_62 X (c0_X8_of l E σ p 10 (24 + 91 * p.toNat + 10) (by omega) (by omega) (by omega)) fk12 ⟨Nat.le_of_ble_eq_true rfl, Nat.le_of_ble_eq_true rfl⟩ rfl (Nat.le_of_ble_eq_true rfl) dX8_pileOf_140 rfl (fun v39 τ40 p41 => ?_)
        obtain ⟨rfl, rfl⟩ := p41
        rw [show σ 13 (24 + 91 * p.toNat + 10) = s.1 (24 + 91 * p.toNat + 10) from (hM1.at (n := (24 + 91 * p.toNat + 10)) (by omega) (by omega))]
        exact R _ _ _ _ dX8_pileOf_143 ⟨congrArg (fun z => some (iv z)) (by first | (exfalso; omega) | (unfold pileOfX; (repeat (first | rw [if_pos (by omega)] | rw [if_neg (by omega)])); (first | done | rfl | omega | exact congrArg s.1 (by omega)))), rfl⟩
      · skip
        refine g_tblOut X (tgt := 144) dX8_pileOf_21 ⟨by omega, by omega⟩ c9 (by decide) ?_
        refine g_aload_n X dX8_pileOf_144 rfl ?_
        refine g_iload_n X dX8_pileOf_145 rfl ?_
        refine g_iload_n X dX8_pileOf_146 rfl ?_
        refine cl_X8_62 X (c0_X8_of l E σ p w (24 + 91 * p.toNat + w.toNat) (by omega) (by omega) (by omega)) fk12 ⟨Nat.le_of_ble_eq_true rfl, Nat.le_of_ble_eq_true rfl⟩ rfl (Nat.le_of_ble_eq_true rfl) dX8_pileOf_147 rfl (fun v42 τ43 p44 => ?_)
        obtain ⟨rfl, rfl⟩ := p44
        rw [show σ 13 (24 + 91 * p.toNat + w.toNat) = s.1 (24 + 91 * p.toNat + w.toNat) from (hM1.at (n := (24 + 91 * p.toNat + w.toNat)) (by omega) (by omega))]
        exact R _ _ _ _ dX8_pileOf_150 ⟨congrArg (fun z => some (iv z)) (by first | (exfalso; omega) | (unfold pileOfX; (repeat (first | rw [if_pos (by omega)] | rw [if_neg (by omega)])); (first | done | rfl | omega | exact congrArg s.1 (by omega)))), rfl⟩
    · skip
      skip
      refine g_if_ne X (tgt := 20) dX8_pileOf_15 (by decide) ⟨by decide, by decide⟩ (fun q => absurd q (by decide)) (fun _ => ?_)
      refine g_iconst X dX8_pileOf_18 ?_
      exact R _ _ _ _ dX8_pileOf_19 ⟨congrArg (fun z => some (iv z)) (by first | (exfalso; omega) | (unfold pileOfX; (repeat (first | rw [if_pos (by omega)] | rw [if_neg (by omega)])); (first | done | rfl | omega | exact congrArg s.1 (by omega)))), rfl⟩
  · skip
    skip
    refine g_if_eq X (tgt := 18) dX8_pileOf_5 (by decide) ⟨by decide, by decide⟩ (fun _ => ?_) (fun q => absurd q (by decide))
    refine g_iconst X dX8_pileOf_18 ?_
    exact R _ _ _ _ dX8_pileOf_19 ⟨congrArg (fun z => some (iv z)) (by first | (exfalso; omega) | (unfold pileOfX; (repeat (first | rw [if_pos (by omega)] | rw [if_neg (by omega)])); (first | done | rfl | omega | exact congrArg s.1 (by omega)))), rfl⟩
set_option maxHeartbeats 1000000 in
set_option maxRecDepth 100000 in
theorem c_X8_blow (l : Launch) (E : wEnv) (σ : Mem) (s : St) (N : Int) (hM : MRep σ s) (hR : RInv s.1 N) (hN : N + 600 ≤ 400000) (p i w : Int) (hp : I32 p) (hi : I32 i) (hw : I32 w) : MetC l E yX8_blow cX8_blow 5 (some .int) 2 43 [rv E (12), iv (p), iv (i), iv (w)] σ (fun v σ' => v = some (iv (blowX s p i w)) ∧ σ = σ') := by
  refine MetC.of (own := RX8) (by decide) rfl (by simp [Value.category]) (Nat.le_of_ble_eq_true rfl) [some (rv E (12)), some (iv (p)), some (iv (i)), some (iv (w)), none] rfl (by simp) (fun K X R => ?_)
  have hM1 := hM.1
  have hM2 := hM.2.1
  have hM3 := hM.2.2
  have r19 := hR.2.2.2.2.1
  have r0 := hR.1
  have rN := hR.2.2.2.2.2.1
  refine g_aload_n X dX8_blow_0 rfl ?_
  refine g_iload_n X dX8_blow_1 rfl ?_
  refine cl_X8_103 X (c_X8_isPile l E σ s.1 N hM1 hR p ⟨by omega, by omega⟩) fk12 ⟨Nat.le_of_ble_eq_true rfl, Nat.le_of_ble_eq_true rfl⟩ rfl (Nat.le_of_ble_eq_true rfl) dX8_blow_2 rfl (fun v1 τ2 p3 => ?_)
  obtain ⟨rfl, ⟨b4, rfl⟩ | ⟨b4, rfl⟩⟩ := p3
  · skip
    have pi2 := (hR.2.2.2.2.2.2 p.toNat (by omega)).f
    refine g_if_eq X (tgt := 21) dX8_blow_5 (by decide) ⟨by decide, by decide⟩ (fun q => absurd q (by decide)) (fun _ => ?_)
    refine g_iload_n X dX8_blow_8 rfl ?_
    refine g_if_lt X (tgt := 21) dX8_blow_9 (by decide) ⟨by omega, by omega⟩ (fun c5 => ?_) (fun c5 => ?_)
    · skip
      refine g_iconst X dX8_blow_21 ?_
      exact R _ _ _ _ dX8_blow_22 ⟨congrArg (fun z => some (iv z)) (by first | (exfalso; omega) | (unfold blowX; (repeat (first | rw [if_pos (by omega)] | rw [if_neg (by omega)])); (first | done | rfl | exact congrArg s.1 (by omega)))), rfl⟩
    · skip
      refine g_iload_n X dX8_blow_12 rfl ?_
      refine g_iconst X dX8_blow_13 ?_
      refine g_iconst X dX8_blow_14 ?_
      refine cl_X8_51 X (c_X8_in l E σ w 0 1 ⟨by omega, by omega⟩ ⟨by decide, by decide⟩ ⟨by decide, by decide⟩) ⟨Nat.le_of_ble_eq_true rfl, Nat.le_of_ble_eq_true rfl⟩ rfl (Nat.le_of_ble_eq_true rfl) dX8_blow_15 rfl (fun v6 τ7 p8 => ?_)
      obtain ⟨rfl, ⟨b9, rfl⟩ | ⟨b9, rfl⟩⟩ := p8
      · skip
        skip
        refine g_if_ne X (tgt := 23) dX8_blow_18 (by decide) ⟨by decide, by decide⟩ (fun _ => ?_) (fun q => absurd q (by decide))
        refine g_aload_n X dX8_blow_23 rfl ?_
        refine g_iload_n X dX8_blow_24 rfl ?_
        refine g_bipush X dX8_blow_25 (by decide) ?_
        refine cl_X8_62 X (c0_X8_of l E σ p 10 (24 + 91 * p.toNat + 10) (by omega) (by omega) (by omega)) fk12 ⟨Nat.le_of_ble_eq_true rfl, Nat.le_of_ble_eq_true rfl⟩ rfl (Nat.le_of_ble_eq_true rfl) dX8_blow_27 rfl (fun v10 τ11 p12 => ?_)
        obtain ⟨rfl, rfl⟩ := p12
        rw [show σ 13 (24 + 91 * p.toNat + 10) = s.1 (24 + 91 * p.toNat + 10) from (hM1.at (n := (24 + 91 * p.toNat + 10)) (by omega) (by omega))]
        refine g_istore X (lw := [some (rv E (12)), some (iv (p)), some (iv (i)), some (iv (w)), some (iv (s.1 (24 + 91 * p.toNat + 10)))]) dX8_blow_30 (by decide) rfl rfl ?_
        refine g_iload_n X dX8_blow_32 rfl ?_
        refine g_iload X dX8_blow_33 rfl ?_
        refine g_icmp_lt X (tgt := 41) dX8_blow_35 (by decide) ⟨by omega, by omega⟩ ⟨by omega, by omega⟩ (fun c13 => ?_) (fun c13 => ?_)
        · skip
          refine g_aload_n X dX8_blow_41 rfl ?_
          refine g_iload_n X dX8_blow_42 rfl ?_
          refine g_iload_n X dX8_blow_43 rfl ?_
          refine g_if_ne X (tgt := 52) dX8_blow_44 (by decide) ⟨by omega, by omega⟩ (fun c14 => ?_) (fun c14 => ?_)
          · skip
            refine g_bipush X dX8_blow_52 (by decide) ?_
            refine g_iload X dX8_blow_54 rfl ?_
            refine g_iadd X dX8_blow_56 ?_
            refine g_iconst X dX8_blow_57 ?_
            refine g_isub X dX8_blow_58 ?_
            refine g_iload_n X dX8_blow_59 rfl ?_
            refine g_isub X dX8_blow_60 ?_
            refine cl_X8_62 X (c0_X8_of l E σ p (51 + (s.1 (24 + 91 * p.toNat + 10)) - 1 - i) (24 + 91 * p.toNat + (51 + (s.1 (24 + 91 * p.toNat + 10)) - 1 - i).toNat) (by omega) (by omega) (by omega)) fk12 ⟨Nat.le_of_ble_eq_true rfl, Nat.le_of_ble_eq_true rfl⟩ rfl (Nat.le_of_ble_eq_true rfl) dX8_blow_61 rfl (fun v15 τ16 p17 => ?_)
            obtain ⟨rfl, rfl⟩ := p17
            rw [show σ 13 (24 + 91 * p.toNat + (51 + (s.1 (24 + 91 * p.toNat + 10)) - 1 - i).toNat) = s.1 (24 + 91 * p.toNat + (51 + (s.1 (24 + 91 * p.toNat + 10)) - 1 - i).toNat) from (hM1.at (n := (24 + 91 * p.toNat + (51 + (s.1 (24 + 91 * p.toNat + 10)) - 1 - i).toNat)) (by omega) (by omega))]
            exact R _ _ _ _ dX8_blow_64 ⟨congrArg (fun z => some (iv z)) (by first | (exfalso; omega) | (unfold blowX; (repeat (first | rw [if_pos (by omega)] | rw [if_neg (by omega)])); (first | done | rfl | exact congrArg s.1 (by omega)))), rfl⟩
          · skip
            refine g_bipush X dX8_blow_47 (by decide) ?_
            refine g_goto X (tgt := 54) dX8_blow_49 (by decide) ?_
            refine g_iload X dX8_blow_54 rfl ?_
            refine g_iadd X dX8_blow_56 ?_
            refine g_iconst X dX8_blow_57 ?_
            refine g_isub X dX8_blow_58 ?_
            refine g_iload_n X dX8_blow_59 rfl ?_
            refine g_isub X dX8_blow_60 ?_
            refine cl_X8_62 X (c0_X8_of l E σ p (11 + (s.1 (24 + 91 * p.toNat + 10)) - 1 - i) (24 + 91 * p.toNat + (11 + (s.1 (24 + 91 * p.toNat + 10)) - 1 - i).toNat) (by omega) (by omega) (by omega)) fk12 ⟨Nat.le_of_ble_eq_true rfl, Nat.le_of_ble_eq_true rfl⟩ rfl (Nat.le_of_ble_eq_true rfl) dX8_blow_61 rfl (fun v18 τ19 p20 => ?_)
            obtain ⟨rfl, rfl⟩ := p20
            rw [show σ 13 (24 + 91 * p.toNat + (11 + (s.1 (24 + 91 * p.toNat + 10)) - 1 - i).toNat) = s.1 (24 + 91 * p.toNat + (11 + (s.1 (24 + 91 * p.toNat + 10)) - 1 - i).toNat) from (hM1.at (n := (24 + 91 * p.toNat + (11 + (s.1 (24 + 91 * p.toNat + 10)) - 1 - i).toNat)) (by omega) (by omega))]
            exact R _ _ _ _ dX8_blow_64 ⟨congrArg (fun z => some (iv z)) (by first | (exfalso; omega) | (unfold blowX; (repeat (first | rw [if_pos (by omega)] | rw [if_neg (by omega)])); (first | done | rfl | exact congrArg s.1 (by omega)))), rfl⟩
        · skip
          refine g_bipush X dX8_blow_38 (by decide) ?_
          exact R _ _ _ _ dX8_blow_40 ⟨congrArg (fun z => some (iv z)) (by first | (exfalso; omega) | (unfold blowX; (repeat (first | rw [if_pos (by omega)] | rw [if_neg (by omega)])); (first | done | rfl | exact congrArg s.1 (by omega)))), rfl⟩
      · skip
        skip
        refine g_if_ne X (tgt := 23) dX8_blow_18 (by decide) ⟨by decide, by decide⟩ (fun q => absurd q (by decide)) (fun _ => ?_)
        refine g_iconst X dX8_blow_21 ?_
        exact R _ _ _ _ dX8_blow_22 ⟨congrArg (fun z => some (iv z)) (by first | (exfalso; omega) | (unfold blowX; (repeat (first | rw [if_pos (by omega)] | rw [if_neg (by omega)])); (first | done | rfl | exact congrArg s.1 (by omega)))), rfl⟩
  · skip
    skip
    refine g_if_eq X (tgt := 21) dX8_blow_5 (by decide) ⟨by decide, by decide⟩ (fun _ => ?_) (fun q => absurd q (by decide))
    refine g_iconst X dX8_blow_21 ?_
    exact R _ _ _ _ dX8_blow_22 ⟨congrArg (fun z => some (iv z)) (by first | (exfalso; omega) | (unfold blowX; (repeat (first | rw [if_pos (by omega)] | rw [if_neg (by omega)])); (first | done | rfl | exact congrArg s.1 (by omega)))), rfl⟩
set_option maxHeartbeats 1000000 in
set_option maxRecDepth 100000 in
theorem c_X8_strike (l : Launch) (E : wEnv) (σ : Mem) (s : St) (N : Int) (hM : MRep σ s) (hR : RInv s.1 N) (hN : N + 600 ≤ 400000) (p h : Int) (hp : I32 p) (hh : I32 h) : MetC l E yX8_strike cX8_strike 3 (some .int) 4 96 [rv E (12), iv (p), iv (h)] σ (fun v σ' => v = some (iv (strikeX s p h).1) ∧ MRep σ' (strikeX s p h).2 ∧ frC σ σ') := by
  refine MetC.of (own := RX8) (by decide) rfl (by simp [Value.category]) (Nat.le_of_ble_eq_true rfl) [some (rv E (12)), some (iv (p)), some (iv (h))] rfl (by simp) (fun K X R => ?_)
  have hM1 := hM.1
  have hM2 := hM.2.1
  have hM3 := hM.2.2
  have r19 := hR.2.2.2.2.1
  have r0 := hR.1
  have rN := hR.2.2.2.2.2.1
  refine g_aload_n X dX8_strike_0 rfl ?_
  refine g_iload_n X dX8_strike_1 rfl ?_
  refine cl_X8_103 X (c_X8_isPile l E σ s.1 N hM1 hR p ⟨by omega, by omega⟩) fk12 ⟨Nat.le_of_ble_eq_true rfl, Nat.le_of_ble_eq_true rfl⟩ rfl (Nat.le_of_ble_eq_true rfl) dX8_strike_2 rfl (fun v1 τ2 p3 => ?_)
  obtain ⟨rfl, ⟨b4, rfl⟩ | ⟨b4, rfl⟩⟩ := p3
  · skip
    have pi2 := (hR.2.2.2.2.2.2 p.toNat (by omega)).f
    refine g_if_eq X (tgt := 15) dX8_strike_5 (by decide) ⟨by decide, by decide⟩ (fun q => absurd q (by decide)) (fun _ => ?_)
    refine g_iload_n X dX8_strike_8 rfl ?_
    refine cl_X8_139 X (c_X8_isFall l E σ h ⟨by omega, by omega⟩) ⟨Nat.le_of_ble_eq_true rfl, Nat.le_of_ble_eq_true rfl⟩ rfl (Nat.le_of_ble_eq_true rfl) dX8_strike_9 rfl (fun v5 τ6 p7 => ?_)
    obtain ⟨rfl, ⟨b8, rfl⟩ | ⟨b8, rfl⟩⟩ := p7
    · skip
      skip
      refine g_if_ne X (tgt := 17) dX8_strike_12 (by decide) ⟨by decide, by decide⟩ (fun _ => ?_) (fun q => absurd q (by decide))
      refine g_aload_n X dX8_strike_17 rfl ?_
      refine g_iload_n X dX8_strike_18 rfl ?_
      refine cl_X8_142 X (c_X8_isDown l E σ s.1 N hM1 hR p (by omega)) fk12 ⟨Nat.le_of_ble_eq_true rfl, Nat.le_of_ble_eq_true rfl⟩ rfl (Nat.le_of_ble_eq_true rfl) dX8_strike_19 rfl (fun v9 τ10 p11 => ?_)
      obtain ⟨rfl, ⟨b12, rfl⟩ | ⟨b12, rfl⟩⟩ := p11
      · skip
        skip
        refine g_if_eq X (tgt := 28) dX8_strike_22 (by decide) ⟨by decide, by decide⟩ (fun q => absurd q (by decide)) (fun _ => ?_)
        refine g_bipush X dX8_strike_25 (by decide) ?_
        exact R _ _ _ _ dX8_strike_27 (by first | (exfalso; omega) | (unfold strikeX; (repeat (first | rw [if_pos (by omega)] | rw [if_neg (by omega)])); exact ⟨rfl, hM, frC.refl⟩))
      · skip
        skip
        refine g_if_eq X (tgt := 28) dX8_strike_22 (by decide) ⟨by decide, by decide⟩ (fun _ => ?_) (fun q => absurd q (by decide))
        refine g_aload_n X dX8_strike_28 rfl ?_
        refine cl_X8_55 X (c_X8_records l E σ s.2.1 s.2.2.1 s.1 hM1 hM2) fk12 ⟨Nat.le_of_ble_eq_true rfl, Nat.le_of_ble_eq_true rfl⟩ rfl (Nat.le_of_ble_eq_true rfl) dX8_strike_29 rfl (fun v13 τ14 p15 => ?_)
        obtain ⟨rfl, hH29, hF29, hG29⟩ := p15
        have hM29 := hM1.fr (hF29 13 (by decide) (by decide) (by decide)) (hF29 15 (by decide) (by decide) (by decide))
        refine g_aload_n X dX8_strike_32 rfl ?_
        refine g_iload_n X dX8_strike_33 rfl ?_
        refine g_iload_n X dX8_strike_34 rfl ?_
        refine cl_X8_145 X (c_X8_strikes l E τ14 s.1 N hM29 hR (by omega) p h (by omega) (by omega) (by omega)) fk12 ⟨Nat.le_of_ble_eq_true rfl, Nat.le_of_ble_eq_true rfl⟩ rfl (Nat.le_of_ble_eq_true rfl) dX8_strike_35 rfl (fun v16 τ17 p18 => ?_)
        obtain ⟨rfl, hM35, hF35⟩ := p18
        have hi35 := hit_inv hR (by omega) (i := p.toNat) (h := h) (by omega) (by omega) (by omega)
        have hj35 := hi35.2
        have hk35 := (hi35.1.2.2.2.2.2.2 p.toNat (by omega)).f
        have hb35 := (hit1_inv hR (by omega) (i := p.toNat) (h := h) (by omega) (by omega) (by omega)).2.2.2
        exact R _ _ _ _ dX8_strike_38 (by unfold strikeX; (repeat (first | rw [if_pos (by omega)] | rw [if_neg (by omega)])); exact ⟨rfl, hM.chg hH29 hF29 hG29 hM35 hF35⟩)
    · skip
      skip
      refine g_if_ne X (tgt := 17) dX8_strike_12 (by decide) ⟨by decide, by decide⟩ (fun q => absurd q (by decide)) (fun _ => ?_)
      refine g_iconst X dX8_strike_15 ?_
      exact R _ _ _ _ dX8_strike_16 (by first | (exfalso; omega) | (unfold strikeX; (repeat (first | rw [if_pos (by omega)] | rw [if_neg (by omega)])); exact ⟨rfl, hM, frC.refl⟩))
  · skip
    skip
    refine g_if_eq X (tgt := 15) dX8_strike_5 (by decide) ⟨by decide, by decide⟩ (fun _ => ?_) (fun q => absurd q (by decide))
    refine g_iconst X dX8_strike_15 ?_
    exact R _ _ _ _ dX8_strike_16 (by first | (exfalso; omega) | (unfold strikeX; (repeat (first | rw [if_pos (by omega)] | rw [if_neg (by omega)])); exact ⟨rfl, hM, frC.refl⟩))
set_option maxHeartbeats 1000000 in
set_option maxRecDepth 100000 in
theorem c_X8_would (l : Launch) (E : wEnv) (σ : Mem) (s : St) (N : Int) (hM : MRep σ s) (hR : RInv s.1 N) (hN : N + 600 ≤ 400000) (p h : Int) (hp : I32 p) (hh : I32 h) : MetC l E yX8_would cX8_would 3 (some .int) 3 69 [rv E (12), iv (p), iv (h)] σ (fun v σ' => v = some (iv (wouldX s p h)) ∧ σ = σ') := by
  refine MetC.of (own := RX8) (by decide) rfl (by simp [Value.category]) (Nat.le_of_ble_eq_true rfl) [some (rv E (12)), some (iv (p)), some (iv (h))] rfl (by simp) (fun K X R => ?_)
  have hM1 := hM.1
  have hM2 := hM.2.1
  have hM3 := hM.2.2
  have r19 := hR.2.2.2.2.1
  have r0 := hR.1
  have rN := hR.2.2.2.2.2.1
  refine g_aload_n X dX8_would_0 rfl ?_
  refine g_iload_n X dX8_would_1 rfl ?_
  refine cl_X8_103 X (c_X8_isPile l E σ s.1 N hM1 hR p ⟨by omega, by omega⟩) fk12 ⟨Nat.le_of_ble_eq_true rfl, Nat.le_of_ble_eq_true rfl⟩ rfl (Nat.le_of_ble_eq_true rfl) dX8_would_2 rfl (fun v1 τ2 p3 => ?_)
  obtain ⟨rfl, ⟨b4, rfl⟩ | ⟨b4, rfl⟩⟩ := p3
  · skip
    have pi2 := (hR.2.2.2.2.2.2 p.toNat (by omega)).f
    refine g_if_eq X (tgt := 15) dX8_would_5 (by decide) ⟨by decide, by decide⟩ (fun q => absurd q (by decide)) (fun _ => ?_)
    refine g_iload_n X dX8_would_8 rfl ?_
    refine cl_X8_139 X (c_X8_isFall l E σ h ⟨by omega, by omega⟩) ⟨Nat.le_of_ble_eq_true rfl, Nat.le_of_ble_eq_true rfl⟩ rfl (Nat.le_of_ble_eq_true rfl) dX8_would_9 rfl (fun v5 τ6 p7 => ?_)
    obtain ⟨rfl, ⟨b8, rfl⟩ | ⟨b8, rfl⟩⟩ := p7
    · skip
      skip
      refine g_if_ne X (tgt := 17) dX8_would_12 (by decide) ⟨by decide, by decide⟩ (fun _ => ?_) (fun q => absurd q (by decide))
      refine g_aload_n X dX8_would_17 rfl ?_
      refine g_iload_n X dX8_would_18 rfl ?_
      refine cl_X8_142 X (c_X8_isDown l E σ s.1 N hM1 hR p (by omega)) fk12 ⟨Nat.le_of_ble_eq_true rfl, Nat.le_of_ble_eq_true rfl⟩ rfl (Nat.le_of_ble_eq_true rfl) dX8_would_19 rfl (fun v9 τ10 p11 => ?_)
      obtain ⟨rfl, ⟨b12, rfl⟩ | ⟨b12, rfl⟩⟩ := p11
      · skip
        skip
        refine g_if_eq X (tgt := 30) dX8_would_22 (by decide) ⟨by decide, by decide⟩ (fun q => absurd q (by decide)) (fun _ => ?_)
        refine g_bipush X dX8_would_25 (by decide) ?_
        refine g_goto X (tgt := 42) dX8_would_27 (by decide) ?_
        exact R _ _ _ _ dX8_would_42 ⟨congrArg (fun z => some (iv z)) (by first | (exfalso; omega) | (unfold wouldX; (repeat (first | rw [if_pos (by omega)] | rw [if_neg (by omega)])); (first | done | rfl | omega))), rfl⟩
      · skip
        skip
        refine g_if_eq X (tgt := 30) dX8_would_22 (by decide) ⟨by decide, by decide⟩ (fun _ => ?_) (fun q => absurd q (by decide))
        refine g_aload_n X dX8_would_30 rfl ?_
        refine g_iload_n X dX8_would_31 rfl ?_
        refine g_aload_n X dX8_would_32 rfl ?_
        refine g_iload_n X dX8_would_33 rfl ?_
        refine g_iconst X dX8_would_34 ?_
        refine cl_X8_62 X (c0_X8_of l E σ p 3 (24 + 91 * p.toNat + 3) (by omega) (by omega) (by omega)) fk12 ⟨Nat.le_of_ble_eq_true rfl, Nat.le_of_ble_eq_true rfl⟩ rfl (Nat.le_of_ble_eq_true rfl) dX8_would_35 rfl (fun v13 τ14 p15 => ?_)
        obtain ⟨rfl, rfl⟩ := p15
        rw [show σ 13 (24 + 91 * p.toNat + 3) = s.1 (24 + 91 * p.toNat + 3) from (hM1.at (n := (24 + 91 * p.toNat + 3)) (by omega) (by omega))]
        refine g_iload_n X dX8_would_38 rfl ?_
        refine cl_X8_128 X (c_X8_setAt l E σ s.1 N hM1 hR p (s.1 (24 + 91 * p.toNat + 3)) h (by omega) (by omega) (by omega) (by omega) (by omega)) fk12 ⟨Nat.le_of_ble_eq_true rfl, Nat.le_of_ble_eq_true rfl⟩ rfl (Nat.le_of_ble_eq_true rfl) dX8_would_39 rfl (fun v16 τ17 p18 => ?_)
        obtain ⟨rfl, rfl⟩ := p18
        have sb39 := setR_bd s.1 (energyR s.1 h) (s.1 (24 + 91 * p.toNat + 3)) (s.1 (24 + 91 * p.toNat + 2)) (by omega)
        exact R _ _ _ _ dX8_would_42 ⟨congrArg (fun z => some (iv z)) (by first | (exfalso; omega) | (unfold wouldX; (repeat (first | rw [if_pos (by omega)] | rw [if_neg (by omega)])); (first | done | rfl | omega))), rfl⟩
    · skip
      skip
      refine g_if_ne X (tgt := 17) dX8_would_12 (by decide) ⟨by decide, by decide⟩ (fun q => absurd q (by decide)) (fun _ => ?_)
      refine g_iconst X dX8_would_15 ?_
      exact R _ _ _ _ dX8_would_16 ⟨congrArg (fun z => some (iv z)) (by first | (exfalso; omega) | (unfold wouldX; (repeat (first | rw [if_pos (by omega)] | rw [if_neg (by omega)])); (first | done | rfl | omega))), rfl⟩
  · skip
    skip
    refine g_if_eq X (tgt := 15) dX8_would_5 (by decide) ⟨by decide, by decide⟩ (fun _ => ?_) (fun q => absurd q (by decide))
    refine g_iconst X dX8_would_15 ?_
    exact R _ _ _ _ dX8_would_16 ⟨congrArg (fun z => some (iv z)) (by first | (exfalso; omega) | (unfold wouldX; (repeat (first | rw [if_pos (by omega)] | rw [if_neg (by omega)])); (first | done | rfl | omega))), rfl⟩
set_option maxHeartbeats 1000000 in
set_option maxRecDepth 100000 in
theorem c_X8_fallFor (l : Launch) (E : wEnv) (σ : Mem) (s : St) (N : Int) (hM : MRep σ s) (hR : RInv s.1 N) (hN : N + 600 ≤ 400000) (p e : Int) (hp : I32 p) (he : I32 e) : MetC l E yX8_fallFor cX8_fallFor 4 (some .int) 3 69 [rv E (12), iv (p), iv (e)] σ (fun v σ' => v = some (iv (fallForX s p e)) ∧ σ = σ') := by
  refine MetC.of (own := RX8) (by decide) rfl (by simp [Value.category]) (Nat.le_of_ble_eq_true rfl) [some (rv E (12)), some (iv (p)), some (iv (e)), none] rfl (by simp) (fun K X R => ?_)
  have hM1 := hM.1
  have hM2 := hM.2.1
  have hM3 := hM.2.2
  have r19 := hR.2.2.2.2.1
  have r0 := hR.1
  have rN := hR.2.2.2.2.2.1
  refine g_aload_n X dX8_fallFor_0 rfl ?_
  refine g_iload_n X dX8_fallFor_1 rfl ?_
  refine cl_X8_103 X (c_X8_isPile l E σ s.1 N hM1 hR p ⟨by omega, by omega⟩) fk12 ⟨Nat.le_of_ble_eq_true rfl, Nat.le_of_ble_eq_true rfl⟩ rfl (Nat.le_of_ble_eq_true rfl) dX8_fallFor_2 rfl (fun v1 τ2 p3 => ?_)
  obtain ⟨rfl, ⟨b4, rfl⟩ | ⟨b4, rfl⟩⟩ := p3
  · skip
    have pi2 := (hR.2.2.2.2.2.2 p.toNat (by omega)).f
    refine g_if_eq X (tgt := 19) dX8_fallFor_5 (by decide) ⟨by decide, by decide⟩ (fun q => absurd q (by decide)) (fun _ => ?_)
    refine g_iload_n X dX8_fallFor_8 rfl ?_
    refine g_iconst X dX8_fallFor_9 ?_
    refine g_sipush X dX8_fallFor_10 (by decide) ?_
    refine cl_X8_51 X (c_X8_in l E σ e 0 500 ⟨by omega, by omega⟩ ⟨by decide, by decide⟩ ⟨by decide, by decide⟩) ⟨Nat.le_of_ble_eq_true rfl, Nat.le_of_ble_eq_true rfl⟩ rfl (Nat.le_of_ble_eq_true rfl) dX8_fallFor_13 rfl (fun v5 τ6 p7 => ?_)
    obtain ⟨rfl, ⟨b8, rfl⟩ | ⟨b8, rfl⟩⟩ := p7
    · skip
      skip
      refine g_if_ne X (tgt := 21) dX8_fallFor_16 (by decide) ⟨by decide, by decide⟩ (fun _ => ?_) (fun q => absurd q (by decide))
      refine g_aload_n X dX8_fallFor_21 rfl ?_
      refine g_iload_n X dX8_fallFor_22 rfl ?_
      refine cl_X8_142 X (c_X8_isDown l E σ s.1 N hM1 hR p (by omega)) fk12 ⟨Nat.le_of_ble_eq_true rfl, Nat.le_of_ble_eq_true rfl⟩ rfl (Nat.le_of_ble_eq_true rfl) dX8_fallFor_23 rfl (fun v9 τ10 p11 => ?_)
      obtain ⟨rfl, ⟨b12, rfl⟩ | ⟨b12, rfl⟩⟩ := p11
      · skip
        skip
        refine g_if_eq X (tgt := 32) dX8_fallFor_26 (by decide) ⟨by decide, by decide⟩ (fun q => absurd q (by decide)) (fun _ => ?_)
        refine g_bipush X dX8_fallFor_29 (by decide) ?_
        exact R _ _ _ _ dX8_fallFor_31 ⟨congrArg (fun z => some (iv z)) (by first | (exfalso; omega) | (unfold fallForX; (repeat (first | rw [if_pos (by omega)] | rw [if_neg (by omega)])); (first | done | rfl | (rw [j3, show (3001 - f).toNat = (3000 - f).toNat + 1 by omega, fallR, if_pos (by first | assumption | (unfold blowS; assumption))]) | (rw [j3, show (3001 - f).toNat = 0 by omega, fallR])))), rfl⟩
      · skip
        skip
        refine g_if_eq X (tgt := 32) dX8_fallFor_26 (by decide) ⟨by decide, by decide⟩ (fun _ => ?_) (fun q => absurd q (by decide))
        refine g_bipush X dX8_fallFor_32 (by decide) ?_
        refine g_istore_n X (lw := [some (rv E (12)), some (iv (p)), some (iv (e)), some (iv (100))]) dX8_fallFor_34 (by decide) rfl rfl ?_
        have L13 : ∀ (fu : Nat) (f : Int), (100 ≤ f) → (f ≤ 3001) → (fallR s.1 p.toNat e 2901 100 = fallR s.1 p.toNat e (3001 - f).toNat f) → 3001 - f < (fu : Int) → K σ 35 [some (rv E (12)), some (iv (p)), some (iv (e)), some (iv (f))] [] := by
          intro fu
          induction fu with
          | zero =>
            intro f j1 j2 j3 hm
            exact absurd hm (by omega)
          | succ fu ih13 =>
            intro f j1 j2 j3 hm
            refine g_iload_n X dX8_fallFor_35 rfl ?_
            refine g_sipush X dX8_fallFor_36 (by decide) ?_
            refine g_icmp_gt X (tgt := 66) dX8_fallFor_39 (by decide) ⟨by omega, by omega⟩ ⟨by decide, by decide⟩ (fun c14 => ?_) (fun c14 => ?_)
            · skip
              refine g_bipush X dX8_fallFor_66 (by decide) ?_
              exact R _ _ _ _ dX8_fallFor_68 ⟨congrArg (fun z => some (iv z)) (by first | (exfalso; omega) | (unfold fallForX; (repeat (first | rw [if_pos (by omega)] | rw [if_neg (by omega)])); (first | done | rfl | (rw [j3, show (3001 - f).toNat = (3000 - f).toNat + 1 by omega, fallR, if_pos (by first | assumption | (unfold blowS; assumption))]) | (rw [j3, show (3001 - f).toNat = 0 by omega, fallR])))), rfl⟩
            · skip
              refine g_aload_n X dX8_fallFor_42 rfl ?_
              refine g_iload_n X dX8_fallFor_43 rfl ?_
              refine g_aload_n X dX8_fallFor_44 rfl ?_
              refine g_iload_n X dX8_fallFor_45 rfl ?_
              refine g_iconst X dX8_fallFor_46 ?_
              refine cl_X8_62 X (c0_X8_of l E σ p 3 (24 + 91 * p.toNat + 3) (by omega) (by omega) (by omega)) fk12 ⟨Nat.le_of_ble_eq_true rfl, Nat.le_of_ble_eq_true rfl⟩ rfl (Nat.le_of_ble_eq_true rfl) dX8_fallFor_47 rfl (fun v15 τ16 p17 => ?_)
              obtain ⟨rfl, rfl⟩ := p17
              rw [show σ 13 (24 + 91 * p.toNat + 3) = s.1 (24 + 91 * p.toNat + 3) from (hM1.at (n := (24 + 91 * p.toNat + 3)) (by omega) (by omega))]
              refine g_iload_n X dX8_fallFor_50 rfl ?_
              refine cl_X8_128 X (c_X8_setAt l E σ s.1 N hM1 hR p (s.1 (24 + 91 * p.toNat + 3)) f (by omega) (by omega) (by omega) (by omega) (by omega)) fk12 ⟨Nat.le_of_ble_eq_true rfl, Nat.le_of_ble_eq_true rfl⟩ rfl (Nat.le_of_ble_eq_true rfl) dX8_fallFor_51 rfl (fun v18 τ19 p20 => ?_)
              obtain ⟨rfl, rfl⟩ := p20
              have sb51 := setR_bd s.1 (energyR s.1 f) (s.1 (24 + 91 * p.toNat + 3)) (s.1 (24 + 91 * p.toNat + 2)) (by omega)
              refine g_iload_n X dX8_fallFor_54 rfl ?_
              refine g_icmp_lt X (tgt := 60) dX8_fallFor_55 (by decide) ⟨by omega, by omega⟩ ⟨by omega, by omega⟩ (fun c21 => ?_) (fun c21 => ?_)
              · skip
                refine g_iinc X (lw := [some (rv E (12)), some (iv (p)), some (iv (e)), some (iv (f + 1))]) dX8_fallFor_60 rfl (by decide) rfl rfl ?_
                refine g_goto X (tgt := 35) dX8_fallFor_63 (by decide) ?_
                exact ih13  (f + 1) (by omega) (by omega) (by rw [j3, show (3001 - f).toNat = (3001 - (f + 1)).toNat + 1 by omega, fallR, if_neg (by unfold blowS; omega)]) (by omega)
              · skip
                refine g_iload_n X dX8_fallFor_58 rfl ?_
                exact R _ _ _ _ dX8_fallFor_59 ⟨congrArg (fun z => some (iv z)) (by first | (exfalso; omega) | (unfold fallForX; (repeat (first | rw [if_pos (by omega)] | rw [if_neg (by omega)])); (first | done | rfl | (rw [j3, show (3001 - f).toNat = (3000 - f).toNat + 1 by omega, fallR, if_pos (by first | assumption | (unfold blowS; assumption))]) | (rw [j3, show (3001 - f).toNat = 0 by omega, fallR])))), rfl⟩
        exact L13 _  100 (by omega) (by omega) (by rfl) (by exact Int.lt_toNat_succ _)
    · skip
      skip
      refine g_if_ne X (tgt := 21) dX8_fallFor_16 (by decide) ⟨by decide, by decide⟩ (fun q => absurd q (by decide)) (fun _ => ?_)
      refine g_iconst X dX8_fallFor_19 ?_
      exact R _ _ _ _ dX8_fallFor_20 ⟨congrArg (fun z => some (iv z)) (by first | (exfalso; omega) | (unfold fallForX; (repeat (first | rw [if_pos (by omega)] | rw [if_neg (by omega)])); (first | done | rfl | (rw [j3, show (3001 - f).toNat = (3000 - f).toNat + 1 by omega, fallR, if_pos (by first | assumption | (unfold blowS; assumption))]) | (rw [j3, show (3001 - f).toNat = 0 by omega, fallR])))), rfl⟩
  · skip
    skip
    refine g_if_eq X (tgt := 19) dX8_fallFor_5 (by decide) ⟨by decide, by decide⟩ (fun _ => ?_) (fun q => absurd q (by decide))
    refine g_iconst X dX8_fallFor_19 ?_
    exact R _ _ _ _ dX8_fallFor_20 ⟨congrArg (fun z => some (iv z)) (by first | (exfalso; omega) | (unfold fallForX; (repeat (first | rw [if_pos (by omega)] | rw [if_neg (by omega)])); (first | done | rfl | (rw [j3, show (3001 - f).toNat = (3000 - f).toNat + 1 by omega, fallR, if_pos (by first | assumption | (unfold blowS; assumption))]) | (rw [j3, show (3001 - f).toNat = 0 by omega, fallR])))), rfl⟩
set_option maxHeartbeats 1000000 in
set_option maxRecDepth 100000 in
theorem c_X8_test (l : Launch) (E : wEnv) (σ : Mem) (s : St) (N : Int) (hM : MRep σ s) (hR : RInv s.1 N) (hN : N + 600 ≤ 400000) (p f : Int) (hp : I32 p) (hf : I32 f) : MetC l E yX8_test cX8_test 6 (some .int) 2 45 [rv E (12), iv (p), iv (f)] σ (fun v σ' => v = some (iv (testX s p f).1) ∧ MRep σ' (testX s p f).2 ∧ frC σ σ') := by
  refine MetC.of (own := RX8) (by decide) rfl (by simp [Value.category]) (Nat.le_of_ble_eq_true rfl) [some (rv E (12)), some (iv (p)), some (iv (f)), none, none, none] rfl (by simp) (fun K X R => ?_)
  have hM1 := hM.1
  have hM2 := hM.2.1
  have hM3 := hM.2.2
  have r19 := hR.2.2.2.2.1
  have r0 := hR.1
  have rN := hR.2.2.2.2.2.1
  refine g_aload_n X dX8_test_0 rfl ?_
  refine g_iload_n X dX8_test_1 rfl ?_
  refine cl_X8_103 X (c_X8_isPile l E σ s.1 N hM1 hR p ⟨by omega, by omega⟩) fk12 ⟨Nat.le_of_ble_eq_true rfl, Nat.le_of_ble_eq_true rfl⟩ rfl (Nat.le_of_ble_eq_true rfl) dX8_test_2 rfl (fun v1 τ2 p3 => ?_)
  obtain ⟨rfl, ⟨b4, rfl⟩ | ⟨b4, rfl⟩⟩ := p3
  · skip
    have pi2 := (hR.2.2.2.2.2.2 p.toNat (by omega)).f
    refine g_if_eq X (tgt := 18) dX8_test_5 (by decide) ⟨by decide, by decide⟩ (fun q => absurd q (by decide)) (fun _ => ?_)
    refine g_iload_n X dX8_test_8 rfl ?_
    refine g_iconst X dX8_test_9 ?_
    refine g_ldc X (n := 100000) dX8_test_10 wK_X8_131 (by decide) ?_
    refine cl_X8_51 X (c_X8_in l E σ f 1 100000 ⟨by omega, by omega⟩ ⟨by decide, by decide⟩ ⟨by decide, by decide⟩) ⟨Nat.le_of_ble_eq_true rfl, Nat.le_of_ble_eq_true rfl⟩ rfl (Nat.le_of_ble_eq_true rfl) dX8_test_12 rfl (fun v5 τ6 p7 => ?_)
    obtain ⟨rfl, ⟨b8, rfl⟩ | ⟨b8, rfl⟩⟩ := p7
    · skip
      skip
      refine g_if_ne X (tgt := 20) dX8_test_15 (by decide) ⟨by decide, by decide⟩ (fun _ => ?_) (fun q => absurd q (by decide))
      refine g_aload_n X dX8_test_20 rfl ?_
      refine cl_X8_55 X (c_X8_records l E σ s.2.1 s.2.2.1 s.1 hM1 hM2) fk12 ⟨Nat.le_of_ble_eq_true rfl, Nat.le_of_ble_eq_true rfl⟩ rfl (Nat.le_of_ble_eq_true rfl) dX8_test_21 rfl (fun v9 τ10 p11 => ?_)
      obtain ⟨rfl, hH21, hF21, hG21⟩ := p11
      have hM21 := hM1.fr (hF21 13 (by decide) (by decide) (by decide)) (hF21 15 (by decide) (by decide) (by decide))
      refine g_aload_n X dX8_test_24 rfl ?_
      refine g_iload_n X dX8_test_25 rfl ?_
      refine g_iconst X dX8_test_26 ?_
      refine cl_X8_62 X (c0_X8_of l E τ10 p 3 (24 + 91 * p.toNat + 3) (by omega) (by omega) (by omega)) fk12 ⟨Nat.le_of_ble_eq_true rfl, Nat.le_of_ble_eq_true rfl⟩ rfl (Nat.le_of_ble_eq_true rfl) dX8_test_27 rfl (fun v12 τ13 p14 => ?_)
      obtain ⟨rfl, rfl⟩ := p14
      rw [show τ10 13 (24 + 91 * p.toNat + 3) = s.1 (24 + 91 * p.toNat + 3) from (hM21.at (n := (24 + 91 * p.toNat + 3)) (by omega) (by omega))]
      refine g_istore_n X (lw := [some (rv E (12)), some (iv (p)), some (iv (f)), some (iv (s.1 (24 + 91 * p.toNat + 3))), none, none]) dX8_test_30 (by decide) rfl rfl ?_
      refine g_aload_n X dX8_test_31 rfl ?_
      refine g_iload_n X dX8_test_32 rfl ?_
      refine cl_X8_118 X (c_X8_hardness l E τ10 s.1 N hM21 hR (s.1 (24 + 91 * p.toNat + 3)) ⟨by omega, by omega⟩) fk12 ⟨Nat.le_of_ble_eq_true rfl, Nat.le_of_ble_eq_true rfl⟩ rfl (Nat.le_of_ble_eq_true rfl) dX8_test_33 rfl (fun v15 τ16 p17 => ?_)
      obtain ⟨rfl, rfl⟩ := p17
      have hb33 := hardR_bd hR (s.1 (24 + 91 * p.toNat + 3))
      refine g_bipush X dX8_test_36 (by decide) ?_
      refine g_imul X dX8_test_38 ?_
      refine g_iload_n X dX8_test_39 rfl ?_
      refine g_bipush X dX8_test_40 (by decide) ?_
      refine g_idiv X dX8_test_42 (by omega) (by omega) (by decide) (by decide) ?_
      refine g_iadd X dX8_test_43 ?_
      refine g_istore X (lw := [some (rv E (12)), some (iv (p)), some (iv (f)), some (iv (s.1 (24 + 91 * p.toNat + 3))), some (iv ((hardR s.1 (s.1 (24 + 91 * p.toNat + 3))) * 10 + ((s.1 (24 + 91 * p.toNat + 3)) / 100))), none]) dX8_test_44 (by decide) rfl rfl ?_
      refine g_iload_n X dX8_test_46 rfl ?_
      refine g_iload X dX8_test_47 rfl ?_
      refine g_icmp_gt X (tgt := 54) dX8_test_49 (by decide) ⟨by omega, by omega⟩ ⟨by omega, by omega⟩ (fun c18 => ?_) (fun c18 => ?_)
      · skip
        refine g_iload_n X dX8_test_54 rfl ?_
        refine g_iload X dX8_test_55 rfl ?_
        refine g_isub X dX8_test_57 ?_
        refine g_bipush X dX8_test_58 (by decide) ?_
        refine g_idiv X dX8_test_60 (by omega) (by omega) (by decide) (by decide) ?_
        refine g_iconst X dX8_test_61 ?_
        refine g_iadd X dX8_test_62 ?_
        refine g_aload_n X dX8_test_63 rfl ?_
        refine g_iload_n X dX8_test_64 rfl ?_
        refine g_iconst X dX8_test_65 ?_
        refine cl_X8_62 X (c0_X8_of l E τ10 p 2 (24 + 91 * p.toNat + 2) (by omega) (by omega) (by omega)) fk12 ⟨Nat.le_of_ble_eq_true rfl, Nat.le_of_ble_eq_true rfl⟩ rfl (Nat.le_of_ble_eq_true rfl) dX8_test_66 rfl (fun v19 τ20 p21 => ?_)
        obtain ⟨rfl, rfl⟩ := p21
        rw [show τ10 13 (24 + 91 * p.toNat + 2) = s.1 (24 + 91 * p.toNat + 2) from (hM21.at (n := (24 + 91 * p.toNat + 2)) (by omega) (by omega))]
        refine g_iload_n X dX8_test_69 rfl ?_
        refine g_isub X dX8_test_70 ?_
        refine cl_X8_121 X (c_X8_lesser l E τ10 ((f - ((hardR s.1 (s.1 (24 + 91 * p.toNat + 3))) * 10 + ((s.1 (24 + 91 * p.toNat + 3)) / 100))) / 10 + 1) (s.1 (24 + 91 * p.toNat + 2) - (s.1 (24 + 91 * p.toNat + 3))) ⟨by omega, by omega⟩ ⟨by omega, by omega⟩) ⟨Nat.le_of_ble_eq_true rfl, Nat.le_of_ble_eq_true rfl⟩ rfl (Nat.le_of_ble_eq_true rfl) dX8_test_71 rfl (fun v22 τ23 p24 => ?_)
        obtain ⟨rfl, rfl⟩ := p24
        refine g_istore X (lw := [some (rv E (12)), some (iv (p)), some (iv (f)), some (iv (s.1 (24 + 91 * p.toNat + 3))), some (iv ((hardR s.1 (s.1 (24 + 91 * p.toNat + 3))) * 10 + ((s.1 (24 + 91 * p.toNat + 3)) / 100))), some (iv (min ((f - ((hardR s.1 (s.1 (24 + 91 * p.toNat + 3))) * 10 + ((s.1 (24 + 91 * p.toNat + 3)) / 100))) / 10 + 1) (s.1 (24 + 91 * p.toNat + 2) - (s.1 (24 + 91 * p.toNat + 3)))))]) dX8_test_74 (by decide) rfl rfl ?_
        refine g_aload_n X dX8_test_76 rfl ?_
        refine g_iload_n X dX8_test_77 rfl ?_
        refine g_iconst X dX8_test_78 ?_
        refine g_iload_n X dX8_test_79 rfl ?_
        refine g_iload X dX8_test_80 rfl ?_
        refine g_iadd X dX8_test_82 ?_
        refine cl_X8_93 X (c_X8_put l E τ10 p 3 (s.1 (24 + 91 * p.toNat + 3) + (min ((f - ((hardR s.1 (s.1 (24 + 91 * p.toNat + 3))) * 10 + ((s.1 (24 + 91 * p.toNat + 3)) / 100))) / 10 + 1) (s.1 (24 + 91 * p.toNat + 2) - (s.1 (24 + 91 * p.toNat + 3))))) (24 + 91 * p.toNat + 3) (by omega) (by omega) (by omega)) fk12 ⟨Nat.le_of_ble_eq_true rfl, Nat.le_of_ble_eq_true rfl⟩ rfl (Nat.le_of_ble_eq_true rfl) dX8_test_83 rfl (fun v25 τ26 p27 => ?_)
        obtain ⟨rfl, rfl⟩ := p27
        refine g_aload_n X dX8_test_86 rfl ?_
        refine g_iload_n X dX8_test_87 rfl ?_
        refine g_bipush X dX8_test_88 (by decide) ?_
        refine g_iconst X dX8_test_90 ?_
        refine cl_X8_93 X (c_X8_put l E (up τ10 13 ((24 + 91 * p.toNat + 3)) (s.1 (24 + 91 * p.toNat + 3) + (min ((f - ((hardR s.1 (s.1 (24 + 91 * p.toNat + 3))) * 10 + ((s.1 (24 + 91 * p.toNat + 3)) / 100))) / 10 + 1) (s.1 (24 + 91 * p.toNat + 2) - (s.1 (24 + 91 * p.toNat + 3)))))) p 6 0 (24 + 91 * p.toNat + 6) (by omega) (by omega) (by omega)) fk12 ⟨Nat.le_of_ble_eq_true rfl, Nat.le_of_ble_eq_true rfl⟩ rfl (Nat.le_of_ble_eq_true rfl) dX8_test_91 rfl (fun v28 τ29 p30 => ?_)
        obtain ⟨rfl, rfl⟩ := p30
        refine g_aload_n X dX8_test_94 rfl ?_
        refine g_iload_n X dX8_test_95 rfl ?_
        refine g_bipush X dX8_test_96 (by decide) ?_
        refine g_aload_n X dX8_test_98 rfl ?_
        refine g_iload_n X dX8_test_99 rfl ?_
        refine g_bipush X dX8_test_100 (by decide) ?_
        refine cl_X8_62 X (c0_X8_of l E (up (up τ10 13 ((24 + 91 * p.toNat + 3)) (s.1 (24 + 91 * p.toNat + 3) + (min ((f - ((hardR s.1 (s.1 (24 + 91 * p.toNat + 3))) * 10 + ((s.1 (24 + 91 * p.toNat + 3)) / 100))) / 10 + 1) (s.1 (24 + 91 * p.toNat + 2) - (s.1 (24 + 91 * p.toNat + 3)))))) 13 ((24 + 91 * p.toNat + 6)) (0)) p 9 (24 + 91 * p.toNat + 9) (by omega) (by omega) (by omega)) fk12 ⟨Nat.le_of_ble_eq_true rfl, Nat.le_of_ble_eq_true rfl⟩ rfl (Nat.le_of_ble_eq_true rfl) dX8_test_102 rfl (fun v31 τ32 p33 => ?_)
        obtain ⟨rfl, rfl⟩ := p33
        rw [show (up (up τ10 13 ((24 + 91 * p.toNat + 3)) (s.1 (24 + 91 * p.toNat + 3) + (min ((f - ((hardR s.1 (s.1 (24 + 91 * p.toNat + 3))) * 10 + ((s.1 (24 + 91 * p.toNat + 3)) / 100))) / 10 + 1) (s.1 (24 + 91 * p.toNat + 2) - (s.1 (24 + 91 * p.toNat + 3)))))) 13 ((24 + 91 * p.toNat + 6)) (0)) 13 (24 + 91 * p.toNat + 9) = s.1 (24 + 91 * p.toNat + 9) from (up_ne2 (by omega) (up_ne2 (by omega) (hM21.at (n := (24 + 91 * p.toNat + 9)) (by omega) (by omega))))]
        refine g_iload X dX8_test_105 rfl ?_
        refine g_iadd X dX8_test_107 ?_
        refine cl_X8_93 X (c_X8_put l E (up (up τ10 13 ((24 + 91 * p.toNat + 3)) (s.1 (24 + 91 * p.toNat + 3) + (min ((f - ((hardR s.1 (s.1 (24 + 91 * p.toNat + 3))) * 10 + ((s.1 (24 + 91 * p.toNat + 3)) / 100))) / 10 + 1) (s.1 (24 + 91 * p.toNat + 2) - (s.1 (24 + 91 * p.toNat + 3)))))) 13 ((24 + 91 * p.toNat + 6)) (0)) p 9 (s.1 (24 + 91 * p.toNat + 9) + (min ((f - ((hardR s.1 (s.1 (24 + 91 * p.toNat + 3))) * 10 + ((s.1 (24 + 91 * p.toNat + 3)) / 100))) / 10 + 1) (s.1 (24 + 91 * p.toNat + 2) - (s.1 (24 + 91 * p.toNat + 3))))) (24 + 91 * p.toNat + 9) (by omega) (by omega) (by omega)) fk12 ⟨Nat.le_of_ble_eq_true rfl, Nat.le_of_ble_eq_true rfl⟩ rfl (Nat.le_of_ble_eq_true rfl) dX8_test_108 rfl (fun v34 τ35 p36 => ?_)
        obtain ⟨rfl, rfl⟩ := p36
        refine g_aload_n X dX8_test_111 rfl ?_
        refine gf_X8_7 X fk12 dX8_test_112 ?_
        refine g_bipush X dX8_test_115 (by decide) ?_
        refine g_dup2 X dX8_test_117 rfl rfl ?_
        refine g_iald X fk13 fl13 (by omega) (by omega) (by decide) (up_ne2 (by omega) (up_ne2 (by omega) (up_ne2 (by omega) (hM21.at (n := 23) (by omega) (by omega))))) dX8_test_118 ?_
        refine g_iload X dX8_test_119 rfl ?_
        refine g_iadd X dX8_test_121 ?_
        refine g_iast X fk13 fl13 (by omega) (by omega) (by decide) dX8_test_122 ?_
        refine g_iload X dX8_test_123 rfl ?_
        exact R _ _ _ _ dX8_test_125 (by have hz : min ((f - ((hardR s.1 (s.1 (24 + 91 * p.toNat + 3))) * 10 + ((s.1 (24 + 91 * p.toNat + 3)) / 100))) / 10 + 1) (s.1 (24 + 91 * p.toNat + 2) - (s.1 (24 + 91 * p.toNat + 3))) = pressZ s.1 p.toNat f := by { unfold pressZ heldR; omega }; have hq := ((((hM21.put (n := 24 + 91 * p.toNat + 3) (v := s.1 (24 + 91 * p.toNat + 3) + (min ((f - ((hardR s.1 (s.1 (24 + 91 * p.toNat + 3))) * 10 + ((s.1 (24 + 91 * p.toNat + 3)) / 100))) / 10 + 1) (s.1 (24 + 91 * p.toNat + 2) - (s.1 (24 + 91 * p.toNat + 3))))) (by omega)).put (n := 24 + 91 * p.toNat + 6) (v := 0) (by omega)).put (n := 24 + 91 * p.toNat + 9) (v := s.1 (24 + 91 * p.toNat + 9) + (min ((f - ((hardR s.1 (s.1 (24 + 91 * p.toNat + 3))) * 10 + ((s.1 (24 + 91 * p.toNat + 3)) / 100))) / 10 + 1) (s.1 (24 + 91 * p.toNat + 2) - (s.1 (24 + 91 * p.toNat + 3))))) (by omega)).put (n := 23) (v := s.1 23 + (min ((f - ((hardR s.1 (s.1 (24 + 91 * p.toNat + 3))) * 10 + ((s.1 (24 + 91 * p.toNat + 3)) / 100))) / 10 + 1) (s.1 (24 + 91 * p.toNat + 2) - (s.1 (24 + 91 * p.toNat + 3))))) (by omega)).congr (r' := press1R s.1 p.toNat (min ((f - ((hardR s.1 (s.1 (24 + 91 * p.toNat + 3))) * 10 + ((s.1 (24 + 91 * p.toNat + 3)) / 100))) / 10 + 1) (s.1 (24 + 91 * p.toNat + 2) - (s.1 (24 + 91 * p.toNat + 3))))) (fun n _ => press_eq n); unfold testX; rw [if_pos (by omega), if_neg (by unfold heldR; omega)]; exact ⟨congrArg (fun z => some (iv z)) hz, by rw [if_neg (by unfold heldR; omega), ← hz]; exact hM.chg hH21 hF21 hG21 hq ((((frR.refl.up (Or.inl rfl)).up (Or.inl rfl)).up (Or.inl rfl)).up (Or.inl rfl))⟩)
      · skip
        refine g_iconst X dX8_test_52 ?_
        exact R _ _ _ _ dX8_test_53 (by unfold testX; rw [if_pos (by omega), if_pos (by unfold heldR; omega)]; exact ⟨rfl, by rw [if_pos (by unfold heldR; omega)]; exact hM.chg hH21 hF21 hG21 hM21 frR.refl⟩)
    · skip
      skip
      refine g_if_ne X (tgt := 20) dX8_test_15 (by decide) ⟨by decide, by decide⟩ (fun q => absurd q (by decide)) (fun _ => ?_)
      refine g_iconst X dX8_test_18 ?_
      exact R _ _ _ _ dX8_test_19 (by first | (exfalso; omega) | (unfold testX; (repeat (first | rw [if_pos (by omega)] | rw [if_neg (by omega)])); exact ⟨rfl, hM, frC.refl⟩))
  · skip
    skip
    refine g_if_eq X (tgt := 18) dX8_test_5 (by decide) ⟨by decide, by decide⟩ (fun _ => ?_) (fun q => absurd q (by decide))
    refine g_iconst X dX8_test_18 ?_
    exact R _ _ _ _ dX8_test_19 (by first | (exfalso; omega) | (unfold testX; (repeat (first | rw [if_pos (by omega)] | rw [if_neg (by omega)])); exact ⟨rfl, hM, frC.refl⟩))
set_option maxHeartbeats 1000000 in
set_option maxRecDepth 100000 in
theorem c_X8_drive (l : Launch) (E : wEnv) (σ : Mem) (s : St) (N : Int) (hM : MRep σ s) (hR : RInv s.1 N) (hN : N + 600 ≤ 400000) (p h e m : Int) (hp : I32 p) (hh : I32 h) (he : I32 e) (hm : I32 m) : MetC l E yX8_drive cX8_drive 8 (some .int) 4 96 [rv E (12), iv (p), iv (h), iv (e), iv (m)] σ (fun v σ' => v = some (iv (driveX s p h e m).1) ∧ MRep σ' (driveX s p h e m).2 ∧ frC σ σ') := by
  refine MetC.of (own := RX8) (by decide) rfl (by simp [Value.category]) (Nat.le_of_ble_eq_true rfl) [some (rv E (12)), some (iv (p)), some (iv (h)), some (iv (e)), some (iv (m)), none, none, none] rfl (by simp) (fun K X R => ?_)
  have hM1 := hM.1
  have hM2 := hM.2.1
  have hM3 := hM.2.2
  have r19 := hR.2.2.2.2.1
  have r0 := hR.1
  have rN := hR.2.2.2.2.2.1
  refine g_aload_n X dX8_drive_0 rfl ?_
  refine g_iload_n X dX8_drive_1 rfl ?_
  refine cl_X8_103 X (c_X8_isPile l E σ s.1 N hM1 hR p ⟨by omega, by omega⟩) fk12 ⟨Nat.le_of_ble_eq_true rfl, Nat.le_of_ble_eq_true rfl⟩ rfl (Nat.le_of_ble_eq_true rfl) dX8_drive_2 rfl (fun v1 τ2 p3 => ?_)
  obtain ⟨rfl, ⟨b4, rfl⟩ | ⟨b4, rfl⟩⟩ := p3
  · skip
    have pi2 := (hR.2.2.2.2.2.2 p.toNat (by omega)).f
    refine g_if_eq X (tgt := 37) dX8_drive_5 (by decide) ⟨by decide, by decide⟩ (fun q => absurd q (by decide)) (fun _ => ?_)
    refine g_iload_n X dX8_drive_8 rfl ?_
    refine cl_X8_139 X (c_X8_isFall l E σ h ⟨by omega, by omega⟩) ⟨Nat.le_of_ble_eq_true rfl, Nat.le_of_ble_eq_true rfl⟩ rfl (Nat.le_of_ble_eq_true rfl) dX8_drive_9 rfl (fun v5 τ6 p7 => ?_)
    obtain ⟨rfl, ⟨b8, rfl⟩ | ⟨b8, rfl⟩⟩ := p7
    · skip
      skip
      refine g_if_eq X (tgt := 37) dX8_drive_12 (by decide) ⟨by decide, by decide⟩ (fun q => absurd q (by decide)) (fun _ => ?_)
      refine g_iload_n X dX8_drive_15 rfl ?_
      refine g_iconst X dX8_drive_16 ?_
      refine g_sipush X dX8_drive_17 (by decide) ?_
      refine cl_X8_51 X (c_X8_in l E σ e 0 500 ⟨by omega, by omega⟩ ⟨by decide, by decide⟩ ⟨by decide, by decide⟩) ⟨Nat.le_of_ble_eq_true rfl, Nat.le_of_ble_eq_true rfl⟩ rfl (Nat.le_of_ble_eq_true rfl) dX8_drive_20 rfl (fun v9 τ10 p11 => ?_)
      obtain ⟨rfl, ⟨b12, rfl⟩ | ⟨b12, rfl⟩⟩ := p11
      · skip
        skip
        refine g_if_eq X (tgt := 37) dX8_drive_23 (by decide) ⟨by decide, by decide⟩ (fun q => absurd q (by decide)) (fun _ => ?_)
        refine g_iload X dX8_drive_26 rfl ?_
        refine g_iconst X dX8_drive_28 ?_
        refine g_bipush X dX8_drive_29 (by decide) ?_
        refine cl_X8_51 X (c_X8_in l E σ m 1 100 ⟨by omega, by omega⟩ ⟨by decide, by decide⟩ ⟨by decide, by decide⟩) ⟨Nat.le_of_ble_eq_true rfl, Nat.le_of_ble_eq_true rfl⟩ rfl (Nat.le_of_ble_eq_true rfl) dX8_drive_31 rfl (fun v13 τ14 p15 => ?_)
        obtain ⟨rfl, ⟨b16, rfl⟩ | ⟨b16, rfl⟩⟩ := p15
        · skip
          skip
          refine g_if_ne X (tgt := 39) dX8_drive_34 (by decide) ⟨by decide, by decide⟩ (fun _ => ?_) (fun q => absurd q (by decide))
          refine g_aload_n X dX8_drive_39 rfl ?_
          refine g_iload_n X dX8_drive_40 rfl ?_
          refine cl_X8_142 X (c_X8_isDown l E σ s.1 N hM1 hR p (by omega)) fk12 ⟨Nat.le_of_ble_eq_true rfl, Nat.le_of_ble_eq_true rfl⟩ rfl (Nat.le_of_ble_eq_true rfl) dX8_drive_41 rfl (fun v17 τ18 p19 => ?_)
          obtain ⟨rfl, ⟨b20, rfl⟩ | ⟨b20, rfl⟩⟩ := p19
          · skip
            skip
            refine g_if_eq X (tgt := 50) dX8_drive_44 (by decide) ⟨by decide, by decide⟩ (fun q => absurd q (by decide)) (fun _ => ?_)
            refine g_bipush X dX8_drive_47 (by decide) ?_
            exact R _ _ _ _ dX8_drive_49 (by first | (exfalso; omega) | (unfold driveX; (repeat (first | rw [if_pos (by omega)] | rw [if_neg (by omega)])); exact ⟨rfl, hM, frC.refl⟩))
          · skip
            skip
            refine g_if_eq X (tgt := 50) dX8_drive_44 (by decide) ⟨by decide, by decide⟩ (fun _ => ?_) (fun q => absurd q (by decide))
            refine g_aload_n X dX8_drive_50 rfl ?_
            refine cl_X8_55 X (c_X8_records l E σ s.2.1 s.2.2.1 s.1 hM1 hM2) fk12 ⟨Nat.le_of_ble_eq_true rfl, Nat.le_of_ble_eq_true rfl⟩ rfl (Nat.le_of_ble_eq_true rfl) dX8_drive_51 rfl (fun v21 τ22 p23 => ?_)
            obtain ⟨rfl, hH51, hF51, hG51⟩ := p23
            have hM51 := hM1.fr (hF51 13 (by decide) (by decide) (by decide)) (hF51 15 (by decide) (by decide) (by decide))
            obtain ⟨μ0, hμ0⟩ : ∃ z, z = τ22 := ⟨_, rfl⟩
            rw [← hμ0]
            rw [← hμ0] at hH51 hF51 hG51 hM51
            refine g_iconst X dX8_drive_54 ?_
            refine g_istore X (lw := [some (rv E (12)), some (iv (p)), some (iv (h)), some (iv (e)), some (iv (m)), some (iv (0)), none, none]) dX8_drive_55 (by decide) rfl rfl ?_
            refine g_iconst X dX8_drive_57 ?_
            refine g_istore X (lw := [some (rv E (12)), some (iv (p)), some (iv (h)), some (iv (e)), some (iv (m)), some (iv (0)), some (iv (1)), none]) dX8_drive_58 (by decide) rfl rfl ?_
            have L24 : ∀ (fu : Nat) (χ : Mem) (ρ : Row) (b g : Int), (0 ≤ b) → (b ≤ m) → (g = 0 ∨ (g = 1 ∧ b < m)) → (RR χ ρ) → (frR μ0 χ) → (RInv ρ (N + b)) → (ρ 19 = s.1 19) → ((g = 1 → driveR p.toNat h e m.toNat s.1 = ((driveR p.toNat h e (m - b).toNat ρ).1, (driveR p.toNat h e (m - b).toNat ρ).2 + b)) ∧ (g = 0 → driveR p.toNat h e m.toNat s.1 = (ρ, b))) → m - b < (fu : Int) → K χ 60 [some (rv E (12)), some (iv (p)), some (iv (h)), some (iv (e)), some (iv (m)), some (iv (b)), some (iv (g)), none] [] := by
              intro fu
              induction fu with
              | zero =>
                intro χ ρ b g j1 j2 jg j4 j5 j6 j9 j7 hm
                exact absurd hm (by omega)
              | succ fu ih24 =>
                intro χ ρ b g j1 j2 jg j4 j5 j6 j9 j7 hm
                have hpq := (j6.2.2.2.2.2.2 p.toNat (by omega)).f
                refine g_iload X dX8_drive_60 rfl ?_
                refine g_if_eq X (tgt := 107) dX8_drive_62 (by decide) ⟨by omega, by omega⟩ (fun c25 => ?_) (fun c25 => ?_)
                · skip
                  refine g_iload X dX8_drive_107 rfl ?_
                  exact R _ _ _ _ dX8_drive_109 (by have e2 : driveR p.toNat h e m.toNat s.1 = (ρ, b) := (j7.2 (by omega)); unfold driveX; (repeat (first | rw [if_pos (by omega)] | rw [if_neg (by omega)])); rw [e2]; exact ⟨rfl, hM.chg hH51 hF51 hG51 j4 j5⟩)
                · skip
                  refine g_aload_n X dX8_drive_65 rfl ?_
                  refine g_iload_n X dX8_drive_66 rfl ?_
                  refine g_iload_n X dX8_drive_67 rfl ?_
                  refine cl_X8_145 X (c_X8_strikes l E χ ρ (N + b) j4 j6 (by omega) p h (by omega) (by omega) (by omega)) fk12 ⟨Nat.le_of_ble_eq_true rfl, Nat.le_of_ble_eq_true rfl⟩ rfl (Nat.le_of_ble_eq_true rfl) dX8_drive_68 rfl (fun v26 τ27 p28 => ?_)
                  obtain ⟨rfl, hM68, hF68⟩ := p28
                  have hi68 := hit_inv j6 (by omega) (i := p.toNat) (h := h) (by omega) (by omega) (by omega)
                  have hj68 := hi68.2
                  have hk68 := (hi68.1.2.2.2.2.2.2 p.toNat (by omega)).f
                  have hb68 := (hit1_inv j6 (by omega) (i := p.toNat) (h := h) (by omega) (by omega) (by omega)).2.2.2
                  refine g_istore X (lw := [some (rv E (12)), some (iv (p)), some (iv (h)), some (iv (e)), some (iv (m)), some (iv (b)), some (iv (g)), some (iv (blowS ρ p.toNat h))]) dX8_drive_71 (by decide) rfl rfl ?_
                  refine g_iinc X (lw := [some (rv E (12)), some (iv (p)), some (iv (h)), some (iv (e)), some (iv (m)), some (iv (b + 1)), some (iv (g)), some (iv (blowS ρ p.toNat h))]) dX8_drive_73 rfl (by decide) rfl rfl ?_
                  refine g_iload X dX8_drive_76 rfl ?_
                  refine g_iload_n X dX8_drive_78 rfl ?_
                  refine g_icmp_le X (tgt := 101) dX8_drive_79 (by decide) ⟨by omega, by omega⟩ ⟨by omega, by omega⟩ (fun c29 => ?_) (fun c29 => ?_)
                  · skip
                    refine g_iconst X dX8_drive_101 ?_
                    refine g_istore X (lw := [some (rv E (12)), some (iv (p)), some (iv (h)), some (iv (e)), some (iv (m)), some (iv (b + 1)), some (iv (0)), some (iv (blowS ρ p.toNat h))]) dX8_drive_102 (by decide) rfl rfl ?_
                    refine g_goto X (tgt := 60) dX8_drive_104 (by decide) ?_
                    refine g_kill X 7 (lw := [some (rv E (12)), some (iv (p)), some (iv (h)), some (iv (e)), some (iv (m)), some (iv (b + 1)), some (iv (0)), none]) rfl ?_
                    exact ih24 τ27 (hitR ρ p.toNat h) (b + 1) 0 (by omega) (by omega) (by omega) (by exact hM68) (by exact j5.trans hF68) (by rw [← Int.add_assoc]; exact hi68.1) (by rw [hj68, j9]) (by first | exact ⟨fun q => by omega, fun _ => by rw [j7.1 (by omega), show (m - b).toNat = (m - (b + 1)).toNat + 1 by omega, driveR, if_neg (by omega)]; exact Prod.ext rfl (by show 1 + b = b + 1; omega)⟩ | exact ⟨fun _ => by rw [j7.1 (by omega), show (m - b).toNat = (m - (b + 1)).toNat + 1 by omega, driveR, if_pos (by omega)]; exact Prod.ext rfl (by simp only []; omega), fun q => by omega⟩ | exact ⟨fun q => by omega, fun _ => by rw [j7.1 (by omega), show (m - b).toNat = (m - (b + 1)).toNat + 1 by omega, driveR, if_pos (by omega), show (m - (b + 1)).toNat = 0 by omega, driveR]; exact Prod.ext rfl (by simp only []; omega)⟩) (by omega)
                  · skip
                    refine g_aload_n X dX8_drive_82 rfl ?_
                    refine g_iload_n X dX8_drive_83 rfl ?_
                    refine cl_X8_142 X (c_X8_isDown l E τ27 (hitR ρ p.toNat h) ((N + b) + 1) hM68 hi68.1 p (by omega)) fk12 ⟨Nat.le_of_ble_eq_true rfl, Nat.le_of_ble_eq_true rfl⟩ rfl (Nat.le_of_ble_eq_true rfl) dX8_drive_84 rfl (fun v30 τ31 p32 => ?_)
                    obtain ⟨rfl, ⟨b33, rfl⟩ | ⟨b33, rfl⟩⟩ := p32
                    · skip
                      skip
                      refine g_if_ne X (tgt := 101) dX8_drive_87 (by decide) ⟨by decide, by decide⟩ (fun _ => ?_) (fun q => absurd q (by decide))
                      refine g_iconst X dX8_drive_101 ?_
                      refine g_istore X (lw := [some (rv E (12)), some (iv (p)), some (iv (h)), some (iv (e)), some (iv (m)), some (iv (b + 1)), some (iv (0)), some (iv (blowS ρ p.toNat h))]) dX8_drive_102 (by decide) rfl rfl ?_
                      refine g_goto X (tgt := 60) dX8_drive_104 (by decide) ?_
                      refine g_kill X 7 (lw := [some (rv E (12)), some (iv (p)), some (iv (h)), some (iv (e)), some (iv (m)), some (iv (b + 1)), some (iv (0)), none]) rfl ?_
                      exact ih24 τ27 (hitR ρ p.toNat h) (b + 1) 0 (by omega) (by omega) (by omega) (by exact hM68) (by exact j5.trans hF68) (by rw [← Int.add_assoc]; exact hi68.1) (by rw [hj68, j9]) (by first | exact ⟨fun q => by omega, fun _ => by rw [j7.1 (by omega), show (m - b).toNat = (m - (b + 1)).toNat + 1 by omega, driveR, if_neg (by omega)]; exact Prod.ext rfl (by show 1 + b = b + 1; omega)⟩ | exact ⟨fun _ => by rw [j7.1 (by omega), show (m - b).toNat = (m - (b + 1)).toNat + 1 by omega, driveR, if_pos (by omega)]; exact Prod.ext rfl (by simp only []; omega), fun q => by omega⟩ | exact ⟨fun q => by omega, fun _ => by rw [j7.1 (by omega), show (m - b).toNat = (m - (b + 1)).toNat + 1 by omega, driveR, if_pos (by omega), show (m - (b + 1)).toNat = 0 by omega, driveR]; exact Prod.ext rfl (by simp only []; omega)⟩) (by omega)
                    · skip
                      skip
                      refine g_if_ne X (tgt := 101) dX8_drive_87 (by decide) ⟨by decide, by decide⟩ (fun q => absurd q (by decide)) (fun _ => ?_)
                      refine g_iload X dX8_drive_90 rfl ?_
                      refine g_iload X dX8_drive_92 rfl ?_
                      refine g_icmp_ge X (tgt := 101) dX8_drive_94 (by decide) ⟨by omega, by omega⟩ ⟨by omega, by omega⟩ (fun c34 => ?_) (fun c34 => ?_)
                      · skip
                        refine g_iconst X dX8_drive_101 ?_
                        refine g_istore X (lw := [some (rv E (12)), some (iv (p)), some (iv (h)), some (iv (e)), some (iv (m)), some (iv (b + 1)), some (iv (0)), some (iv (blowS ρ p.toNat h))]) dX8_drive_102 (by decide) rfl rfl ?_
                        refine g_goto X (tgt := 60) dX8_drive_104 (by decide) ?_
                        refine g_kill X 7 (lw := [some (rv E (12)), some (iv (p)), some (iv (h)), some (iv (e)), some (iv (m)), some (iv (b + 1)), some (iv (0)), none]) rfl ?_
                        exact ih24 τ27 (hitR ρ p.toNat h) (b + 1) 0 (by omega) (by omega) (by omega) (by exact hM68) (by exact j5.trans hF68) (by rw [← Int.add_assoc]; exact hi68.1) (by rw [hj68, j9]) (by first | exact ⟨fun q => by omega, fun _ => by rw [j7.1 (by omega), show (m - b).toNat = (m - (b + 1)).toNat + 1 by omega, driveR, if_neg (by omega)]; exact Prod.ext rfl (by show 1 + b = b + 1; omega)⟩ | exact ⟨fun _ => by rw [j7.1 (by omega), show (m - b).toNat = (m - (b + 1)).toNat + 1 by omega, driveR, if_pos (by omega)]; exact Prod.ext rfl (by simp only []; omega), fun q => by omega⟩ | exact ⟨fun q => by omega, fun _ => by rw [j7.1 (by omega), show (m - b).toNat = (m - (b + 1)).toNat + 1 by omega, driveR, if_pos (by omega), show (m - (b + 1)).toNat = 0 by omega, driveR]; exact Prod.ext rfl (by simp only []; omega)⟩) (by omega)
                      · skip
                        refine g_iconst X dX8_drive_97 ?_
                        refine g_goto X (tgt := 102) dX8_drive_98 (by decide) ?_
                        refine g_istore X (lw := [some (rv E (12)), some (iv (p)), some (iv (h)), some (iv (e)), some (iv (m)), some (iv (b + 1)), some (iv (1)), some (iv (blowS ρ p.toNat h))]) dX8_drive_102 (by decide) rfl rfl ?_
                        refine g_goto X (tgt := 60) dX8_drive_104 (by decide) ?_
                        refine g_kill X 7 (lw := [some (rv E (12)), some (iv (p)), some (iv (h)), some (iv (e)), some (iv (m)), some (iv (b + 1)), some (iv (1)), none]) rfl ?_
                        exact ih24 τ27 (hitR ρ p.toNat h) (b + 1) 1 (by omega) (by omega) (by omega) (by exact hM68) (by exact j5.trans hF68) (by rw [← Int.add_assoc]; exact hi68.1) (by rw [hj68, j9]) (by first | exact ⟨fun q => by omega, fun _ => by rw [j7.1 (by omega), show (m - b).toNat = (m - (b + 1)).toNat + 1 by omega, driveR, if_neg (by omega)]; exact Prod.ext rfl (by show 1 + b = b + 1; omega)⟩ | exact ⟨fun _ => by rw [j7.1 (by omega), show (m - b).toNat = (m - (b + 1)).toNat + 1 by omega, driveR, if_pos (by omega)]; exact Prod.ext rfl (by simp only []; omega), fun q => by omega⟩ | exact ⟨fun q => by omega, fun _ => by rw [j7.1 (by omega), show (m - b).toNat = (m - (b + 1)).toNat + 1 by omega, driveR, if_pos (by omega), show (m - (b + 1)).toNat = 0 by omega, driveR]; exact Prod.ext rfl (by simp only []; omega)⟩) (by omega)
            exact L24 _ μ0 s.1 0 1 (by omega) (by omega) (by omega) (by exact hM51) (by exact frR.refl) (by simpa using hR) (by rfl) (by exact ⟨fun _ => by simp, fun q => by omega⟩) (by exact Int.lt_toNat_succ _)
        · skip
          skip
          refine g_if_ne X (tgt := 39) dX8_drive_34 (by decide) ⟨by decide, by decide⟩ (fun q => absurd q (by decide)) (fun _ => ?_)
          refine g_iconst X dX8_drive_37 ?_
          exact R _ _ _ _ dX8_drive_38 (by first | (exfalso; omega) | (unfold driveX; (repeat (first | rw [if_pos (by omega)] | rw [if_neg (by omega)])); exact ⟨rfl, hM, frC.refl⟩))
      · skip
        skip
        refine g_if_eq X (tgt := 37) dX8_drive_23 (by decide) ⟨by decide, by decide⟩ (fun _ => ?_) (fun q => absurd q (by decide))
        refine g_iconst X dX8_drive_37 ?_
        exact R _ _ _ _ dX8_drive_38 (by first | (exfalso; omega) | (unfold driveX; (repeat (first | rw [if_pos (by omega)] | rw [if_neg (by omega)])); exact ⟨rfl, hM, frC.refl⟩))
    · skip
      skip
      refine g_if_eq X (tgt := 37) dX8_drive_12 (by decide) ⟨by decide, by decide⟩ (fun _ => ?_) (fun q => absurd q (by decide))
      refine g_iconst X dX8_drive_37 ?_
      exact R _ _ _ _ dX8_drive_38 (by first | (exfalso; omega) | (unfold driveX; (repeat (first | rw [if_pos (by omega)] | rw [if_neg (by omega)])); exact ⟨rfl, hM, frC.refl⟩))
  · skip
    skip
    refine g_if_eq X (tgt := 37) dX8_drive_5 (by decide) ⟨by decide, by decide⟩ (fun _ => ?_) (fun q => absurd q (by decide))
    refine g_iconst X dX8_drive_37 ?_
    exact R _ _ _ _ dX8_drive_38 (by first | (exfalso; omega) | (unfold driveX; (repeat (first | rw [if_pos (by omega)] | rw [if_neg (by omega)])); exact ⟨rfl, hM, frC.refl⟩))
