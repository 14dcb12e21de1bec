/-! ===== records and their faults, walked ===== -/
set_option maxHeartbeats 4000000 in
set_option maxRecDepth 100000 in
theorem tx_1 {l : Launch} {E : wEnv} {K : Mem → Nat → List (Option Value) → List Value → Prop} {σ : Mem} (X : Ctx l E K RL cL_texts 2 7 180) (hC : CRep σ tS_0 0) (next : ∀ σ', CRep σ' tS_3 1200 → K σ' 59 [some (rv E 0), none] []) : K σ 8 [some (rv E 0), none] [] := by
  have hR : 7 ≤ (7 : Nat) ∧ 180 ≤ (180 : Nat) := ⟨Nat.le_refl _, Nat.le_refl _⟩
  refine g_aload_n X dL_texts_8 rfl ?_
  refine g_ldc2 X (n := 53026558586939) dL_texts_9 wK_RL_108 (by decide) ?_
  refine g_lconst X (z := 0) rfl dL_texts_12 ?_
  refine g_lconst X (z := 0) rfl dL_texts_13 ?_
  refine g_iconst X dL_texts_14 ?_
  refine g_iconst X dL_texts_15 ?_
  refine cl_L_110 X (c_L_isFault l E σ tS_0 0 hC (by decide) 53026558586939 0 0 0 2 ⟨by decide, by decide⟩ ⟨by decide, by decide⟩ ⟨by decide, by decide⟩ tf_1 tf_2) ⟨by omega, by omega⟩ rfl (Nat.le_of_ble_eq_true rfl) dL_texts_16 rfl (fun v1 σ1 p1 => ?_)
  obtain ⟨rfl, hC1, hf1⟩ := p1
  have hD1 : CRep σ1 tS_1 0 := hC1.tx (texS_keep 53026558586939 0 0 tS_0).1 (texS_keep 53026558586939 0 0 tS_0).2.1 (texS_keep 53026558586939 0 0 tS_0).2.2 tf_3 tf_4
  refine g_eqN X (tgt := 57) dL_texts_19 (by decide) ?_
  refine g_aload_n X dL_texts_22 rfl ?_
  refine N_carry X hR hD1 (by decide) (a := -2)  tf_5 (Nat.le_of_ble_eq_true rfl) dL_texts_23 (fun σ2 hC2 hf2 => ?_)
  refine g_bipush X dL_texts_26 (by decide) ?_
  refine g_neS X (tgt := 57) dL_texts_28 (by decide) ?_
  refine g_aload_n X dL_texts_31 rfl ?_
  refine g_iconst X dL_texts_32 ?_
  refine g_iconst X dL_texts_33 ?_
  refine g_sipush X dL_texts_34 (by decide) ?_
  refine L_pile X hR hC2 (by decide) (a := 0) (s' := tS_2) ⟨by decide, by decide⟩ ⟨by decide, by decide⟩ ⟨by decide, by decide⟩ tf_6 (Nat.le_of_ble_eq_true rfl) dL_texts_37 (fun σ3 hC3 hf3 => ?_)
  have hD3 : CRep σ3 tS_2 600 := hC3
  refine g_neN X (tgt := 57) dL_texts_40 (by decide) ?_
  refine g_aload_n X dL_texts_43 rfl ?_
  refine g_bipush X dL_texts_44 (by decide) ?_
  refine g_bipush X dL_texts_46 (by decide) ?_
  refine g_ldc X (n := 50000) dL_texts_48 wK_RL_117 (by decide) ?_
  refine L_pile X hR hD3 (by decide) (a := 1) (s' := tS_3) ⟨by decide, by decide⟩ ⟨by decide, by decide⟩ ⟨by decide, by decide⟩ tf_7 (Nat.le_of_ble_eq_true rfl) dL_texts_50 (fun σ4 hC4 hf4 => ?_)
  have hD4 : CRep σ4 tS_3 1200 := hC4
  refine g_iconst X dL_texts_53 ?_
  refine g_eqS X (tgt := 59) dL_texts_54 (by decide) ?_
  exact next _ hD4
set_option maxHeartbeats 4000000 in
set_option maxRecDepth 100000 in
theorem tx_2 {l : Launch} {E : wEnv} {K : Mem → Nat → List (Option Value) → List Value → Prop} {σ : Mem} (X : Ctx l E K RL cL_texts 2 7 180) (hC : CRep σ tS_3 1200) (next : ∀ σ', CRep σ' tS_7 1200 → K σ' 119 [some (rv E 0), none] []) : K σ 59 [some (rv E 0), none] [] := by
  have hR : 7 ≤ (7 : Nat) ∧ 180 ≤ (180 : Nat) := ⟨Nat.le_refl _, Nat.le_refl _⟩
  refine g_aload_n X dL_texts_59 rfl ?_
  refine g_ldc2 X (n := 53026558586939) dL_texts_60 wK_RL_108 (by decide) ?_
  refine g_lconst X (z := 0) rfl dL_texts_63 ?_
  refine g_lconst X (z := 0) rfl dL_texts_64 ?_
  refine g_bipush X dL_texts_65 (by decide) ?_
  refine g_bipush X dL_texts_67 (by decide) ?_
  refine cl_L_110 X (c_L_isFault l E σ tS_3 1200 hC (by decide) 53026558586939 0 0 (-4) (-4) ⟨by decide, by decide⟩ ⟨by decide, by decide⟩ ⟨by decide, by decide⟩ tf_8 tf_9) ⟨by omega, by omega⟩ rfl (Nat.le_of_ble_eq_true rfl) dL_texts_69 rfl (fun v1 σ1 p1 => ?_)
  obtain ⟨rfl, hC1, hf1⟩ := p1
  have hD1 : CRep σ1 tS_4 1200 := hC1.tx (texS_keep 53026558586939 0 0 tS_3).1 (texS_keep 53026558586939 0 0 tS_3).2.1 (texS_keep 53026558586939 0 0 tS_3).2.2 tf_10 tf_11
  refine g_eqN X (tgt := 117) dL_texts_72 (by decide) ?_
  refine g_aload_n X dL_texts_75 rfl ?_
  refine g_ldc2 X (n := 207134994491) dL_texts_76 wK_RL_118 (by decide) ?_
  refine g_lconst X (z := 0) rfl dL_texts_79 ?_
  refine g_lconst X (z := 0) rfl dL_texts_80 ?_
  refine g_iconst X dL_texts_81 ?_
  refine g_iconst X dL_texts_82 ?_
  refine cl_L_110 X (c_L_isFault l E σ1 tS_4 1200 hD1 (by decide) 207134994491 0 0 0 1 ⟨by decide, by decide⟩ ⟨by decide, by decide⟩ ⟨by decide, by decide⟩ tf_12 tf_13) ⟨by omega, by omega⟩ rfl (Nat.le_of_ble_eq_true rfl) dL_texts_83 rfl (fun v2 σ2 p2 => ?_)
  obtain ⟨rfl, hC2, hf2⟩ := p2
  have hD2 : CRep σ2 tS_5 1200 := hC2.tx (texS_keep 207134994491 0 0 tS_4).1 (texS_keep 207134994491 0 0 tS_4).2.1 (texS_keep 207134994491 0 0 tS_4).2.2 tf_14 tf_15
  refine g_eqN X (tgt := 117) dL_texts_86 (by decide) ?_
  refine g_aload_n X dL_texts_89 rfl ?_
  refine g_ldc2 X (n := 55225581842491) dL_texts_90 wK_RL_120 (by decide) ?_
  refine g_lconst X (z := 0) rfl dL_texts_93 ?_
  refine g_lconst X (z := 0) rfl dL_texts_94 ?_
  refine g_iconst X dL_texts_95 ?_
  refine g_iconst X dL_texts_96 ?_
  refine cl_L_110 X (c_L_isFault l E σ2 tS_5 1200 hD2 (by decide) 55225581842491 0 0 0 2 ⟨by decide, by decide⟩ ⟨by decide, by decide⟩ ⟨by decide, by decide⟩ tf_16 tf_17) ⟨by omega, by omega⟩ rfl (Nat.le_of_ble_eq_true rfl) dL_texts_97 rfl (fun v3 σ3 p3 => ?_)
  obtain ⟨rfl, hC3, hf3⟩ := p3
  have hD3 : CRep σ3 tS_6 1200 := hC3.tx (texS_keep 55225581842491 0 0 tS_5).1 (texS_keep 55225581842491 0 0 tS_5).2.1 (texS_keep 55225581842491 0 0 tS_5).2.2 tf_18 tf_19
  refine g_eqN X (tgt := 117) dL_texts_100 (by decide) ?_
  refine g_aload_n X dL_texts_103 rfl ?_
  refine g_ldc2 X (n := 13574790408319291) dL_texts_104 wK_RL_122 (by decide) ?_
  refine g_lconst X (z := 0) rfl dL_texts_107 ?_
  refine g_lconst X (z := 0) rfl dL_texts_108 ?_
  refine g_iconst X dL_texts_109 ?_
  refine g_iconst X dL_texts_110 ?_
  refine cl_L_110 X (c_L_isFault l E σ3 tS_6 1200 hD3 (by decide) 13574790408319291 0 0 0 3 ⟨by decide, by decide⟩ ⟨by decide, by decide⟩ ⟨by decide, by decide⟩ tf_20 tf_21) ⟨by omega, by omega⟩ rfl (Nat.le_of_ble_eq_true rfl) dL_texts_111 rfl (fun v4 σ4 p4 => ?_)
  obtain ⟨rfl, hC4, hf4⟩ := p4
  have hD4 : CRep σ4 tS_7 1200 := hC4.tx (texS_keep 13574790408319291 0 0 tS_6).1 (texS_keep 13574790408319291 0 0 tS_6).2.1 (texS_keep 13574790408319291 0 0 tS_6).2.2 tf_22 tf_23
  refine g_neY X (tgt := 119) dL_texts_114 (by decide) ?_
  exact next _ hD4
set_option maxHeartbeats 4000000 in
set_option maxRecDepth 100000 in
theorem tx_3 {l : Launch} {E : wEnv} {K : Mem → Nat → List (Option Value) → List Value → Prop} {σ : Mem} (X : Ctx l E K RL cL_texts 2 7 180) (hC : CRep σ tS_7 1200) (next : ∀ σ', CRep σ' tS_11 1200 → K σ' 179 [some (rv E 0), none] []) : K σ 119 [some (rv E 0), none] [] := by
  have hR : 7 ≤ (7 : Nat) ∧ 180 ≤ (180 : Nat) := ⟨Nat.le_refl _, Nat.le_refl _⟩
  refine g_aload_n X dL_texts_119 rfl ?_
  refine g_ldc2 X (n := 53026475292987) dL_texts_120 wK_RL_124 (by decide) ?_
  refine g_lconst X (z := 0) rfl dL_texts_123 ?_
  refine g_lconst X (z := 0) rfl dL_texts_124 ?_
  refine g_iconst X dL_texts_125 ?_
  refine g_iconst X dL_texts_126 ?_
  refine cl_L_110 X (c_L_isFault l E σ tS_7 1200 hC (by decide) 53026475292987 0 0 0 3 ⟨by decide, by decide⟩ ⟨by decide, by decide⟩ ⟨by decide, by decide⟩ tf_24 tf_25) ⟨by omega, by omega⟩ rfl (Nat.le_of_ble_eq_true rfl) dL_texts_127 rfl (fun v1 σ1 p1 => ?_)
  obtain ⟨rfl, hC1, hf1⟩ := p1
  have hD1 : CRep σ1 tS_8 1200 := hC1.tx (texS_keep 53026475292987 0 0 tS_7).1 (texS_keep 53026475292987 0 0 tS_7).2.1 (texS_keep 53026475292987 0 0 tS_7).2.2 tf_26 tf_27
  refine g_eqN X (tgt := 177) dL_texts_130 (by decide) ?_
  refine g_aload_n X dL_texts_133 rfl ?_
  refine g_ldc2 X (n := 3475148543552533553) dL_texts_134 wK_RL_126 (by decide) ?_
  refine g_ldc2 X (n := 59) dL_texts_137 wK_RL_128 (by decide) ?_
  refine g_lconst X (z := 0) rfl dL_texts_140 ?_
  refine g_iconst X dL_texts_141 ?_
  refine g_iconst X dL_texts_142 ?_
  refine cl_L_110 X (c_L_isFault l E σ1 tS_8 1200 hD1 (by decide) 3475148543552533553 59 0 0 3 ⟨by decide, by decide⟩ ⟨by decide, by decide⟩ ⟨by decide, by decide⟩ tf_28 tf_29) ⟨by omega, by omega⟩ rfl (Nat.le_of_ble_eq_true rfl) dL_texts_143 rfl (fun v2 σ2 p2 => ?_)
  obtain ⟨rfl, hC2, hf2⟩ := p2
  have hD2 : CRep σ2 tS_9 1200 := hC2.tx (texS_keep 3475148543552533553 59 0 tS_8).1 (texS_keep 3475148543552533553 59 0 tS_8).2.1 (texS_keep 3475148543552533553 59 0 tS_8).2.2 tf_30 tf_31
  refine g_eqN X (tgt := 177) dL_texts_146 (by decide) ?_
  refine g_aload_n X dL_texts_149 rfl ?_
  refine g_ldc2 X (n := 3475148543552532539) dL_texts_150 wK_RL_130 (by decide) ?_
  refine g_lconst X (z := 0) rfl dL_texts_153 ?_
  refine g_lconst X (z := 0) rfl dL_texts_154 ?_
  refine g_iconst X dL_texts_155 ?_
  refine g_iconst X dL_texts_156 ?_
  refine cl_L_110 X (c_L_isFault l E σ2 tS_9 1200 hD2 (by decide) 3475148543552532539 0 0 0 3 ⟨by decide, by decide⟩ ⟨by decide, by decide⟩ ⟨by decide, by decide⟩ tf_32 tf_33) ⟨by omega, by omega⟩ rfl (Nat.le_of_ble_eq_true rfl) dL_texts_157 rfl (fun v3 σ3 p3 => ?_)
  obtain ⟨rfl, hC3, hf3⟩ := p3
  have hD3 : CRep σ3 tS_10 1200 := hC3.tx (texS_keep 3475148543552532539 0 0 tS_9).1 (texS_keep 3475148543552532539 0 0 tS_9).2.1 (texS_keep 3475148543552532539 0 0 tS_9).2.2 tf_34 tf_35
  refine g_eqN X (tgt := 177) dL_texts_160 (by decide) ?_
  refine g_aload_n X dL_texts_163 rfl ?_
  refine g_ldc2 X (n := 13574798998252091) dL_texts_164 wK_RL_132 (by decide) ?_
  refine g_lconst X (z := 0) rfl dL_texts_167 ?_
  refine g_lconst X (z := 0) rfl dL_texts_168 ?_
  refine g_iconst X dL_texts_169 ?_
  refine g_iconst X dL_texts_170 ?_
  refine cl_L_110 X (c_L_isFault l E σ3 tS_10 1200 hD3 (by decide) 13574798998252091 0 0 0 1 ⟨by decide, by decide⟩ ⟨by decide, by decide⟩ ⟨by decide, by decide⟩ tf_36 tf_37) ⟨by omega, by omega⟩ rfl (Nat.le_of_ble_eq_true rfl) dL_texts_171 rfl (fun v4 σ4 p4 => ?_)
  obtain ⟨rfl, hC4, hf4⟩ := p4
  have hD4 : CRep σ4 tS_11 1200 := hC4.tx (texS_keep 13574798998252091 0 0 tS_10).1 (texS_keep 13574798998252091 0 0 tS_10).2.1 (texS_keep 13574798998252091 0 0 tS_10).2.2 tf_38 tf_39
  refine g_neY X (tgt := 179) dL_texts_174 (by decide) ?_
  exact next _ hD4
set_option maxHeartbeats 4000000 in
set_option maxRecDepth 100000 in
theorem tx_4 {l : Launch} {E : wEnv} {K : Mem → Nat → List (Option Value) → List Value → Prop} {σ : Mem} (X : Ctx l E K RL cL_texts 2 7 180) (hC : CRep σ tS_11 1200) (next : ∀ σ', CRep σ' tS_15 1200 → K σ' 240 [some (rv E 0), none] []) : K σ 179 [some (rv E 0), none] [] := by
  have hR : 7 ≤ (7 : Nat) ∧ 180 ≤ (180 : Nat) := ⟨Nat.le_refl _, Nat.le_refl _⟩
  refine g_aload_n X dL_texts_179 rfl ?_
  refine g_ldc2 X (n := 207134994480) dL_texts_180 wK_RL_134 (by decide) ?_
  refine g_lconst X (z := 0) rfl dL_texts_183 ?_
  refine g_lconst X (z := 0) rfl dL_texts_184 ?_
  refine g_iconst X dL_texts_185 ?_
  refine g_iconst X dL_texts_186 ?_
  refine cl_L_110 X (c_L_isFault l E σ tS_11 1200 hC (by decide) 207134994480 0 0 0 1 ⟨by decide, by decide⟩ ⟨by decide, by decide⟩ ⟨by decide, by decide⟩ tf_40 tf_41) ⟨by omega, by omega⟩ rfl (Nat.le_of_ble_eq_true rfl) dL_texts_187 rfl (fun v1 σ1 p1 => ?_)
  obtain ⟨rfl, hC1, hf1⟩ := p1
  have hD1 : CRep σ1 tS_12 1200 := hC1.tx (texS_keep 207134994480 0 0 tS_11).1 (texS_keep 207134994480 0 0 tS_11).2.1 (texS_keep 207134994480 0 0 tS_11).2.2 tf_42 tf_43
  refine g_eqN X (tgt := 238) dL_texts_190 (by decide) ?_
  refine g_aload_n X dL_texts_193 rfl ?_
  refine g_ldc2 X (n := 3475148543553646906) dL_texts_194 wK_RL_136 (by decide) ?_
  refine g_ldc2 X (n := 3544385890165078904) dL_texts_197 wK_RL_138 (by decide) ?_
  refine g_lconst X (z := 0) rfl dL_texts_200 ?_
  refine g_bipush X dL_texts_201 (by decide) ?_
  refine g_iconst X dL_texts_203 ?_
  refine cl_L_110 X (c_L_isFault l E σ1 tS_12 1200 hD1 (by decide) 3475148543553646906 3544385890165078904 0 15 1 ⟨by decide, by decide⟩ ⟨by decide, by decide⟩ ⟨by decide, by decide⟩ tf_44 tf_45) ⟨by omega, by omega⟩ rfl (Nat.le_of_ble_eq_true rfl) dL_texts_204 rfl (fun v2 σ2 p2 => ?_)
  obtain ⟨rfl, hC2, hf2⟩ := p2
  have hD2 : CRep σ2 tS_13 1200 := hC2.tx (texS_keep 3475148543553646906 3544385890165078904 0 tS_12).1 (texS_keep 3475148543553646906 3544385890165078904 0 tS_12).2.1 (texS_keep 3475148543553646906 3544385890165078904 0 tS_12).2.2 tf_46 tf_47
  refine g_eqN X (tgt := 238) dL_texts_207 (by decide) ?_
  refine g_aload_n X dL_texts_210 rfl ?_
  refine g_ldc2 X (n := 3475144154146944315) dL_texts_211 wK_RL_140 (by decide) ?_
  refine g_lconst X (z := 0) rfl dL_texts_214 ?_
  refine g_lconst X (z := 0) rfl dL_texts_215 ?_
  refine g_iconst X dL_texts_216 ?_
  refine g_iconst X dL_texts_217 ?_
  refine cl_L_110 X (c_L_isFault l E σ2 tS_13 1200 hD2 (by decide) 3475144154146944315 0 0 0 1 ⟨by decide, by decide⟩ ⟨by decide, by decide⟩ ⟨by decide, by decide⟩ tf_48 tf_49) ⟨by omega, by omega⟩ rfl (Nat.le_of_ble_eq_true rfl) dL_texts_218 rfl (fun v3 σ3 p3 => ?_)
  obtain ⟨rfl, hC3, hf3⟩ := p3
  have hD3 : CRep σ3 tS_14 1200 := hC3.tx (texS_keep 3475144154146944315 0 0 tS_13).1 (texS_keep 3475144154146944315 0 0 tS_13).2.1 (texS_keep 3475144154146944315 0 0 tS_13).2.2 tf_50 tf_51
  refine g_eqN X (tgt := 238) dL_texts_221 (by decide) ?_
  refine g_aload_n X dL_texts_224 rfl ?_
  refine g_ldc2 X (n := 215724929083) dL_texts_225 wK_RL_142 (by decide) ?_
  refine g_lconst X (z := 0) rfl dL_texts_228 ?_
  refine g_lconst X (z := 0) rfl dL_texts_229 ?_
  refine g_iconst X dL_texts_230 ?_
  refine g_iconst X dL_texts_231 ?_
  refine cl_L_110 X (c_L_isFault l E σ3 tS_14 1200 hD3 (by decide) 215724929083 0 0 0 1 ⟨by decide, by decide⟩ ⟨by decide, by decide⟩ ⟨by decide, by decide⟩ tf_52 tf_53) ⟨by omega, by omega⟩ rfl (Nat.le_of_ble_eq_true rfl) dL_texts_232 rfl (fun v4 σ4 p4 => ?_)
  obtain ⟨rfl, hC4, hf4⟩ := p4
  have hD4 : CRep σ4 tS_15 1200 := hC4.tx (texS_keep 215724929083 0 0 tS_14).1 (texS_keep 215724929083 0 0 tS_14).2.1 (texS_keep 215724929083 0 0 tS_14).2.2 tf_54 tf_55
  refine g_neY X (tgt := 240) dL_texts_235 (by decide) ?_
  exact next _ hD4
set_option maxHeartbeats 4000000 in
set_option maxRecDepth 100000 in
theorem tx_5 {l : Launch} {E : wEnv} {K : Mem → Nat → List (Option Value) → List Value → Prop} {σ : Mem} (X : Ctx l E K RL cL_texts 2 7 180) (hC : CRep σ tS_15 1200) (next : ∀ σ', CRep σ' tS_19 1200 → K σ' 300 [some (rv E 0), none] []) : K σ 240 [some (rv E 0), none] [] := by
  have hR : 7 ≤ (7 : Nat) ∧ 180 ≤ (180 : Nat) := ⟨Nat.le_refl _, Nat.le_refl _⟩
  refine g_aload_n X dL_texts_240 rfl ?_
  refine g_ldc2 X (n := 14137748951674939) dL_texts_241 wK_RL_144 (by decide) ?_
  refine g_lconst X (z := 0) rfl dL_texts_244 ?_
  refine g_lconst X (z := 0) rfl dL_texts_245 ?_
  refine g_iconst X dL_texts_246 ?_
  refine g_iconst X dL_texts_247 ?_
  refine cl_L_110 X (c_L_isFault l E σ tS_15 1200 hC (by decide) 14137748951674939 0 0 0 2 ⟨by decide, by decide⟩ ⟨by decide, by decide⟩ ⟨by decide, by decide⟩ tf_56 tf_57) ⟨by omega, by omega⟩ rfl (Nat.le_of_ble_eq_true rfl) dL_texts_248 rfl (fun v1 σ1 p1 => ?_)
  obtain ⟨rfl, hC1, hf1⟩ := p1
  have hD1 : CRep σ1 tS_16 1200 := hC1.tx (texS_keep 14137748951674939 0 0 tS_15).1 (texS_keep 14137748951674939 0 0 tS_15).2.1 (texS_keep 14137748951674939 0 0 tS_15).2.2 tf_58 tf_59
  refine g_eqN X (tgt := 298) dL_texts_251 (by decide) ?_
  refine g_aload_n X dL_texts_254 rfl ?_
  refine g_ldc2 X (n := 3475148543552532786) dL_texts_255 wK_RL_146 (by decide) ?_
  refine g_ldc2 X (n := 13115) dL_texts_258 wK_RL_148 (by decide) ?_
  refine g_lconst X (z := 0) rfl dL_texts_261 ?_
  refine g_iconst X dL_texts_262 ?_
  refine g_iconst X dL_texts_263 ?_
  refine cl_L_110 X (c_L_isFault l E σ1 tS_16 1200 hD1 (by decide) 3475148543552532786 13115 0 0 1 ⟨by decide, by decide⟩ ⟨by decide, by decide⟩ ⟨by decide, by decide⟩ tf_60 tf_61) ⟨by omega, by omega⟩ rfl (Nat.le_of_ble_eq_true rfl) dL_texts_264 rfl (fun v2 σ2 p2 => ?_)
  obtain ⟨rfl, hC2, hf2⟩ := p2
  have hD2 : CRep σ2 tS_17 1200 := hC2.tx (texS_keep 3475148543552532786 13115 0 tS_16).1 (texS_keep 3475148543552532786 13115 0 tS_16).2.1 (texS_keep 3475148543552532786 13115 0 tS_16).2.2 tf_62 tf_63
  refine g_eqN X (tgt := 298) dL_texts_267 (by decide) ?_
  refine g_aload_n X dL_texts_270 rfl ?_
  refine g_ldc2 X (n := 9060225813327931) dL_texts_271 wK_RL_150 (by decide) ?_
  refine g_lconst X (z := 0) rfl dL_texts_274 ?_
  refine g_lconst X (z := 0) rfl dL_texts_275 ?_
  refine g_iconst X dL_texts_276 ?_
  refine g_iconst X dL_texts_277 ?_
  refine cl_L_110 X (c_L_isFault l E σ2 tS_17 1200 hD2 (by decide) 9060225813327931 0 0 0 1 ⟨by decide, by decide⟩ ⟨by decide, by decide⟩ ⟨by decide, by decide⟩ tf_64 tf_65) ⟨by omega, by omega⟩ rfl (Nat.le_of_ble_eq_true rfl) dL_texts_278 rfl (fun v3 σ3 p3 => ?_)
  obtain ⟨rfl, hC3, hf3⟩ := p3
  have hD3 : CRep σ3 tS_18 1200 := hC3.tx (texS_keep 9060225813327931 0 0 tS_17).1 (texS_keep 9060225813327931 0 0 tS_17).2.1 (texS_keep 9060225813327931 0 0 tS_17).2.2 tf_66 tf_67
  refine g_eqN X (tgt := 298) dL_texts_281 (by decide) ?_
  refine g_aload_n X dL_texts_284 rfl ?_
  refine g_lconst X (z := 0) rfl dL_texts_285 ?_
  refine g_lconst X (z := 0) rfl dL_texts_286 ?_
  refine g_lconst X (z := 0) rfl dL_texts_287 ?_
  refine g_bipush X dL_texts_288 (by decide) ?_
  refine g_bipush X dL_texts_290 (by decide) ?_
  refine cl_L_110 X (c_L_isFault l E σ3 tS_18 1200 hD3 (by decide) 0 0 0 (-4) (-4) ⟨by decide, by decide⟩ ⟨by decide, by decide⟩ ⟨by decide, by decide⟩ tf_68 tf_69) ⟨by omega, by omega⟩ rfl (Nat.le_of_ble_eq_true rfl) dL_texts_292 rfl (fun v4 σ4 p4 => ?_)
  obtain ⟨rfl, hC4, hf4⟩ := p4
  have hD4 : CRep σ4 tS_19 1200 := hC4.tx (texS_keep 0 0 0 tS_18).1 (texS_keep 0 0 0 tS_18).2.1 (texS_keep 0 0 0 tS_18).2.2 tf_70 tf_71
  refine g_neY X (tgt := 300) dL_texts_295 (by decide) ?_
  exact next _ hD4
set_option maxHeartbeats 4000000 in
set_option maxRecDepth 100000 in
theorem tx_6 {l : Launch} {E : wEnv} {K : Mem → Nat → List (Option Value) → List Value → Prop} {σ : Mem} (X : Ctx l E K RL cL_texts 2 7 180) (hC : CRep σ tS_19 1200) (next : ∀ σ', CRep σ' tS_23 1200 → K σ' 369 [some (rv E 0), none] []) : K σ 300 [some (rv E 0), none] [] := by
  have hR : 7 ≤ (7 : Nat) ∧ 180 ≤ (180 : Nat) := ⟨Nat.le_refl _, Nat.le_refl _⟩
  refine g_aload_n X dL_texts_300 rfl ?_
  refine g_ldc2 X (n := 13574777607303227) dL_texts_301 wK_RL_152 (by decide) ?_
  refine g_lconst X (z := 0) rfl dL_texts_304 ?_
  refine g_lconst X (z := 0) rfl dL_texts_305 ?_
  refine g_bipush X dL_texts_306 (by decide) ?_
  refine g_bipush X dL_texts_308 (by decide) ?_
  refine cl_L_110 X (c_L_isFault l E σ tS_19 1200 hC (by decide) 13574777607303227 0 0 (-4) (-4) ⟨by decide, by decide⟩ ⟨by decide, by decide⟩ ⟨by decide, by decide⟩ tf_72 tf_73) ⟨by omega, by omega⟩ rfl (Nat.le_of_ble_eq_true rfl) dL_texts_310 rfl (fun v1 σ1 p1 => ?_)
  obtain ⟨rfl, hC1, hf1⟩ := p1
  have hD1 : CRep σ1 tS_20 1200 := hC1.tx (texS_keep 13574777607303227 0 0 tS_19).1 (texS_keep 13574777607303227 0 0 tS_19).2.1 (texS_keep 13574777607303227 0 0 tS_19).2.2 tf_74 tf_75
  refine g_eqN X (tgt := 367) dL_texts_313 (by decide) ?_
  refine g_aload_n X dL_texts_316 rfl ?_
  refine g_ldc2 X (n := 3475148543553646906) dL_texts_317 wK_RL_136 (by decide) ?_
  refine g_ldc2 X (n := 16106991356489787) dL_texts_320 wK_RL_154 (by decide) ?_
  refine g_lconst X (z := 0) rfl dL_texts_323 ?_
  refine g_bipush X dL_texts_324 (by decide) ?_
  refine g_bipush X dL_texts_326 (by decide) ?_
  refine cl_L_110 X (c_L_isFault l E σ1 tS_20 1200 hD1 (by decide) 3475148543553646906 16106991356489787 0 (-4) (-4) ⟨by decide, by decide⟩ ⟨by decide, by decide⟩ ⟨by decide, by decide⟩ tf_76 tf_77) ⟨by omega, by omega⟩ rfl (Nat.le_of_ble_eq_true rfl) dL_texts_328 rfl (fun v2 σ2 p2 => ?_)
  obtain ⟨rfl, hC2, hf2⟩ := p2
  have hD2 : CRep σ2 tS_21 1200 := hC2.tx (texS_keep 3475148543553646906 16106991356489787 0 tS_20).1 (texS_keep 3475148543553646906 16106991356489787 0 tS_20).2.1 (texS_keep 3475148543553646906 16106991356489787 0 tS_20).2.2 tf_78 tf_79
  refine g_eqN X (tgt := 367) dL_texts_331 (by decide) ?_
  refine g_aload_n X dL_texts_334 rfl ?_
  refine g_ldc2 X (n := 3547203938567596592) dL_texts_335 wK_RL_156 (by decide) ?_
  refine g_ldc2 X (n := 3547482157975875643) dL_texts_338 wK_RL_158 (by decide) ?_
  refine g_ldc2 X (n := 55225514733627) dL_texts_341 wK_RL_160 (by decide) ?_
  refine g_bipush X dL_texts_344 (by decide) ?_
  refine g_iconst X dL_texts_346 ?_
  refine cl_L_110 X (c_L_isFault l E σ2 tS_21 1200 hD2 (by decide) 3547203938567596592 3547482157975875643 55225514733627 16 2 ⟨by decide, by decide⟩ ⟨by decide, by decide⟩ ⟨by decide, by decide⟩ tf_80 tf_81) ⟨by omega, by omega⟩ rfl (Nat.le_of_ble_eq_true rfl) dL_texts_347 rfl (fun v3 σ3 p3 => ?_)
  obtain ⟨rfl, hC3, hf3⟩ := p3
  have hD3 : CRep σ3 tS_22 1200 := hC3.tx (texS_keep 3547203938567596592 3547482157975875643 55225514733627 tS_21).1 (texS_keep 3547203938567596592 3547482157975875643 55225514733627 tS_21).2.1 (texS_keep 3547203938567596592 3547482157975875643 55225514733627 tS_21).2.2 tf_82 tf_83
  refine g_eqN X (tgt := 367) dL_texts_350 (by decide) ?_
  refine g_aload_n X dL_texts_353 rfl ?_
  refine g_ldc2 X (n := 53030853554234) dL_texts_354 wK_RL_162 (by decide) ?_
  refine g_lconst X (z := 0) rfl dL_texts_357 ?_
  refine g_lconst X (z := 0) rfl dL_texts_358 ?_
  refine g_iconst X dL_texts_359 ?_
  refine g_iconst X dL_texts_360 ?_
  refine cl_L_110 X (c_L_isFault l E σ3 tS_22 1200 hD3 (by decide) 53030853554234 0 0 0 1 ⟨by decide, by decide⟩ ⟨by decide, by decide⟩ ⟨by decide, by decide⟩ tf_84 tf_85) ⟨by omega, by omega⟩ rfl (Nat.le_of_ble_eq_true rfl) dL_texts_361 rfl (fun v4 σ4 p4 => ?_)
  obtain ⟨rfl, hC4, hf4⟩ := p4
  have hD4 : CRep σ4 tS_23 1200 := hC4.tx (texS_keep 53030853554234 0 0 tS_22).1 (texS_keep 53030853554234 0 0 tS_22).2.1 (texS_keep 53030853554234 0 0 tS_22).2.2 tf_86 tf_87
  refine g_neY X (tgt := 369) dL_texts_364 (by decide) ?_
  exact next _ hD4
set_option maxHeartbeats 4000000 in
set_option maxRecDepth 100000 in
theorem tx_7 {l : Launch} {E : wEnv} {K : Mem → Nat → List (Option Value) → List Value → Prop} {σ : Mem} (X : Ctx l E K RL cL_texts 2 7 180) (hC : CRep σ tS_23 1200) (next : ∀ σ', CRep σ' tS_28 3600 → K σ' 477 [some (rv E 0), none] []) : K σ 369 [some (rv E 0), none] [] := by
  have hR : 7 ≤ (7 : Nat) ∧ 180 ≤ (180 : Nat) := ⟨Nat.le_refl _, Nat.le_refl _⟩
  refine g_aload_n X dL_texts_369 rfl ?_
  refine g_ldc2 X (n := 3475144145506413113) dL_texts_370 wK_RL_164 (by decide) ?_
  refine g_ldc2 X (n := 16661149696143419) dL_texts_373 wK_RL_166 (by decide) ?_
  refine g_lconst X (z := 0) rfl dL_texts_376 ?_
  refine g_bipush X dL_texts_377 (by decide) ?_
  refine g_bipush X dL_texts_379 (by decide) ?_
  refine cl_L_110 X (c_L_isFault l E σ tS_23 1200 hC (by decide) 3475144145506413113 16661149696143419 0 (-4) (-4) ⟨by decide, by decide⟩ ⟨by decide, by decide⟩ ⟨by decide, by decide⟩ tf_88 tf_89) ⟨by omega, by omega⟩ rfl (Nat.le_of_ble_eq_true rfl) dL_texts_381 rfl (fun v1 σ1 p1 => ?_)
  obtain ⟨rfl, hC1, hf1⟩ := p1
  have hD1 : CRep σ1 tS_24 1200 := hC1.tx (texS_keep 3475144145506413113 16661149696143419 0 tS_23).1 (texS_keep 3475144145506413113 16661149696143419 0 tS_23).2.1 (texS_keep 3475144145506413113 16661149696143419 0 tS_23).2.2 tf_90 tf_91
  refine g_eqN X (tgt := 475) dL_texts_384 (by decide) ?_
  refine g_aload_n X dL_texts_387 rfl ?_
  refine L_carry X hR hD1 (by decide) (a := 5) (s' := tS_25)  tf_107 (Nat.le_of_ble_eq_true rfl) dL_texts_388 (fun σ2 hC2 hf2 => ?_)
  have hD2 : CRep σ2 tS_25 1800 := hC2
  refine g_iconst X dL_texts_391 ?_
  refine g_neS X (tgt := 475) dL_texts_392 (by decide) ?_
  refine g_aload_n X dL_texts_395 rfl ?_
  refine g_iconst X dL_texts_396 ?_
  refine g_iconst X dL_texts_397 ?_
  refine R_pileOf X hR hD2 (by decide) (a := 1000) ⟨by decide, by decide⟩ ⟨by decide, by decide⟩ tf_108 (Nat.le_of_ble_eq_true rfl) dL_texts_398 ?_
  refine g_sipush X dL_texts_401 (by decide) ?_
  refine g_neS X (tgt := 475) dL_texts_404 (by decide) ?_
  refine g_aload_n X dL_texts_407 rfl ?_
  refine g_iconst X dL_texts_408 ?_
  refine g_iconst X dL_texts_409 ?_
  refine R_pileOf X hR hD2 (by decide) (a := 4) ⟨by decide, by decide⟩ ⟨by decide, by decide⟩ tf_109 (Nat.le_of_ble_eq_true rfl) dL_texts_410 ?_
  refine g_iconst X dL_texts_413 ?_
  refine g_neS X (tgt := 475) dL_texts_414 (by decide) ?_
  refine g_aload_n X dL_texts_417 rfl ?_
  refine g_iconst X dL_texts_418 ?_
  refine g_iconst X dL_texts_419 ?_
  refine R_pileOf X hR hD2 (by decide) (a := 1) ⟨by decide, by decide⟩ ⟨by decide, by decide⟩ tf_110 (Nat.le_of_ble_eq_true rfl) dL_texts_420 ?_
  refine g_iconst X dL_texts_423 ?_
  refine g_neS X (tgt := 475) dL_texts_424 (by decide) ?_
  refine g_aload_n X dL_texts_427 rfl ?_
  refine g_iconst X dL_texts_428 ?_
  refine R_count X hR hD2 (by decide) (a := 3) ⟨by decide, by decide⟩ tf_111 (Nat.le_of_ble_eq_true rfl) dL_texts_429 ?_
  refine g_ldc2 X (n := 3) dL_texts_432 wK_RL_168 (by decide) ?_
  refine g_lcmpS X dL_texts_435 ?_
  refine g_neN X (tgt := 475) dL_texts_436 (by decide) ?_
  refine g_aload_n X dL_texts_439 rfl ?_
  refine L_carry X hR hD2 (by decide) (a := 1) (s' := tS_26)  tf_119 (Nat.le_of_ble_eq_true rfl) dL_texts_440 (fun σ3 hC3 hf3 => ?_)
  have hD3 : CRep σ3 tS_26 2400 := hC3
  refine g_iconst X dL_texts_443 ?_
  refine g_neS X (tgt := 475) dL_texts_444 (by decide) ?_
  refine g_aload_n X dL_texts_447 rfl ?_
  refine L_clearText X hR hD3 (by decide) (a := 15) (s' := tS_27)  tf_120 (Nat.le_of_ble_eq_true rfl) dL_texts_448 (fun σ4 hC4 hf4 => ?_)
  have hD4 : CRep σ4 tS_27 3000 := hC4
  refine g_bipush X dL_texts_451 (by decide) ?_
  refine g_neS X (tgt := 475) dL_texts_453 (by decide) ?_
  refine g_aload_n X dL_texts_456 rfl ?_
  refine L_carry X hR hD4 (by decide) (a := 0) (s' := tS_28)  tf_122 (Nat.le_of_ble_eq_true rfl) dL_texts_457 (fun σ5 hC5 hf5 => ?_)
  have hD5 : CRep σ5 tS_28 3600 := hC5
  refine g_neN X (tgt := 475) dL_texts_460 (by decide) ?_
  refine g_aload_n X dL_texts_463 rfl ?_
  refine g_iconst X dL_texts_464 ?_
  refine R_count X hR hD5 (by decide) (a := 4) ⟨by decide, by decide⟩ tf_123 (Nat.le_of_ble_eq_true rfl) dL_texts_465 ?_
  refine g_ldc2 X (n := 4) dL_texts_468 wK_RL_25 (by decide) ?_
  refine g_lcmpS X dL_texts_471 ?_
  refine g_eqY X (tgt := 477) dL_texts_472 (by decide) ?_
  exact next _ hD5
set_option maxHeartbeats 4000000 in
set_option maxRecDepth 100000 in
theorem tx_loop {l : Launch} {E : wEnv} {K : Mem → Nat → List (Option Value) → List Value → Prop} (X : Ctx l E K RL cL_texts 2 7 180) (next : ∀ σ', CRep σ' (tK 80) 3600 → K σ' 503 [some (rv E 0), some (iv 81)] []) : ∀ (n k : Nat), k + n = 80 → ∀ σ, CRep σ (tK k) 3600 → K σ 479 [some (rv E 0), some (iv ((k : Int) + 1))] [] := by
  have hR : 7 ≤ (7 : Nat) ∧ 180 ≤ (180 : Nat) := ⟨Nat.le_refl _, Nat.le_refl _⟩
  intro n
  induction n with
  | zero =>
    intro k hk σ hC
    obtain rfl : k = 80 := by omega
    refine g_iload_n X dL_texts_479 rfl ?_
    refine g_bipush X dL_texts_480 (by decide) ?_
    refine g_icmp_gt X (tgt := 503) dL_texts_482 (by decide) ⟨by decide, by decide⟩ ⟨by decide, by decide⟩ (fun _ => ?_) (fun c => absurd c (by decide))
    exact next σ hC
  | succ n ih =>
    intro k hk σ hC
    refine g_iload_n X dL_texts_479 rfl ?_
    refine g_bipush X dL_texts_480 (by decide) ?_
    refine g_icmp_gt X (tgt := 503) dL_texts_482 (by decide) ⟨by omega, by omega⟩ ⟨by decide, by decide⟩ (fun c => absurd c (by omega)) (fun _ => ?_)
    refine g_aload_n X dL_texts_485 rfl ?_
    refine g_bipush X dL_texts_486 (by decide) ?_
    refine L_type X hR hC (by decide) ⟨by decide, by decide⟩ (tK_t (by omega)) (Nat.le_of_ble_eq_true rfl) dL_texts_488 (fun σ1 hC1 hf1 => ?_)
    have hD1 : CRep σ1 (tK (k + 1)) 3600 := hC.as (hC1.tx rfl rfl rfl rfl (fun j _ => by show (if j = k then (48 : Int) else 48) = 48; split <;> rfl)) rfl rfl rfl
    have e1 : (((k + 1 : Nat)) : Int) = (k : Int) + 1 := by omega
    rw [e1]
    refine g_iload_n X dL_texts_491 rfl ?_
    refine g_eqS X (tgt := 497) dL_texts_492 (by decide) ?_
    refine g_iinc X (lw := [some (rv E 0), some (iv ((k : Int) + 1 + 1))]) dL_texts_497 rfl (by decide) rfl rfl ?_
    refine g_goto X (tgt := 479) dL_texts_500 (by decide) ?_
    have h := ih (k + 1) (by omega) σ1 hD1
    rw [e1] at h
    exact h
set_option maxHeartbeats 4000000 in
set_option maxRecDepth 100000 in
theorem tx_last {l : Launch} {E : wEnv} {K : Mem → Nat → List (Option Value) → List Value → Prop} {σ : Mem} (X : Ctx l E K RL cL_texts 2 7 180) (hC : CRep σ (tK 80) 3600) (next : ∀ σ' lv, K σ' 556 lv [iv 1]) : K σ 503 [some (rv E 0), some (iv 81)] [] := by
  have hR : 7 ≤ (7 : Nat) ∧ 180 ≤ (180 : Nat) := ⟨Nat.le_refl _, Nat.le_refl _⟩
  refine g_aload_n X dL_texts_503 rfl ?_
  refine g_bipush X dL_texts_504 (by decide) ?_
  refine N_type X hR hC (by decide) (a := -3) ⟨by decide, by decide⟩ tK_80 (Nat.le_of_ble_eq_true rfl) dL_texts_506 (fun σ1 hC1 hf1 => ?_)
  refine g_bipush X dL_texts_509 (by decide) ?_
  refine g_neS X (tgt := 555) dL_texts_511 (by decide) ?_
  refine g_aload_n X dL_texts_514 rfl ?_
  refine g_bipush X dL_texts_515 (by decide) ?_
  refine N_type X hR hC1 (by decide) (a := -1) ⟨by decide, by decide⟩ tK_31 (Nat.le_of_ble_eq_true rfl) dL_texts_517 (fun σ2 hC2 hf2 => ?_)
  refine g_iconst X dL_texts_520 ?_
  refine g_neS X (tgt := 555) dL_texts_521 (by decide) ?_
  refine g_aload_n X dL_texts_524 rfl ?_
  refine g_iconst X dL_texts_525 ?_
  refine R_fault X hR hC2 (by decide) (a := 1) ⟨by decide, by decide⟩ tK_f (Nat.le_of_ble_eq_true rfl) dL_texts_526 (fun σ3 hC3 hf3 => ?_)
  refine g_iconst X dL_texts_529 ?_
  refine g_neS X (tgt := 555) dL_texts_530 (by decide) ?_
  refine g_aload_n X dL_texts_533 rfl ?_
  refine N_carry X hR hC3 (by decide) (a := -2)  tK_c (Nat.le_of_ble_eq_true rfl) dL_texts_534 (fun σ4 hC4 hf4 => ?_)
  refine g_bipush X dL_texts_537 (by decide) ?_
  refine g_neS X (tgt := 555) dL_texts_539 (by decide) ?_
  refine g_aload_n X dL_texts_542 rfl ?_
  refine L_clearText X hR hC4 (by decide) (a := 80) (s' := (tS_28.1, tS_28.2.1, tS_28.2.2.1, 0, fun _ => 48))  tK_x (Nat.le_of_ble_eq_true rfl) dL_texts_543 (fun σ5 hC5 hf5 => ?_)
  refine g_bipush X dL_texts_546 (by decide) ?_
  refine g_neS X (tgt := 555) dL_texts_548 (by decide) ?_
  refine g_iconst X dL_texts_551 ?_
  refine g_goto X (tgt := 556) dL_texts_552 (by decide) ?_
  exact next _ _
theorem tx_all {l : Launch} {E : wEnv} {K : Mem → Nat → List (Option Value) → List Value → Prop} {σ : Mem} (X : Ctx l E K RL cL_texts 2 7 180) (hC : CRep σ tS_0 0) (next : ∀ σ' lv, K σ' 556 lv [iv 1]) : K σ 8 [some (rv E 0), none] [] := by
  refine tx_1 X hC (fun σ1 hC1 => ?_)
  refine tx_2 X hC1 (fun σ2 hC2 => ?_)
  refine tx_3 X hC2 (fun σ3 hC3 => ?_)
  refine tx_4 X hC3 (fun σ4 hC4 => ?_)
  refine tx_5 X hC4 (fun σ5 hC5 => ?_)
  refine tx_6 X hC5 (fun σ6 hC6 => ?_)
  refine tx_7 X hC6 (fun σ7 hC7 => ?_)
  refine g_iconst X dL_texts_477 ?_
  refine g_istore_n X (lw := [some (rv E 0), some (iv 1)]) dL_texts_478 (by decide) rfl rfl ?_
  have h0 : CRep σ7 (tK 0) 3600 := hC7.tx rfl rfl rfl (by decide +kernel) (fun j hj => absurd hj (Nat.not_lt_zero j))
  exact tx_loop X (fun σ' h => tx_last X h next) 80 0 rfl σ7 h0
