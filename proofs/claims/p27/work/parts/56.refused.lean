/-! ===== arguments out of their range, walked ===== -/
set_option maxHeartbeats 4000000 in
set_option maxRecDepth 100000 in
theorem rf_1 {l : Launch} {E : wEnv} {K : Mem → Nat → List (Option Value) → List Value → Prop} {σ : Mem} {s : St} {N : Int} (X : Ctx l E K RL cL_refused 7 7 180) (hC : CRep σ s N) (hN : N + 600 ≤ 400000) (hS : SInv s) {W : Int} {x5 x6 : Option Value} (next : ∀ σ', CRep σ' s N → frM σ σ' → K σ' 174 [some (rv E 0), some (jv W), none, some (iv (s.1 0)), some (iv (s.1 19)), x5, x6] []) : K σ 36 [some (rv E 0), some (jv W), none, some (iv (s.1 0)), some (iv (s.1 19)), x5, x6] [] := by
  have hR : 7 ≤ (7 : Nat) ∧ 180 ≤ (180 : Nat) := ⟨Nat.le_refl _, Nat.le_refl _⟩
  have r0 := hC.2.1.1
  have r19 := hC.2.1.2.2.2.2.1
  refine g_aload_n X dL_refused_36 rfl ?_
  refine g_iload_n X dL_refused_37 rfl ?_
  refine g_iconst X dL_refused_38 ?_
  refine g_iadd X dL_refused_39 ?_
  refine g_bipush X dL_refused_40 (by decide) ?_
  refine g_iconst X dL_refused_42 ?_
  refine N_stratum X hR hC hN (a := -1) ⟨by omega, by omega⟩ ⟨by decide, by decide⟩ ⟨by decide, by decide⟩ (by unfold stratumX; first | exact if_neg (by decide) | exact if_neg (by omega)) (Nat.le_of_ble_eq_true rfl) dL_refused_43 (fun σ1 hC1 hf1 => ?_)
  refine g_iconst X dL_refused_46 ?_
  refine g_neS X (tgt := 172) dL_refused_47 (by decide) ?_
  refine g_aload_n X dL_refused_50 rfl ?_
  refine g_iconst X dL_refused_51 ?_
  refine g_bipush X dL_refused_52 (by decide) ?_
  refine g_iconst X dL_refused_54 ?_
  refine N_stratum X hR hC1 hN (a := -1) ⟨by decide, by decide⟩ ⟨by decide, by decide⟩ ⟨by decide, by decide⟩ (by unfold stratumX; first | exact if_neg (by decide) | exact if_neg (by omega)) (Nat.le_of_ble_eq_true rfl) dL_refused_55 (fun σ2 hC2 hf2 => ?_)
  refine g_iconst X dL_refused_58 ?_
  refine g_neS X (tgt := 172) dL_refused_59 (by decide) ?_
  refine g_aload_n X dL_refused_62 rfl ?_
  refine g_iconst X dL_refused_63 ?_
  refine g_bipush X dL_refused_64 (by decide) ?_
  refine g_iconst X dL_refused_66 ?_
  refine N_stratum X hR hC2 hN (a := -1) ⟨by decide, by decide⟩ ⟨by decide, by decide⟩ ⟨by decide, by decide⟩ (by unfold stratumX; first | exact if_neg (by decide) | exact if_neg (by omega)) (Nat.le_of_ble_eq_true rfl) dL_refused_67 (fun σ3 hC3 hf3 => ?_)
  refine g_iconst X dL_refused_70 ?_
  refine g_neS X (tgt := 172) dL_refused_71 (by decide) ?_
  refine g_aload_n X dL_refused_74 rfl ?_
  refine g_iload_n X dL_refused_75 rfl ?_
  refine g_sipush X dL_refused_76 (by decide) ?_
  refine g_iconst X dL_refused_79 ?_
  refine N_stratum X hR hC3 hN (a := -1) ⟨by omega, by omega⟩ ⟨by decide, by decide⟩ ⟨by decide, by decide⟩ (by unfold stratumX; first | exact if_neg (by decide) | exact if_neg (by omega)) (Nat.le_of_ble_eq_true rfl) dL_refused_80 (fun σ4 hC4 hf4 => ?_)
  refine g_iconst X dL_refused_83 ?_
  refine g_neS X (tgt := 172) dL_refused_84 (by decide) ?_
  refine g_aload_n X dL_refused_87 rfl ?_
  refine g_iconst X dL_refused_88 ?_
  refine g_bipush X dL_refused_89 (by decide) ?_
  refine g_iconst X dL_refused_91 ?_
  refine N_stratum X hR hC4 hN (a := -1) ⟨by decide, by decide⟩ ⟨by decide, by decide⟩ ⟨by decide, by decide⟩ (by unfold stratumX; first | exact if_neg (by decide) | exact if_neg (by omega)) (Nat.le_of_ble_eq_true rfl) dL_refused_92 (fun σ5 hC5 hf5 => ?_)
  refine g_iconst X dL_refused_95 ?_
  refine g_neS X (tgt := 172) dL_refused_96 (by decide) ?_
  refine g_aload_n X dL_refused_99 rfl ?_
  refine g_iload_n X dL_refused_100 rfl ?_
  refine g_bipush X dL_refused_101 (by decide) ?_
  refine g_sipush X dL_refused_103 (by decide) ?_
  refine N_stratum X hR hC5 hN (a := -1) ⟨by omega, by omega⟩ ⟨by decide, by decide⟩ ⟨by decide, by decide⟩ (by unfold stratumX; first | exact if_neg (by decide) | exact if_neg (by omega)) (Nat.le_of_ble_eq_true rfl) dL_refused_106 (fun σ6 hC6 hf6 => ?_)
  refine g_iconst X dL_refused_109 ?_
  refine g_neS X (tgt := 172) dL_refused_110 (by decide) ?_
  refine g_aload_n X dL_refused_113 rfl ?_
  refine g_iload_n X dL_refused_114 rfl ?_
  refine g_iconst X dL_refused_115 ?_
  refine R_ground X hR hC6 hN (a := -1) ⟨by omega, by omega⟩ ⟨by decide, by decide⟩ (by unfold groundX; first | exact if_neg (by decide) | exact if_neg (by omega)) (Nat.le_of_ble_eq_true rfl) dL_refused_116 ?_
  refine g_iconst X dL_refused_119 ?_
  refine g_neS X (tgt := 172) dL_refused_120 (by decide) ?_
  refine g_aload_n X dL_refused_123 rfl ?_
  refine g_iconst X dL_refused_124 ?_
  refine g_iconst X dL_refused_125 ?_
  refine R_ground X hR hC6 hN (a := -1) ⟨by decide, by decide⟩ ⟨by decide, by decide⟩ (by unfold groundX; first | exact if_neg (by decide) | exact if_neg (by omega)) (Nat.le_of_ble_eq_true rfl) dL_refused_126 ?_
  refine g_iconst X dL_refused_129 ?_
  refine g_neS X (tgt := 172) dL_refused_130 (by decide) ?_
  refine g_aload_n X dL_refused_133 rfl ?_
  refine g_iconst X dL_refused_134 ?_
  refine g_iconst X dL_refused_135 ?_
  refine R_ground X hR hC6 hN (a := -1) ⟨by decide, by decide⟩ ⟨by decide, by decide⟩ (by unfold groundX; first | exact if_neg (by decide) | exact if_neg (by omega)) (Nat.le_of_ble_eq_true rfl) dL_refused_136 ?_
  refine g_iconst X dL_refused_139 ?_
  refine g_neS X (tgt := 172) dL_refused_140 (by decide) ?_
  refine g_aload_n X dL_refused_143 rfl ?_
  refine g_iconst X dL_refused_144 ?_
  refine g_iconst X dL_refused_145 ?_
  refine R_ground X hR hC6 hN (a := -1) ⟨by decide, by decide⟩ ⟨by decide, by decide⟩ (by unfold groundX; first | exact if_neg (by decide) | exact if_neg (by omega)) (Nat.le_of_ble_eq_true rfl) dL_refused_146 ?_
  refine g_iconst X dL_refused_149 ?_
  refine g_neS X (tgt := 172) dL_refused_150 (by decide) ?_
  refine g_aload_n X dL_refused_153 rfl ?_
  refine g_iconst X dL_refused_154 ?_
  refine R_at X hR hC6 hN (a := -1) ⟨by decide, by decide⟩ (by unfold atX; first | exact if_neg (by decide) | exact if_neg (by omega)) (Nat.le_of_ble_eq_true rfl) dL_refused_155 ?_
  refine g_iconst X dL_refused_158 ?_
  refine g_neS X (tgt := 172) dL_refused_159 (by decide) ?_
  refine g_aload_n X dL_refused_162 rfl ?_
  refine g_ldc X (n := 200001) dL_refused_163 wK_RL_52 (by decide) ?_
  refine R_at X hR hC6 hN (a := -1) ⟨by decide, by decide⟩ (by unfold atX; first | exact if_neg (by decide) | exact if_neg (by omega)) (Nat.le_of_ble_eq_true rfl) dL_refused_165 ?_
  refine g_iconst X dL_refused_168 ?_
  refine g_eqS X (tgt := 174) dL_refused_169 (by decide) ?_
  exact next _ hC6 (((((hf1.trans hf2).trans hf3).trans hf4).trans hf5).trans hf6)
set_option maxHeartbeats 4000000 in
set_option maxRecDepth 100000 in
theorem rf_2 {l : Launch} {E : wEnv} {K : Mem → Nat → List (Option Value) → List Value → Prop} {σ : Mem} {s : St} {N : Int} (X : Ctx l E K RL cL_refused 7 7 180) (hC : CRep σ s N) (hN : N + 600 ≤ 400000) (hS : SInv s) {W : Int} {x5 x6 : Option Value} (next : ∀ σ', CRep σ' s N → frM σ σ' → K σ' 331 [some (rv E 0), some (jv W), none, some (iv (s.1 0)), some (iv (s.1 19)), x5, x6] []) : K σ 174 [some (rv E 0), some (jv W), none, some (iv (s.1 0)), some (iv (s.1 19)), x5, x6] [] := by
  have hR : 7 ≤ (7 : Nat) ∧ 180 ≤ (180 : Nat) := ⟨Nat.le_refl _, Nat.le_refl _⟩
  have r0 := hC.2.1.1
  have r19 := hC.2.1.2.2.2.2.1
  refine g_aload_n X dL_refused_174 rfl ?_
  refine g_iconst X dL_refused_175 ?_
  refine g_bipush X dL_refused_176 (by decide) ?_
  refine N_set X hR hC hN (a := -1) ⟨by decide, by decide⟩ ⟨by decide, by decide⟩ (by unfold setX; first | exact if_neg (by decide) | exact if_neg (by omega)) (Nat.le_of_ble_eq_true rfl) dL_refused_178 (fun σ1 hC1 hf1 => ?_)
  refine g_iconst X dL_refused_181 ?_
  refine g_neS X (tgt := 329) dL_refused_182 (by decide) ?_
  refine g_aload_n X dL_refused_185 rfl ?_
  refine g_bipush X dL_refused_186 (by decide) ?_
  refine g_bipush X dL_refused_188 (by decide) ?_
  refine N_set X hR hC1 hN (a := -1) ⟨by decide, by decide⟩ ⟨by decide, by decide⟩ (by unfold setX; first | exact if_neg (by decide) | exact if_neg (by omega)) (Nat.le_of_ble_eq_true rfl) dL_refused_190 (fun σ2 hC2 hf2 => ?_)
  refine g_iconst X dL_refused_193 ?_
  refine g_neS X (tgt := 329) dL_refused_194 (by decide) ?_
  refine g_aload_n X dL_refused_197 rfl ?_
  refine g_iconst X dL_refused_198 ?_
  refine g_bipush X dL_refused_199 (by decide) ?_
  refine N_set X hR hC2 hN (a := -1) ⟨by decide, by decide⟩ ⟨by decide, by decide⟩ (by unfold setX; first | exact if_neg (by decide) | exact if_neg (by omega)) (Nat.le_of_ble_eq_true rfl) dL_refused_201 (fun σ3 hC3 hf3 => ?_)
  refine g_iconst X dL_refused_204 ?_
  refine g_neS X (tgt := 329) dL_refused_205 (by decide) ?_
  refine g_aload_n X dL_refused_208 rfl ?_
  refine g_iconst X dL_refused_209 ?_
  refine g_sipush X dL_refused_210 (by decide) ?_
  refine N_set X hR hC3 hN (a := -1) ⟨by decide, by decide⟩ ⟨by decide, by decide⟩ (by unfold setX; first | exact if_neg (by decide) | exact if_neg (by omega)) (Nat.le_of_ble_eq_true rfl) dL_refused_213 (fun σ4 hC4 hf4 => ?_)
  refine g_iconst X dL_refused_216 ?_
  refine g_neS X (tgt := 329) dL_refused_217 (by decide) ?_
  refine g_aload_n X dL_refused_220 rfl ?_
  refine g_iconst X dL_refused_221 ?_
  refine g_bipush X dL_refused_222 (by decide) ?_
  refine N_set X hR hC4 hN (a := -1) ⟨by decide, by decide⟩ ⟨by decide, by decide⟩ (by unfold setX; first | exact if_neg (by decide) | exact if_neg (by omega)) (Nat.le_of_ble_eq_true rfl) dL_refused_224 (fun σ5 hC5 hf5 => ?_)
  refine g_iconst X dL_refused_227 ?_
  refine g_neS X (tgt := 329) dL_refused_228 (by decide) ?_
  refine g_aload_n X dL_refused_231 rfl ?_
  refine g_iconst X dL_refused_232 ?_
  refine g_bipush X dL_refused_233 (by decide) ?_
  refine N_set X hR hC5 hN (a := -1) ⟨by decide, by decide⟩ ⟨by decide, by decide⟩ (by unfold setX; first | exact if_neg (by decide) | exact if_neg (by omega)) (Nat.le_of_ble_eq_true rfl) dL_refused_235 (fun σ6 hC6 hf6 => ?_)
  refine g_iconst X dL_refused_238 ?_
  refine g_neS X (tgt := 329) dL_refused_239 (by decide) ?_
  refine g_aload_n X dL_refused_242 rfl ?_
  refine g_iconst X dL_refused_243 ?_
  refine g_bipush X dL_refused_244 (by decide) ?_
  refine N_set X hR hC6 hN (a := -1) ⟨by decide, by decide⟩ ⟨by decide, by decide⟩ (by unfold setX; first | exact if_neg (by decide) | exact if_neg (by omega)) (Nat.le_of_ble_eq_true rfl) dL_refused_246 (fun σ7 hC7 hf7 => ?_)
  refine g_iconst X dL_refused_249 ?_
  refine g_neS X (tgt := 329) dL_refused_250 (by decide) ?_
  refine g_aload_n X dL_refused_253 rfl ?_
  refine g_iconst X dL_refused_254 ?_
  refine g_iconst X dL_refused_255 ?_
  refine N_set X hR hC7 hN (a := -1) ⟨by decide, by decide⟩ ⟨by decide, by decide⟩ (by unfold setX; first | exact if_neg (by decide) | exact if_neg (by omega)) (Nat.le_of_ble_eq_true rfl) dL_refused_256 (fun σ8 hC8 hf8 => ?_)
  refine g_iconst X dL_refused_259 ?_
  refine g_neS X (tgt := 329) dL_refused_260 (by decide) ?_
  refine g_aload_n X dL_refused_263 rfl ?_
  refine g_iconst X dL_refused_264 ?_
  refine g_bipush X dL_refused_265 (by decide) ?_
  refine N_set X hR hC8 hN (a := -1) ⟨by decide, by decide⟩ ⟨by decide, by decide⟩ (by unfold setX; first | exact if_neg (by decide) | exact if_neg (by omega)) (Nat.le_of_ble_eq_true rfl) dL_refused_267 (fun σ9 hC9 hf9 => ?_)
  refine g_iconst X dL_refused_270 ?_
  refine g_neS X (tgt := 329) dL_refused_271 (by decide) ?_
  refine g_aload_n X dL_refused_274 rfl ?_
  refine g_iconst X dL_refused_275 ?_
  refine g_sipush X dL_refused_276 (by decide) ?_
  refine N_set X hR hC9 hN (a := -1) ⟨by decide, by decide⟩ ⟨by decide, by decide⟩ (by unfold setX; first | exact if_neg (by decide) | exact if_neg (by omega)) (Nat.le_of_ble_eq_true rfl) dL_refused_279 (fun σ10 hC10 hf10 => ?_)
  refine g_iconst X dL_refused_282 ?_
  refine g_neS X (tgt := 329) dL_refused_283 (by decide) ?_
  refine g_aload_n X dL_refused_286 rfl ?_
  refine g_iconst X dL_refused_287 ?_
  refine g_sipush X dL_refused_288 (by decide) ?_
  refine N_set X hR hC10 hN (a := -1) ⟨by decide, by decide⟩ ⟨by decide, by decide⟩ (by unfold setX; first | exact if_neg (by decide) | exact if_neg (by omega)) (Nat.le_of_ble_eq_true rfl) dL_refused_291 (fun σ11 hC11 hf11 => ?_)
  refine g_iconst X dL_refused_294 ?_
  refine g_neS X (tgt := 329) dL_refused_295 (by decide) ?_
  refine g_aload_n X dL_refused_298 rfl ?_
  refine g_iconst X dL_refused_299 ?_
  refine g_iconst X dL_refused_300 ?_
  refine N_set X hR hC11 hN (a := -1) ⟨by decide, by decide⟩ ⟨by decide, by decide⟩ (by unfold setX; first | exact if_neg (by decide) | exact if_neg (by omega)) (Nat.le_of_ble_eq_true rfl) dL_refused_301 (fun σ12 hC12 hf12 => ?_)
  refine g_iconst X dL_refused_304 ?_
  refine g_neS X (tgt := 329) dL_refused_305 (by decide) ?_
  refine g_aload_n X dL_refused_308 rfl ?_
  refine g_iconst X dL_refused_309 ?_
  refine g_bipush X dL_refused_310 (by decide) ?_
  refine N_set X hR hC12 hN (a := -1) ⟨by decide, by decide⟩ ⟨by decide, by decide⟩ (by unfold setX; first | exact if_neg (by decide) | exact if_neg (by omega)) (Nat.le_of_ble_eq_true rfl) dL_refused_312 (fun σ13 hC13 hf13 => ?_)
  refine g_iconst X dL_refused_315 ?_
  refine g_neS X (tgt := 329) dL_refused_316 (by decide) ?_
  refine g_aload_n X dL_refused_319 rfl ?_
  refine g_iconst X dL_refused_320 ?_
  refine g_iconst X dL_refused_321 ?_
  refine N_set X hR hC13 hN (a := -1) ⟨by decide, by decide⟩ ⟨by decide, by decide⟩ (by unfold setX; first | exact if_neg (by decide) | exact if_neg (by omega)) (Nat.le_of_ble_eq_true rfl) dL_refused_322 (fun σ14 hC14 hf14 => ?_)
  refine g_iconst X dL_refused_325 ?_
  refine g_eqS X (tgt := 331) dL_refused_326 (by decide) ?_
  exact next _ hC14 (((((((((((((hf1.trans hf2).trans hf3).trans hf4).trans hf5).trans hf6).trans hf7).trans hf8).trans hf9).trans hf10).trans hf11).trans hf12).trans hf13).trans hf14)
set_option maxHeartbeats 4000000 in
set_option maxRecDepth 100000 in
theorem rf_3 {l : Launch} {E : wEnv} {K : Mem → Nat → List (Option Value) → List Value → Prop} {σ : Mem} {s : St} {N : Int} (X : Ctx l E K RL cL_refused 7 7 180) (hC : CRep σ s N) (hN : N + 600 ≤ 400000) (hS : SInv s) {W : Int} {x5 x6 : Option Value} (next : ∀ σ', CRep σ' s N → frM σ σ' → K σ' 503 [some (rv E 0), some (jv W), none, some (iv (s.1 0)), some (iv (s.1 19)), x5, x6] []) : K σ 331 [some (rv E 0), some (jv W), none, some (iv (s.1 0)), some (iv (s.1 19)), x5, x6] [] := by
  have hR : 7 ≤ (7 : Nat) ∧ 180 ≤ (180 : Nat) := ⟨Nat.le_refl _, Nat.le_refl _⟩
  have r0 := hC.2.1.1
  have r19 := hC.2.1.2.2.2.2.1
  refine g_aload_n X dL_refused_331 rfl ?_
  refine g_iconst X dL_refused_332 ?_
  refine R_count X hR hC hN (a := -1) ⟨by decide, by decide⟩ rfl (Nat.le_of_ble_eq_true rfl) dL_refused_333 ?_
  refine g_ldc2 X (n := -1) dL_refused_336 wK_RL_56 (by decide) ?_
  refine g_lcmpS X dL_refused_339 ?_
  refine g_neN X (tgt := 501) dL_refused_340 (by decide) ?_
  refine g_aload_n X dL_refused_343 rfl ?_
  refine g_bipush X dL_refused_344 (by decide) ?_
  refine R_count X hR hC hN (a := -1) ⟨by decide, by decide⟩ rfl (Nat.le_of_ble_eq_true rfl) dL_refused_346 ?_
  refine g_ldc2 X (n := -1) dL_refused_349 wK_RL_56 (by decide) ?_
  refine g_lcmpS X dL_refused_352 ?_
  refine g_neN X (tgt := 501) dL_refused_353 (by decide) ?_
  refine g_aload_n X dL_refused_356 rfl ?_
  refine g_bipush X dL_refused_357 (by decide) ?_
  refine R_count X hR hC hN (a := -1) ⟨by decide, by decide⟩ rfl (Nat.le_of_ble_eq_true rfl) dL_refused_359 ?_
  refine g_ldc2 X (n := -1) dL_refused_362 wK_RL_56 (by decide) ?_
  refine g_lcmpS X dL_refused_365 ?_
  refine g_neN X (tgt := 501) dL_refused_366 (by decide) ?_
  refine g_aload_n X dL_refused_369 rfl ?_
  refine g_bipush X dL_refused_370 (by decide) ?_
  refine R_count X hR hC hN (a := -1) ⟨by decide, by decide⟩ rfl (Nat.le_of_ble_eq_true rfl) dL_refused_372 ?_
  refine g_ldc2 X (n := -1) dL_refused_375 wK_RL_56 (by decide) ?_
  refine g_lcmpS X dL_refused_378 ?_
  refine g_neN X (tgt := 501) dL_refused_379 (by decide) ?_
  refine g_aload_n X dL_refused_382 rfl ?_
  refine g_bipush X dL_refused_383 (by decide) ?_
  refine R_count X hR hC hN (a := -1) ⟨by decide, by decide⟩ rfl (Nat.le_of_ble_eq_true rfl) dL_refused_385 ?_
  refine g_ldc2 X (n := -1) dL_refused_388 wK_RL_56 (by decide) ?_
  refine g_lcmpS X dL_refused_391 ?_
  refine g_neN X (tgt := 501) dL_refused_392 (by decide) ?_
  refine g_aload_n X dL_refused_395 rfl ?_
  refine g_iconst X dL_refused_396 ?_
  refine g_iconst X dL_refused_397 ?_
  refine g_sipush X dL_refused_398 (by decide) ?_
  refine N_pile X hR hC hN (a := -1) ⟨by decide, by decide⟩ ⟨by decide, by decide⟩ ⟨by decide, by decide⟩ (by unfold pileX; first | exact if_neg (by decide) | exact if_neg (by omega)) (Nat.le_of_ble_eq_true rfl) dL_refused_401 (fun σ1 hC1 hf1 => ?_)
  refine g_iconst X dL_refused_404 ?_
  refine g_neS X (tgt := 501) dL_refused_405 (by decide) ?_
  refine g_aload_n X dL_refused_408 rfl ?_
  refine g_sipush X dL_refused_409 (by decide) ?_
  refine g_iconst X dL_refused_412 ?_
  refine g_sipush X dL_refused_413 (by decide) ?_
  refine N_pile X hR hC1 hN (a := -1) ⟨by decide, by decide⟩ ⟨by decide, by decide⟩ ⟨by decide, by decide⟩ (by unfold pileX; first | exact if_neg (by decide) | exact if_neg (by omega)) (Nat.le_of_ble_eq_true rfl) dL_refused_416 (fun σ2 hC2 hf2 => ?_)
  refine g_iconst X dL_refused_419 ?_
  refine g_neS X (tgt := 501) dL_refused_420 (by decide) ?_
  refine g_aload_n X dL_refused_423 rfl ?_
  refine g_iconst X dL_refused_424 ?_
  refine g_sipush X dL_refused_425 (by decide) ?_
  refine g_sipush X dL_refused_428 (by decide) ?_
  refine N_pile X hR hC2 hN (a := -1) ⟨by decide, by decide⟩ ⟨by decide, by decide⟩ ⟨by decide, by decide⟩ (by unfold pileX; first | exact if_neg (by decide) | exact if_neg (by omega)) (Nat.le_of_ble_eq_true rfl) dL_refused_431 (fun σ3 hC3 hf3 => ?_)
  refine g_iconst X dL_refused_434 ?_
  refine g_neS X (tgt := 501) dL_refused_435 (by decide) ?_
  refine g_aload_n X dL_refused_438 rfl ?_
  refine g_iconst X dL_refused_439 ?_
  refine g_iconst X dL_refused_440 ?_
  refine g_sipush X dL_refused_441 (by decide) ?_
  refine N_pile X hR hC3 hN (a := -1) ⟨by decide, by decide⟩ ⟨by decide, by decide⟩ ⟨by decide, by decide⟩ (by unfold pileX; first | exact if_neg (by decide) | exact if_neg (by omega)) (Nat.le_of_ble_eq_true rfl) dL_refused_444 (fun σ4 hC4 hf4 => ?_)
  refine g_iconst X dL_refused_447 ?_
  refine g_neS X (tgt := 501) dL_refused_448 (by decide) ?_
  refine g_aload_n X dL_refused_451 rfl ?_
  refine g_iconst X dL_refused_452 ?_
  refine g_iconst X dL_refused_453 ?_
  refine g_ldc X (n := 50001) dL_refused_454 wK_RL_61 (by decide) ?_
  refine N_pile X hR hC4 hN (a := -1) ⟨by decide, by decide⟩ ⟨by decide, by decide⟩ ⟨by decide, by decide⟩ (by unfold pileX; first | exact if_neg (by decide) | exact if_neg (by omega)) (Nat.le_of_ble_eq_true rfl) dL_refused_456 (fun σ5 hC5 hf5 => ?_)
  refine g_iconst X dL_refused_459 ?_
  refine g_neS X (tgt := 501) dL_refused_460 (by decide) ?_
  refine g_aload_n X dL_refused_463 rfl ?_
  refine g_bipush X dL_refused_464 (by decide) ?_
  refine N_type X hR hC5 hN (a := -1) ⟨by decide, by decide⟩ (by unfold typeX; first | exact if_neg (by decide) | exact if_neg (by omega)) (Nat.le_of_ble_eq_true rfl) dL_refused_466 (fun σ6 hC6 hf6 => ?_)
  refine g_iconst X dL_refused_469 ?_
  refine g_neS X (tgt := 501) dL_refused_470 (by decide) ?_
  refine g_aload_n X dL_refused_473 rfl ?_
  refine g_bipush X dL_refused_474 (by decide) ?_
  refine N_type X hR hC6 hN (a := -1) ⟨by decide, by decide⟩ (by unfold typeX; first | exact if_neg (by decide) | exact if_neg (by omega)) (Nat.le_of_ble_eq_true rfl) dL_refused_476 (fun σ7 hC7 hf7 => ?_)
  refine g_iconst X dL_refused_479 ?_
  refine g_neS X (tgt := 501) dL_refused_480 (by decide) ?_
  refine g_aload_n X dL_refused_483 rfl ?_
  refine g_iconst X dL_refused_484 ?_
  refine R_fault X hR hC7 hN (a := -1) ⟨by decide, by decide⟩ (by unfold faultX; first | exact if_neg (by decide) | exact if_neg (by omega)) (Nat.le_of_ble_eq_true rfl) dL_refused_485 (fun σ8 hC8 hf8 => ?_)
  refine g_iconst X dL_refused_488 ?_
  refine g_neS X (tgt := 501) dL_refused_489 (by decide) ?_
  refine g_aload_n X dL_refused_492 rfl ?_
  refine g_iconst X dL_refused_493 ?_
  refine R_fault X hR hC8 hN (a := -1) ⟨by decide, by decide⟩ (by unfold faultX; first | exact if_neg (by decide) | exact if_neg (by omega)) (Nat.le_of_ble_eq_true rfl) dL_refused_494 (fun σ9 hC9 hf9 => ?_)
  refine g_iconst X dL_refused_497 ?_
  refine g_eqS X (tgt := 503) dL_refused_498 (by decide) ?_
  exact next _ hC9 ((((((((hf1.trans hf2).trans hf3).trans hf4).trans hf5).trans hf6).trans hf7).trans hf8).trans hf9)
set_option maxHeartbeats 4000000 in
set_option maxRecDepth 100000 in
theorem rf_4 {l : Launch} {E : wEnv} {K : Mem → Nat → List (Option Value) → List Value → Prop} {σ : Mem} {s : St} {N : Int} (X : Ctx l E K RL cL_refused 7 7 180) (hC : CRep σ s N) (hN : N + 600 ≤ 400000) (hS : SInv s) {W p : Int} {x5 : Option Value} (hp : ¬ (0 ≤ p ∧ p < s.1 19)) (hp2 : I32 p) (next : ∀ σ', CRep σ' s N → frM σ σ' → K σ' 645 [some (rv E 0), some (jv W), none, some (iv (s.1 0)), some (iv (s.1 19)), x5, some (iv (p))] []) : K σ 525 [some (rv E 0), some (jv W), none, some (iv (s.1 0)), some (iv (s.1 19)), x5, some (iv (p))] [] := by
  have hR : 7 ≤ (7 : Nat) ∧ 180 ≤ (180 : Nat) := ⟨Nat.le_refl _, Nat.le_refl _⟩
  have r0 := hC.2.1.1
  have r19 := hC.2.1.2.2.2.2.1
  refine g_aload_n X dL_refused_525 rfl ?_
  refine g_iload X dL_refused_526 rfl ?_
  refine g_iconst X dL_refused_528 ?_
  refine R_pileOf X hR hC hN (a := -1) ⟨by omega, by omega⟩ ⟨by decide, by decide⟩ (by unfold pileOfX; first | exact if_neg (by decide) | exact if_neg (by omega)) (Nat.le_of_ble_eq_true rfl) dL_refused_529 ?_
  refine g_iconst X dL_refused_532 ?_
  refine g_neS X (tgt := 643) dL_refused_533 (by decide) ?_
  refine g_aload_n X dL_refused_536 rfl ?_
  refine g_iload X dL_refused_537 rfl ?_
  refine g_iconst X dL_refused_539 ?_
  refine g_iconst X dL_refused_540 ?_
  refine R_blow X hR hC hN (a := -1) ⟨by omega, by omega⟩ ⟨by decide, by decide⟩ ⟨by decide, by decide⟩ (by unfold blowX; first | exact if_neg (by decide) | exact if_neg (by omega)) (Nat.le_of_ble_eq_true rfl) dL_refused_541 ?_
  refine g_iconst X dL_refused_544 ?_
  refine g_neS X (tgt := 643) dL_refused_545 (by decide) ?_
  refine g_aload_n X dL_refused_548 rfl ?_
  refine g_iload X dL_refused_549 rfl ?_
  refine g_bipush X dL_refused_551 (by decide) ?_
  refine N_strike X hR hC hN (a := -1) ⟨by omega, by omega⟩ ⟨by decide, by decide⟩ (by unfold strikeX; first | exact if_neg (by decide) | exact if_neg (by omega)) (Nat.le_of_ble_eq_true rfl) dL_refused_553 (fun σ1 hC1 hf1 => ?_)
  refine g_iconst X dL_refused_556 ?_
  refine g_neS X (tgt := 643) dL_refused_557 (by decide) ?_
  refine g_aload_n X dL_refused_560 rfl ?_
  refine g_iload X dL_refused_561 rfl ?_
  refine g_bipush X dL_refused_563 (by decide) ?_
  refine g_iconst X dL_refused_565 ?_
  refine g_iconst X dL_refused_566 ?_
  refine N_drive X hR hC1 hN (a := -1) ⟨by omega, by omega⟩ ⟨by decide, by decide⟩ ⟨by decide, by decide⟩ ⟨by decide, by decide⟩ (by unfold driveX; first | exact if_neg (by decide) | exact if_neg (by omega)) (Nat.le_of_ble_eq_true rfl) dL_refused_567 (fun σ2 hC2 hf2 => ?_)
  refine g_iconst X dL_refused_570 ?_
  refine g_neS X (tgt := 643) dL_refused_571 (by decide) ?_
  refine g_aload_n X dL_refused_574 rfl ?_
  refine g_iload X dL_refused_575 rfl ?_
  refine g_bipush X dL_refused_577 (by decide) ?_
  refine R_would X hR hC2 hN (a := -1) ⟨by omega, by omega⟩ ⟨by decide, by decide⟩ (by unfold wouldX; first | exact if_neg (by decide) | exact if_neg (by omega)) (Nat.le_of_ble_eq_true rfl) dL_refused_579 ?_
  refine g_iconst X dL_refused_582 ?_
  refine g_neS X (tgt := 643) dL_refused_583 (by decide) ?_
  refine g_aload_n X dL_refused_586 rfl ?_
  refine g_iload X dL_refused_587 rfl ?_
  refine g_iconst X dL_refused_589 ?_
  refine R_fallFor X hR hC2 hN (a := -1) ⟨by omega, by omega⟩ ⟨by decide, by decide⟩ (by unfold fallForX; first | exact if_neg (by decide) | exact if_neg (by omega)) (Nat.le_of_ble_eq_true rfl) dL_refused_590 ?_
  refine g_iconst X dL_refused_593 ?_
  refine g_neS X (tgt := 643) dL_refused_594 (by decide) ?_
  refine g_aload_n X dL_refused_597 rfl ?_
  refine g_iload X dL_refused_598 rfl ?_
  refine g_bipush X dL_refused_600 (by decide) ?_
  refine g_iconst X dL_refused_602 ?_
  refine R_blowsTo X hR hC2 hN (a := -1) ⟨by omega, by omega⟩ ⟨by decide, by decide⟩ ⟨by decide, by decide⟩ (by unfold blowsToX; first | exact if_neg (by decide) | exact if_neg (by omega)) (Nat.le_of_ble_eq_true rfl) dL_refused_603 ?_
  refine g_iconst X dL_refused_606 ?_
  refine g_neS X (tgt := 643) dL_refused_607 (by decide) ?_
  refine g_aload_n X dL_refused_610 rfl ?_
  refine g_iload X dL_refused_611 rfl ?_
  refine g_iconst X dL_refused_613 ?_
  refine N_test X hR hC2 hN (a := -1) ⟨by omega, by omega⟩ ⟨by decide, by decide⟩ (by unfold testX; first | exact if_neg (by decide) | exact if_neg (by omega)) (Nat.le_of_ble_eq_true rfl) dL_refused_614 (fun σ3 hC3 hf3 => ?_)
  refine g_iconst X dL_refused_617 ?_
  refine g_neS X (tgt := 643) dL_refused_618 (by decide) ?_
  refine g_aload_n X dL_refused_621 rfl ?_
  refine g_iload X dL_refused_622 rfl ?_
  refine R_runs X hR hC3 hN hS (a := -1) ⟨by omega, by omega⟩ (by unfold runsX; first | exact if_neg (by decide) | exact if_neg (by omega)) (Nat.le_of_ble_eq_true rfl) dL_refused_624 (fun σ4 hC4 hf4 => ?_)
  refine g_iconst X dL_refused_627 ?_
  refine g_neS X (tgt := 643) dL_refused_628 (by decide) ?_
  refine g_aload_n X dL_refused_631 rfl ?_
  refine g_iload X dL_refused_632 rfl ?_
  refine g_iconst X dL_refused_634 ?_
  refine g_iconst X dL_refused_635 ?_
  refine R_run X hR hC4 hN hS (a := -1) ⟨by omega, by omega⟩ ⟨by decide, by decide⟩ ⟨by decide, by decide⟩ (by unfold runX; first | exact if_neg (by decide) | exact if_neg (by omega)) (Nat.le_of_ble_eq_true rfl) dL_refused_636 (fun σ5 hC5 hf5 => ?_)
  refine g_iconst X dL_refused_639 ?_
  refine g_eqS X (tgt := 645) dL_refused_640 (by decide) ?_
  exact next _ hC5 ((((hf1.trans hf2).trans hf3).trans hf4).trans hf5)
set_option maxHeartbeats 4000000 in
set_option maxRecDepth 100000 in
theorem rf_5 {l : Launch} {E : wEnv} {K : Mem → Nat → List (Option Value) → List Value → Prop} {σ : Mem} {s : St} {N : Int} (X : Ctx l E K RL cL_refused 7 7 180) (hC : CRep σ s N) (hN : N + 600 ≤ 400000) (hS : SInv s) {W : Int} {x5 x6 : Option Value} (hpos : 0 < s.1 19) (next : ∀ σ', CRep σ' s N → frM σ σ' → K σ' 958 [some (rv E 0), some (jv W), none, some (iv (s.1 0)), some (iv (s.1 19)), x5, x6] []) : K σ 656 [some (rv E 0), some (jv W), none, some (iv (s.1 0)), some (iv (s.1 19)), x5, x6] [] := by
  have hR : 7 ≤ (7 : Nat) ∧ 180 ≤ (180 : Nat) := ⟨Nat.le_refl _, Nat.le_refl _⟩
  have r0 := hC.2.1.1
  have r19 := hC.2.1.2.2.2.2.1
  have hk := hC.2.1.kept (i := (0 : Int).toNat) (by show ((0 : Nat) : Int) < s.1 19; omega)
  have hq := hC.2.1.2.2.2.2.2.2 0 (by omega)
  have hx0 : pileOfX s 0 0 = s.1 (24 + 91 * 0 + 0) := by
    unfold pileOfX
    rw [if_pos ⟨⟨by decide, by omega⟩, by decide⟩]
    rfl
  have hy0 : pileOfX s 0 1 = s.1 (24 + 91 * 0 + 1) := by
    unfold pileOfX
    rw [if_pos ⟨⟨by decide, by omega⟩, by decide⟩]
    rfl
  have hx : 0 ≤ pileOfX s 0 0 ∧ pileOfX s 0 0 ≤ 20000 := by rw [hx0]; exact hq.1
  have hy : 0 ≤ pileOfX s 0 1 ∧ pileOfX s 0 1 ≤ 20000 := by rw [hy0]; exact hq.2.1
  have hb40 : blowX s 0 40 0 = -4 := by
    unfold blowX
    rw [if_pos ⟨⟨by decide, by omega⟩, by decide, by decide, by decide⟩]
    exact if_pos (by omega)
  have hr40 : runX s 0 40 0 = -4 := by
    have hr : 3 * ((allR (setsR s.1 (0 : Int).toNat) (s.1 (24 + 91 * (0 : Int).toNat + 10)).toNat).2.2.2.1 : Int) ≤ ((s.1 (24 + 91 * (0 : Int).toNat + 10)).toNat : Nat) := (ends_b (runs_b (setsR s.1 (0 : Int).toNat) (s.1 (24 + 91 * (0 : Int).toNat + 10)).toNat)).1
    unfold runX
    rw [if_pos ⟨⟨by decide, by omega⟩, by decide, by decide, by decide⟩]
    exact if_neg (by omega)
  have hpl : pileX s (pileOfX s 0 0) (pileOfX s 0 1) 1000 = (-2, s) := by
    have ht : takenP s.1 (pileOfX s 0 0) (pileOfX s 0 1) 0 = true := by
      show (decide (s.1 (24 + 91 * 0 + 0) = pileOfX s 0 0) && decide (s.1 (24 + 91 * 0 + 1) = pileOfX s 0 1)) = true
      rw [decide_eq_true hx0.symm, decide_eq_true hy0.symm]
      rfl
    unfold pileX
    rw [if_pos ⟨hx, hy, by decide⟩]
    exact if_pos ((cnt_pos _).mpr ⟨0, by omega, ht⟩)
  refine g_aload_n X dL_refused_656 rfl ?_
  refine g_iconst X dL_refused_657 ?_
  refine g_bipush X dL_refused_658 (by decide) ?_
  refine R_pileOf X hR hC hN (a := -1) ⟨by decide, by decide⟩ ⟨by decide, by decide⟩ (by unfold pileOfX; first | exact if_neg (by decide) | exact if_neg (by omega)) (Nat.le_of_ble_eq_true rfl) dL_refused_660 ?_
  refine g_iconst X dL_refused_663 ?_
  refine g_neS X (tgt := 956) dL_refused_664 (by decide) ?_
  refine g_aload_n X dL_refused_667 rfl ?_
  refine g_iconst X dL_refused_668 ?_
  refine g_iconst X dL_refused_669 ?_
  refine R_pileOf X hR hC hN (a := -1) ⟨by decide, by decide⟩ ⟨by decide, by decide⟩ (by unfold pileOfX; first | exact if_neg (by decide) | exact if_neg (by omega)) (Nat.le_of_ble_eq_true rfl) dL_refused_670 ?_
  refine g_iconst X dL_refused_673 ?_
  refine g_neS X (tgt := 956) dL_refused_674 (by decide) ?_
  refine g_aload_n X dL_refused_677 rfl ?_
  refine g_iconst X dL_refused_678 ?_
  refine g_iconst X dL_refused_679 ?_
  refine g_iconst X dL_refused_680 ?_
  refine R_blow X hR hC hN (a := -1) ⟨by decide, by decide⟩ ⟨by decide, by decide⟩ ⟨by decide, by decide⟩ (by unfold blowX; first | exact if_neg (by decide) | exact if_neg (by omega)) (Nat.le_of_ble_eq_true rfl) dL_refused_681 ?_
  refine g_iconst X dL_refused_684 ?_
  refine g_neS X (tgt := 956) dL_refused_685 (by decide) ?_
  refine g_aload_n X dL_refused_688 rfl ?_
  refine g_iconst X dL_refused_689 ?_
  refine g_bipush X dL_refused_690 (by decide) ?_
  refine g_iconst X dL_refused_692 ?_
  refine R_blow X hR hC hN (a := -1) ⟨by decide, by decide⟩ ⟨by decide, by decide⟩ ⟨by decide, by decide⟩ (by unfold blowX; first | exact if_neg (by decide) | exact if_neg (by omega)) (Nat.le_of_ble_eq_true rfl) dL_refused_693 ?_
  refine g_iconst X dL_refused_696 ?_
  refine g_neS X (tgt := 956) dL_refused_697 (by decide) ?_
  refine g_aload_n X dL_refused_700 rfl ?_
  refine g_iconst X dL_refused_701 ?_
  refine g_bipush X dL_refused_702 (by decide) ?_
  refine g_iconst X dL_refused_704 ?_
  refine R_blow X hR hC hN (a := -4) ⟨by decide, by decide⟩ ⟨by decide, by decide⟩ ⟨by decide, by decide⟩ hb40 (Nat.le_of_ble_eq_true rfl) dL_refused_705 ?_
  refine g_bipush X dL_refused_708 (by decide) ?_
  refine g_neS X (tgt := 956) dL_refused_710 (by decide) ?_
  refine g_aload_n X dL_refused_713 rfl ?_
  refine g_iconst X dL_refused_714 ?_
  refine g_bipush X dL_refused_715 (by decide) ?_
  refine N_strike X hR hC hN (a := -1) ⟨by decide, by decide⟩ ⟨by decide, by decide⟩ (by unfold strikeX; first | exact if_neg (by decide) | exact if_neg (by omega)) (Nat.le_of_ble_eq_true rfl) dL_refused_717 (fun σ1 hC1 hf1 => ?_)
  refine g_iconst X dL_refused_720 ?_
  refine g_neS X (tgt := 956) dL_refused_721 (by decide) ?_
  refine g_aload_n X dL_refused_724 rfl ?_
  refine g_iconst X dL_refused_725 ?_
  refine g_sipush X dL_refused_726 (by decide) ?_
  refine N_strike X hR hC1 hN (a := -1) ⟨by decide, by decide⟩ ⟨by decide, by decide⟩ (by unfold strikeX; first | exact if_neg (by decide) | exact if_neg (by omega)) (Nat.le_of_ble_eq_true rfl) dL_refused_729 (fun σ2 hC2 hf2 => ?_)
  refine g_iconst X dL_refused_732 ?_
  refine g_neS X (tgt := 956) dL_refused_733 (by decide) ?_
  refine g_aload_n X dL_refused_736 rfl ?_
  refine g_iconst X dL_refused_737 ?_
  refine g_bipush X dL_refused_738 (by decide) ?_
  refine g_iconst X dL_refused_740 ?_
  refine g_iconst X dL_refused_741 ?_
  refine N_drive X hR hC2 hN (a := -1) ⟨by decide, by decide⟩ ⟨by decide, by decide⟩ ⟨by decide, by decide⟩ ⟨by decide, by decide⟩ (by unfold driveX; first | exact if_neg (by decide) | exact if_neg (by omega)) (Nat.le_of_ble_eq_true rfl) dL_refused_742 (fun σ3 hC3 hf3 => ?_)
  refine g_iconst X dL_refused_745 ?_
  refine g_neS X (tgt := 956) dL_refused_746 (by decide) ?_
  refine g_aload_n X dL_refused_749 rfl ?_
  refine g_iconst X dL_refused_750 ?_
  refine g_bipush X dL_refused_751 (by decide) ?_
  refine g_sipush X dL_refused_753 (by decide) ?_
  refine g_iconst X dL_refused_756 ?_
  refine N_drive X hR hC3 hN (a := -1) ⟨by decide, by decide⟩ ⟨by decide, by decide⟩ ⟨by decide, by decide⟩ ⟨by decide, by decide⟩ (by unfold driveX; first | exact if_neg (by decide) | exact if_neg (by omega)) (Nat.le_of_ble_eq_true rfl) dL_refused_757 (fun σ4 hC4 hf4 => ?_)
  refine g_iconst X dL_refused_760 ?_
  refine g_neS X (tgt := 956) dL_refused_761 (by decide) ?_
  refine g_aload_n X dL_refused_764 rfl ?_
  refine g_iconst X dL_refused_765 ?_
  refine g_bipush X dL_refused_766 (by decide) ?_
  refine g_iconst X dL_refused_768 ?_
  refine g_iconst X dL_refused_769 ?_
  refine N_drive X hR hC4 hN (a := -1) ⟨by decide, by decide⟩ ⟨by decide, by decide⟩ ⟨by decide, by decide⟩ ⟨by decide, by decide⟩ (by unfold driveX; first | exact if_neg (by decide) | exact if_neg (by omega)) (Nat.le_of_ble_eq_true rfl) dL_refused_770 (fun σ5 hC5 hf5 => ?_)
  refine g_iconst X dL_refused_773 ?_
  refine g_neS X (tgt := 956) dL_refused_774 (by decide) ?_
  refine g_aload_n X dL_refused_777 rfl ?_
  refine g_iconst X dL_refused_778 ?_
  refine g_bipush X dL_refused_779 (by decide) ?_
  refine g_iconst X dL_refused_781 ?_
  refine g_iconst X dL_refused_782 ?_
  refine N_drive X hR hC5 hN (a := -1) ⟨by decide, by decide⟩ ⟨by decide, by decide⟩ ⟨by decide, by decide⟩ ⟨by decide, by decide⟩ (by unfold driveX; first | exact if_neg (by decide) | exact if_neg (by omega)) (Nat.le_of_ble_eq_true rfl) dL_refused_783 (fun σ6 hC6 hf6 => ?_)
  refine g_iconst X dL_refused_786 ?_
  refine g_neS X (tgt := 956) dL_refused_787 (by decide) ?_
  refine g_aload_n X dL_refused_790 rfl ?_
  refine g_iconst X dL_refused_791 ?_
  refine g_bipush X dL_refused_792 (by decide) ?_
  refine g_iconst X dL_refused_794 ?_
  refine g_bipush X dL_refused_795 (by decide) ?_
  refine N_drive X hR hC6 hN (a := -1) ⟨by decide, by decide⟩ ⟨by decide, by decide⟩ ⟨by decide, by decide⟩ ⟨by decide, by decide⟩ (by unfold driveX; first | exact if_neg (by decide) | exact if_neg (by omega)) (Nat.le_of_ble_eq_true rfl) dL_refused_797 (fun σ7 hC7 hf7 => ?_)
  refine g_iconst X dL_refused_800 ?_
  refine g_neS X (tgt := 956) dL_refused_801 (by decide) ?_
  refine g_aload_n X dL_refused_804 rfl ?_
  refine g_iconst X dL_refused_805 ?_
  refine g_sipush X dL_refused_806 (by decide) ?_
  refine R_would X hR hC7 hN (a := -1) ⟨by decide, by decide⟩ ⟨by decide, by decide⟩ (by unfold wouldX; first | exact if_neg (by decide) | exact if_neg (by omega)) (Nat.le_of_ble_eq_true rfl) dL_refused_809 ?_
  refine g_iconst X dL_refused_812 ?_
  refine g_neS X (tgt := 956) dL_refused_813 (by decide) ?_
  refine g_aload_n X dL_refused_816 rfl ?_
  refine g_iconst X dL_refused_817 ?_
  refine g_sipush X dL_refused_818 (by decide) ?_
  refine R_fallFor X hR hC7 hN (a := -1) ⟨by decide, by decide⟩ ⟨by decide, by decide⟩ (by unfold fallForX; first | exact if_neg (by decide) | exact if_neg (by omega)) (Nat.le_of_ble_eq_true rfl) dL_refused_821 ?_
  refine g_iconst X dL_refused_824 ?_
  refine g_neS X (tgt := 956) dL_refused_825 (by decide) ?_
  refine g_aload_n X dL_refused_828 rfl ?_
  refine g_iconst X dL_refused_829 ?_
  refine g_iconst X dL_refused_830 ?_
  refine R_fallFor X hR hC7 hN (a := -1) ⟨by decide, by decide⟩ ⟨by decide, by decide⟩ (by unfold fallForX; first | exact if_neg (by decide) | exact if_neg (by omega)) (Nat.le_of_ble_eq_true rfl) dL_refused_831 ?_
  refine g_iconst X dL_refused_834 ?_
  refine g_neS X (tgt := 956) dL_refused_835 (by decide) ?_
  refine g_aload_n X dL_refused_838 rfl ?_
  refine g_iconst X dL_refused_839 ?_
  refine g_bipush X dL_refused_840 (by decide) ?_
  refine g_iconst X dL_refused_842 ?_
  refine R_blowsTo X hR hC7 hN (a := -1) ⟨by decide, by decide⟩ ⟨by decide, by decide⟩ ⟨by decide, by decide⟩ (by unfold blowsToX; first | exact if_neg (by decide) | exact if_neg (by omega)) (Nat.le_of_ble_eq_true rfl) dL_refused_843 ?_
  refine g_iconst X dL_refused_846 ?_
  refine g_neS X (tgt := 956) dL_refused_847 (by decide) ?_
  refine g_aload_n X dL_refused_850 rfl ?_
  refine g_iconst X dL_refused_851 ?_
  refine g_bipush X dL_refused_852 (by decide) ?_
  refine g_ldc X (n := 50001) dL_refused_854 wK_RL_61 (by decide) ?_
  refine R_blowsTo X hR hC7 hN (a := -1) ⟨by decide, by decide⟩ ⟨by decide, by decide⟩ ⟨by decide, by decide⟩ (by unfold blowsToX; first | exact if_neg (by decide) | exact if_neg (by omega)) (Nat.le_of_ble_eq_true rfl) dL_refused_856 ?_
  refine g_iconst X dL_refused_859 ?_
  refine g_neS X (tgt := 956) dL_refused_860 (by decide) ?_
  refine g_aload_n X dL_refused_863 rfl ?_
  refine g_iconst X dL_refused_864 ?_
  refine g_bipush X dL_refused_865 (by decide) ?_
  refine g_iconst X dL_refused_867 ?_
  refine R_blowsTo X hR hC7 hN (a := -1) ⟨by decide, by decide⟩ ⟨by decide, by decide⟩ ⟨by decide, by decide⟩ (by unfold blowsToX; first | exact if_neg (by decide) | exact if_neg (by omega)) (Nat.le_of_ble_eq_true rfl) dL_refused_868 ?_
  refine g_iconst X dL_refused_871 ?_
  refine g_neS X (tgt := 956) dL_refused_872 (by decide) ?_
  refine g_aload_n X dL_refused_875 rfl ?_
  refine g_iconst X dL_refused_876 ?_
  refine g_iconst X dL_refused_877 ?_
  refine N_test X hR hC7 hN (a := -1) ⟨by decide, by decide⟩ ⟨by decide, by decide⟩ (by unfold testX; first | exact if_neg (by decide) | exact if_neg (by omega)) (Nat.le_of_ble_eq_true rfl) dL_refused_878 (fun σ8 hC8 hf8 => ?_)
  refine g_iconst X dL_refused_881 ?_
  refine g_neS X (tgt := 956) dL_refused_882 (by decide) ?_
  refine g_aload_n X dL_refused_885 rfl ?_
  refine g_iconst X dL_refused_886 ?_
  refine g_ldc X (n := 100001) dL_refused_887 wK_RL_90 (by decide) ?_
  refine N_test X hR hC8 hN (a := -1) ⟨by decide, by decide⟩ ⟨by decide, by decide⟩ (by unfold testX; first | exact if_neg (by decide) | exact if_neg (by omega)) (Nat.le_of_ble_eq_true rfl) dL_refused_889 (fun σ9 hC9 hf9 => ?_)
  refine g_iconst X dL_refused_892 ?_
  refine g_neS X (tgt := 956) dL_refused_893 (by decide) ?_
  refine g_aload_n X dL_refused_896 rfl ?_
  refine g_iconst X dL_refused_897 ?_
  refine g_iconst X dL_refused_898 ?_
  refine g_iconst X dL_refused_899 ?_
  refine R_run X hR hC9 hN hS (a := -1) ⟨by decide, by decide⟩ ⟨by decide, by decide⟩ ⟨by decide, by decide⟩ (by unfold runX; first | exact if_neg (by decide) | exact if_neg (by omega)) (Nat.le_of_ble_eq_true rfl) dL_refused_900 (fun σ10 hC10 hf10 => ?_)
  refine g_iconst X dL_refused_903 ?_
  refine g_neS X (tgt := 956) dL_refused_904 (by decide) ?_
  refine g_aload_n X dL_refused_907 rfl ?_
  refine g_iconst X dL_refused_908 ?_
  refine g_bipush X dL_refused_909 (by decide) ?_
  refine g_iconst X dL_refused_911 ?_
  refine R_run X hR hC10 hN hS (a := -1) ⟨by decide, by decide⟩ ⟨by decide, by decide⟩ ⟨by decide, by decide⟩ (by unfold runX; first | exact if_neg (by decide) | exact if_neg (by omega)) (Nat.le_of_ble_eq_true rfl) dL_refused_912 (fun σ11 hC11 hf11 => ?_)
  refine g_iconst X dL_refused_915 ?_
  refine g_neS X (tgt := 956) dL_refused_916 (by decide) ?_
  refine g_aload_n X dL_refused_919 rfl ?_
  refine g_iconst X dL_refused_920 ?_
  refine g_bipush X dL_refused_921 (by decide) ?_
  refine g_iconst X dL_refused_923 ?_
  refine R_run X hR hC11 hN hS (a := -4) ⟨by decide, by decide⟩ ⟨by decide, by decide⟩ ⟨by decide, by decide⟩ hr40 (Nat.le_of_ble_eq_true rfl) dL_refused_924 (fun σ12 hC12 hf12 => ?_)
  refine g_bipush X dL_refused_927 (by decide) ?_
  refine g_neS X (tgt := 956) dL_refused_929 (by decide) ?_
  refine g_aload_n X dL_refused_932 rfl ?_
  refine g_aload_n X dL_refused_933 rfl ?_
  refine g_iconst X dL_refused_934 ?_
  refine g_iconst X dL_refused_935 ?_
  refine R_pileOf X hR hC12 hN (a := pileOfX s 0 0) ⟨by decide, by decide⟩ ⟨by decide, by decide⟩ rfl (Nat.le_of_ble_eq_true rfl) dL_refused_936 ?_
  refine g_aload_n X dL_refused_939 rfl ?_
  refine g_iconst X dL_refused_940 ?_
  refine g_iconst X dL_refused_941 ?_
  refine R_pileOf X hR hC12 hN (a := pileOfX s 0 1) ⟨by decide, by decide⟩ ⟨by decide, by decide⟩ rfl (Nat.le_of_ble_eq_true rfl) dL_refused_942 ?_
  refine g_sipush X dL_refused_945 (by decide) ?_
  refine N_pile X hR hC12 hN (a := -2) ⟨by omega, by omega⟩ ⟨by omega, by omega⟩ ⟨by decide, by decide⟩ hpl (Nat.le_of_ble_eq_true rfl) dL_refused_948 (fun σ13 hC13 hf13 => ?_)
  refine g_bipush X dL_refused_951 (by decide) ?_
  refine g_eqS X (tgt := 958) dL_refused_953 (by decide) ?_
  exact next _ hC13 ((((((((((((hf1.trans hf2).trans hf3).trans hf4).trans hf5).trans hf6).trans hf7).trans hf8).trans hf9).trans hf10).trans hf11).trans hf12).trans hf13)
set_option maxHeartbeats 4000000 in
set_option maxRecDepth 100000 in
theorem rf_6 {l : Launch} {E : wEnv} {K : Mem → Nat → List (Option Value) → List Value → Prop} {σ : Mem} {s : St} {N : Int} (X : Ctx l E K RL cL_refused 7 7 180) (hC : CRep σ s N) (hN : N + 600 ≤ 400000) (hS : SInv s) {x5 x6 : Option Value} (next : ∀ σ' lv, CRep σ' s N → frM σ σ' → K σ' 1073 lv [iv 1]) : K σ 958 [some (rv E 0), some (jv (31 * (31 * (hashR s.1) + (countX s 4)) + (countX s 5))), none, some (iv (s.1 0)), some (iv (s.1 19)), x5, x6] [] := by
  have hR : 7 ≤ (7 : Nat) ∧ 180 ≤ (180 : Nat) := ⟨Nat.le_refl _, Nat.le_refl _⟩
  have r0 := hC.2.1.1
  have r19 := hC.2.1.2.2.2.2.1
  refine g_aload_n X dL_refused_958 rfl ?_
  refine g_bipush X dL_refused_959 (by decide) ?_
  refine g_iconst X dL_refused_961 ?_
  refine g_iconst X dL_refused_962 ?_
  refine R_order X hR hC hN (a := -1) ⟨by decide, by decide⟩ ⟨by decide, by decide⟩ ⟨by decide, by decide⟩ (by unfold orderX; first | exact if_neg (by decide) | exact if_neg (by omega)) (Nat.le_of_ble_eq_true rfl) dL_refused_963 (fun σ1 hC1 hf1 => ?_)
  refine g_iconst X dL_refused_966 ?_
  refine g_neS X (tgt := 1072) dL_refused_967 (by decide) ?_
  refine g_aload_n X dL_refused_970 rfl ?_
  refine g_bipush X dL_refused_971 (by decide) ?_
  refine g_iconst X dL_refused_973 ?_
  refine g_iconst X dL_refused_974 ?_
  refine R_order X hR hC1 hN (a := -1) ⟨by decide, by decide⟩ ⟨by decide, by decide⟩ ⟨by decide, by decide⟩ (by unfold orderX; first | exact if_neg (by decide) | exact if_neg (by omega)) (Nat.le_of_ble_eq_true rfl) dL_refused_975 (fun σ2 hC2 hf2 => ?_)
  refine g_iconst X dL_refused_978 ?_
  refine g_neS X (tgt := 1072) dL_refused_979 (by decide) ?_
  refine g_aload_n X dL_refused_982 rfl ?_
  refine g_bipush X dL_refused_983 (by decide) ?_
  refine g_bipush X dL_refused_985 (by decide) ?_
  refine g_iconst X dL_refused_987 ?_
  refine R_order X hR hC2 hN (a := -1) ⟨by decide, by decide⟩ ⟨by decide, by decide⟩ ⟨by decide, by decide⟩ (by unfold orderX; first | exact if_neg (by decide) | exact if_neg (by omega)) (Nat.le_of_ble_eq_true rfl) dL_refused_988 (fun σ3 hC3 hf3 => ?_)
  refine g_iconst X dL_refused_991 ?_
  refine g_neS X (tgt := 1072) dL_refused_992 (by decide) ?_
  refine g_aload_n X dL_refused_995 rfl ?_
  refine g_sipush X dL_refused_996 (by decide) ?_
  refine g_iconst X dL_refused_999 ?_
  refine g_iconst X dL_refused_1000 ?_
  refine R_order X hR hC3 hN (a := -1) ⟨by decide, by decide⟩ ⟨by decide, by decide⟩ ⟨by decide, by decide⟩ (by unfold orderX; first | exact if_neg (by decide) | exact if_neg (by omega)) (Nat.le_of_ble_eq_true rfl) dL_refused_1001 (fun σ4 hC4 hf4 => ?_)
  refine g_iconst X dL_refused_1004 ?_
  refine g_neS X (tgt := 1072) dL_refused_1005 (by decide) ?_
  refine g_aload_n X dL_refused_1008 rfl ?_
  refine g_bipush X dL_refused_1009 (by decide) ?_
  refine g_iconst X dL_refused_1011 ?_
  refine g_iconst X dL_refused_1012 ?_
  refine R_order X hR hC4 hN (a := -1) ⟨by decide, by decide⟩ ⟨by decide, by decide⟩ ⟨by decide, by decide⟩ (by unfold orderX; first | exact if_neg (by decide) | exact if_neg (by omega)) (Nat.le_of_ble_eq_true rfl) dL_refused_1013 (fun σ5 hC5 hf5 => ?_)
  refine g_iconst X dL_refused_1016 ?_
  refine g_neS X (tgt := 1072) dL_refused_1017 (by decide) ?_
  refine g_aload_n X dL_refused_1020 rfl ?_
  refine g_bipush X dL_refused_1021 (by decide) ?_
  refine g_iconst X dL_refused_1023 ?_
  refine R_leastLift X hR hC5 hN (a := -1) ⟨by decide, by decide⟩ ⟨by decide, by decide⟩ (by unfold leastX; first | exact if_neg (by decide) | exact if_neg (by omega)) (Nat.le_of_ble_eq_true rfl) dL_refused_1024 (fun σ6 hC6 hf6 => ?_)
  refine g_iconst X dL_refused_1027 ?_
  refine g_neS X (tgt := 1072) dL_refused_1028 (by decide) ?_
  refine g_aload_n X dL_refused_1031 rfl ?_
  refine g_bipush X dL_refused_1032 (by decide) ?_
  refine g_bipush X dL_refused_1034 (by decide) ?_
  refine R_leastLift X hR hC6 hN (a := -1) ⟨by decide, by decide⟩ ⟨by decide, by decide⟩ (by unfold leastX; first | exact if_neg (by decide) | exact if_neg (by omega)) (Nat.le_of_ble_eq_true rfl) dL_refused_1036 (fun σ7 hC7 hf7 => ?_)
  refine g_iconst X dL_refused_1039 ?_
  refine g_neS X (tgt := 1072) dL_refused_1040 (by decide) ?_
  refine g_aload_n X dL_refused_1043 rfl ?_
  refine cl_L_42 X (c_L_state l E σ7 s N hC7 hN hS) ⟨by omega, by omega⟩ rfl (Nat.le_of_ble_eq_true rfl) dL_refused_1044 rfl (fun v8 σ8 p8 => ?_)
  obtain ⟨rfl, hC8, hf8⟩ := p8
  refine g_aload_n X dL_refused_1047 rfl ?_
  refine g_iconst X dL_refused_1048 ?_
  refine R_count X hR hC8 hN (a := countX s 4) ⟨by decide, by decide⟩ rfl (Nat.le_of_ble_eq_true rfl) dL_refused_1049 ?_
  refine cl_L_19 X (c_L_mixed l E σ8 (hashR s.1) (countX s 4)) ⟨by omega, by omega⟩ rfl (Nat.le_of_ble_eq_true rfl) dL_refused_1052 rfl (fun v9 τ9 p9 => ?_)
  obtain ⟨rfl, rfl⟩ := p9
  refine g_aload_n X dL_refused_1055 rfl ?_
  refine g_iconst X dL_refused_1056 ?_
  refine R_count X hR hC8 hN (a := countX s 5) ⟨by decide, by decide⟩ rfl (Nat.le_of_ble_eq_true rfl) dL_refused_1057 ?_
  refine cl_L_19 X (c_L_mixed l E σ8 (31 * (hashR s.1) + (countX s 4)) (countX s 5)) ⟨by omega, by omega⟩ rfl (Nat.le_of_ble_eq_true rfl) dL_refused_1060 rfl (fun v10 τ10 p10 => ?_)
  obtain ⟨rfl, rfl⟩ := p10
  refine g_lload_n X dL_refused_1063 rfl ?_
  refine g_lcmpS X dL_refused_1064 ?_
  refine g_neN X (tgt := 1072) dL_refused_1065 (by decide) ?_
  refine g_iconst X dL_refused_1068 ?_
  refine g_goto X (tgt := 1073) dL_refused_1069 (by decide) ?_
  exact next _ _ hC8 (((((((hf1.trans hf2).trans hf3).trans hf4).trans hf5).trans hf6).trans hf7).trans hf8)
set_option maxHeartbeats 4000000 in
set_option maxRecDepth 100000 in
theorem c_L_refused (l : Launch) (E : wEnv) (σ : Mem) (s : St) (N : Int) (hC : CRep σ s N) (hN : N + 600 ≤ 400000) (hS : SInv s) : MetC l E yL_refused cL_refused 7 (some .boolean) 7 180 [rv E 0] σ (fun v σ' => v = some (iv 1) ∧ CRep σ' s N ∧ frM σ σ') := by
  have hR : 7 ≤ (7 : Nat) ∧ 180 ≤ (180 : Nat) := ⟨Nat.le_refl _, Nat.le_refl _⟩
  have r0 := hC.2.1.1
  have r19 := hC.2.1.2.2.2.2.1
  refine MetC.of (own := RL) (by decide) rfl (by simp [Value.category]) (Nat.le_of_ble_eq_true rfl) [some (rv E 0), none, none, none, none, none, none] rfl (by simp) (fun K X R => ?_)
  refine g_aload_n X dL_refused_0 rfl ?_
  refine cl_L_42 X (c_L_state l E σ s N hC hN hS) ⟨by omega, by omega⟩ rfl (Nat.le_of_ble_eq_true rfl) dL_refused_1 rfl (fun v1 σ1 p1 => ?_)
  obtain ⟨rfl, hC1, hf1⟩ := p1
  refine g_aload_n X dL_refused_4 rfl ?_
  refine g_iconst X dL_refused_5 ?_
  refine R_count X hR hC1 hN (a := countX s 4) ⟨by decide, by decide⟩ rfl (Nat.le_of_ble_eq_true rfl) dL_refused_6 ?_
  refine cl_L_19 X (c_L_mixed l E σ1 (hashR s.1) (countX s 4)) ⟨by omega, by omega⟩ rfl (Nat.le_of_ble_eq_true rfl) dL_refused_9 rfl (fun v2 τ2 p2 => ?_)
  obtain ⟨rfl, rfl⟩ := p2
  refine g_aload_n X dL_refused_12 rfl ?_
  refine g_iconst X dL_refused_13 ?_
  refine R_count X hR hC1 hN (a := countX s 5) ⟨by decide, by decide⟩ rfl (Nat.le_of_ble_eq_true rfl) dL_refused_14 ?_
  refine cl_L_19 X (c_L_mixed l E σ1 (31 * (hashR s.1) + (countX s 4)) (countX s 5)) ⟨by omega, by omega⟩ rfl (Nat.le_of_ble_eq_true rfl) dL_refused_17 rfl (fun v3 τ3 p3 => ?_)
  obtain ⟨rfl, rfl⟩ := p3
  refine g_lstore_n X (lw := [some (rv E (0)), some (jv (31 * (31 * (hashR s.1) + (countX s 4)) + (countX s 5))), none, none, none, none, none]) dL_refused_20 (by decide) rfl rfl ?_
  refine g_aload_n X dL_refused_21 rfl ?_
  refine g_iconst X dL_refused_22 ?_
  refine R_count X hR hC1 hN (a := s.1 0) ⟨by decide, by decide⟩ (countX_0 s) (Nat.le_of_ble_eq_true rfl) dL_refused_23 ?_
  refine g_l2i X dL_refused_26 ?_
  refine g_istore_n X (lw := [some (rv E (0)), some (jv (31 * (31 * (hashR s.1) + (countX s 4)) + (countX s 5))), none, some (iv (s.1 0)), none, none, none]) dL_refused_27 (by decide) rfl rfl ?_
  refine g_aload_n X dL_refused_28 rfl ?_
  refine g_iconst X dL_refused_29 ?_
  refine R_count X hR hC1 hN (a := s.1 19) ⟨by decide, by decide⟩ (countX_1 s) (Nat.le_of_ble_eq_true rfl) dL_refused_30 ?_
  refine g_l2i X dL_refused_33 ?_
  refine g_istore X (lw := [some (rv E (0)), some (jv (31 * (31 * (hashR s.1) + (countX s 4)) + (countX s 5))), none, some (iv (s.1 0)), some (iv (s.1 19)), none, none]) dL_refused_34 (by decide) rfl rfl ?_
  refine rf_1 X hC1 hN hS (fun σa hCa hfa => ?_)
  refine rf_2 X hCa hN hS (fun σb hCb hfb => ?_)
  refine rf_3 X hCb hN hS (fun σc hCc hfc => ?_)
  refine g_iconst X dL_refused_503 ?_
  refine g_istore X (lw := [some (rv E (0)), some (jv (31 * (31 * (hashR s.1) + (countX s 4)) + (countX s 5))), none, some (iv (s.1 0)), some (iv (s.1 19)), some (iv (0)), none]) dL_refused_504 (by decide) rfl rfl ?_
  refine g_iload X dL_refused_506 rfl ?_
  refine g_iconst X dL_refused_508 ?_
  refine g_icmp_ge X (a := 0) (b := 2) (tgt := 651) dL_refused_509 (by decide) ⟨by decide, by decide⟩ ⟨by decide, by decide⟩ (fun c => absurd c (by decide)) (fun _ => ?_)
  refine g_iload X dL_refused_512 rfl ?_
  refine g_neN X (tgt := 522) dL_refused_514 (by decide) ?_
  refine g_iload X dL_refused_517 rfl ?_
  refine g_goto X (tgt := 523) dL_refused_519 (by decide) ?_
  refine g_istore X (lw := [some (rv E (0)), some (jv (31 * (31 * (hashR s.1) + (countX s 4)) + (countX s 5))), none, some (iv (s.1 0)), some (iv (s.1 19)), some (iv (0)), some (iv (s.1 19))]) dL_refused_523 (by decide) rfl rfl ?_
  refine rf_4 X hCc hN hS (p := s.1 19) (by omega) ⟨by omega, by omega⟩ (fun σd hCd hfd => ?_)
  refine g_iinc X (lw := [some (rv E (0)), some (jv (31 * (31 * (hashR s.1) + (countX s 4)) + (countX s 5))), none, some (iv (s.1 0)), some (iv (s.1 19)), some (iv (1)), some (iv (s.1 19))]) dL_refused_645 rfl (by decide) rfl rfl ?_
  refine g_goto X (tgt := 506) dL_refused_648 (by decide) ?_
  refine g_iload X dL_refused_506 rfl ?_
  refine g_iconst X dL_refused_508 ?_
  refine g_icmp_ge X (a := 1) (b := 2) (tgt := 651) dL_refused_509 (by decide) ⟨by decide, by decide⟩ ⟨by decide, by decide⟩ (fun c => absurd c (by decide)) (fun _ => ?_)
  refine g_iload X dL_refused_512 rfl ?_
  refine g_neY X (tgt := 522) dL_refused_514 (by decide) ?_
  refine g_iconst X dL_refused_522 ?_
  refine g_istore X (lw := [some (rv E (0)), some (jv (31 * (31 * (hashR s.1) + (countX s 4)) + (countX s 5))), none, some (iv (s.1 0)), some (iv (s.1 19)), some (iv (1)), some (iv (-1))]) dL_refused_523 (by decide) rfl rfl ?_
  refine rf_4 X hCd hN hS (p := -1) (by omega) ⟨by decide, by decide⟩ (fun σe hCe hfe => ?_)
  refine g_iinc X (lw := [some (rv E (0)), some (jv (31 * (31 * (hashR s.1) + (countX s 4)) + (countX s 5))), none, some (iv (s.1 0)), some (iv (s.1 19)), some (iv (2)), some (iv (-1))]) dL_refused_645 rfl (by decide) rfl rfl ?_
  refine g_goto X (tgt := 506) dL_refused_648 (by decide) ?_
  refine g_iload X dL_refused_506 rfl ?_
  refine g_iconst X dL_refused_508 ?_
  refine g_icmp_ge X (a := 2) (b := 2) (tgt := 651) dL_refused_509 (by decide) ⟨by decide, by decide⟩ ⟨by decide, by decide⟩ (fun _ => ?_) (fun c => absurd c (by decide))
  refine g_iload X dL_refused_651 rfl ?_
  refine g_if_le X (tgt := 958) dL_refused_653 (by decide) ⟨by omega, by omega⟩ (fun _ => ?_) (fun hpos => ?_)
  · exact rf_6 X hCe hN hS (fun σg lv hCg hfg => R _ _ _ _ (Or.inr (by decide)) dL_refused_1073 ⟨rfl, hCg, (((((hf1.trans hfa).trans hfb).trans hfc).trans hfd).trans hfe).trans hfg⟩)
  · refine rf_5 X hCe hN hS hpos (fun σh hCh hfh => ?_)
    exact rf_6 X hCh hN hS (fun σg lv hCg hfg => R _ _ _ _ (Or.inr (by decide)) dL_refused_1073 ⟨rfl, hCg, ((((((hf1.trans hfa).trans hfb).trans hfc).trans hfd).trans hfe).trans hfh).trans hfg⟩)
