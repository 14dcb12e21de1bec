/-! ===== piles that are reckoned by hand, walked ===== -/
set_option maxHeartbeats 4000000 in
set_option maxRecDepth 100000 in
theorem kn_1 {l : Launch} {E : wEnv} {K : Mem → Nat → List (Option Value) → List Value → Prop} {σ : Mem} (X : Ctx l E K RL cL_known 1 7 180) (hC : CRep σ kS_0 0) (hS : SInv kS_0) (next : ∀ σ', CRep σ' kS_3 1800 → SInv kS_3 → K σ' 162 [some (rv E 0)] []) : K σ 8 [some (rv E 0)] [] := by
  have hR : 7 ≤ (7 : Nat) ∧ 180 ≤ (180 : Nat) := ⟨Nat.le_refl _, Nat.le_refl _⟩
  refine g_aload_n X dL_known_8 rfl ?_
  refine N_undo X hR hC (by decide) (a := -2)  kf_1 (Nat.le_of_ble_eq_true rfl) dL_known_9 (fun σ1 hC1 hf1 => ?_)
  refine g_bipush X dL_known_12 (by decide) ?_
  refine g_neS X (tgt := 160) dL_known_14 (by decide) ?_
  refine g_aload_n X dL_known_17 rfl ?_
  refine N_cut X hR hC1 (by decide) (a := -2)  kf_2 (Nat.le_of_ble_eq_true rfl) dL_known_18 (fun σ2 hC2 hf2 => ?_)
  refine g_bipush X dL_known_21 (by decide) ?_
  refine g_neS X (tgt := 160) dL_known_23 (by decide) ?_
  refine g_aload_n X dL_known_26 rfl ?_
  refine g_sipush X dL_known_27 (by decide) ?_
  refine R_at X hR hC2 (by decide) (a := 0) ⟨by decide, by decide⟩ kf_3 (Nat.le_of_ble_eq_true rfl) dL_known_30 ?_
  refine g_neN X (tgt := 160) dL_known_33 (by decide) ?_
  refine g_aload_n X dL_known_36 rfl ?_
  refine g_sipush X dL_known_37 (by decide) ?_
  refine R_at X hR hC2 (by decide) (a := -4) ⟨by decide, by decide⟩ kf_4 (Nat.le_of_ble_eq_true rfl) dL_known_40 ?_
  refine g_bipush X dL_known_43 (by decide) ?_
  refine g_neS X (tgt := 160) dL_known_45 (by decide) ?_
  refine g_aload_n X dL_known_48 rfl ?_
  refine g_bipush X dL_known_49 (by decide) ?_
  refine g_iconst X dL_known_51 ?_
  refine R_leastLift X hR hC2 (by decide) (a := 0) ⟨by decide, by decide⟩ ⟨by decide, by decide⟩ kf_5 (Nat.le_of_ble_eq_true rfl) dL_known_52 (fun σ3 hC3 hf3 => ?_)
  refine g_neN X (tgt := 160) dL_known_55 (by decide) ?_
  refine g_aload_n X dL_known_58 rfl ?_
  refine g_bipush X dL_known_59 (by decide) ?_
  refine g_iconst X dL_known_61 ?_
  refine g_iconst X dL_known_62 ?_
  refine R_order X hR hC3 (by decide) (a := -4) ⟨by decide, by decide⟩ ⟨by decide, by decide⟩ ⟨by decide, by decide⟩ kf_6 (Nat.le_of_ble_eq_true rfl) dL_known_63 (fun σ4 hC4 hf4 => ?_)
  refine g_bipush X dL_known_66 (by decide) ?_
  refine g_neS X (tgt := 160) dL_known_68 (by decide) ?_
  refine g_aload_n X dL_known_71 rfl ?_
  refine g_iconst X dL_known_72 ?_
  refine g_iconst X dL_known_73 ?_
  refine g_sipush X dL_known_74 (by decide) ?_
  refine L_pile X hR hC4 (by decide) (a := 0) (s' := kS_1) ⟨by decide, by decide⟩ ⟨by decide, by decide⟩ ⟨by decide, by decide⟩ kf_7 (Nat.le_of_ble_eq_true rfl) dL_known_77 (fun σ5 hC5 hf5 => ?_)
  have hS5 : SInv kS_1 := by have q := hS.pile hC4.2.1 hC4.2.2.1.1 0 0 1000; rw [kf_7] at q; exact q
  have hD5 : CRep σ5 kS_1 600 := hC5
  refine g_neN X (tgt := 160) dL_known_80 (by decide) ?_
  refine g_aload_n X dL_known_83 rfl ?_
  refine g_sipush X dL_known_84 (by decide) ?_
  refine g_sipush X dL_known_87 (by decide) ?_
  refine g_sipush X dL_known_90 (by decide) ?_
  refine L_pile X hR hD5 (by decide) (a := 1) (s' := kS_2) ⟨by decide, by decide⟩ ⟨by decide, by decide⟩ ⟨by decide, by decide⟩ kf_8 (Nat.le_of_ble_eq_true rfl) dL_known_93 (fun σ6 hC6 hf6 => ?_)
  have hS6 : SInv kS_2 := by have q := hS5.pile hD5.2.1 hD5.2.2.1.1 3000 3000 20000; rw [kf_8] at q; exact q
  have hD6 : CRep σ6 kS_2 1200 := hC6
  refine g_iconst X dL_known_96 ?_
  refine g_neS X (tgt := 160) dL_known_97 (by decide) ?_
  refine g_aload_n X dL_known_100 rfl ?_
  refine g_sipush X dL_known_101 (by decide) ?_
  refine g_iconst X dL_known_104 ?_
  refine g_sipush X dL_known_105 (by decide) ?_
  refine L_pile X hR hD6 (by decide) (a := 2) (s' := kS_3) ⟨by decide, by decide⟩ ⟨by decide, by decide⟩ ⟨by decide, by decide⟩ kf_9 (Nat.le_of_ble_eq_true rfl) dL_known_108 (fun σ7 hC7 hf7 => ?_)
  have hS7 : SInv kS_3 := by have q := hS6.pile hD6.2.1 hD6.2.2.1.1 3001 0 20000; rw [kf_9] at q; exact q
  have hD7 : CRep σ7 kS_3 1800 := hC7
  refine g_iconst X dL_known_111 ?_
  refine g_neS X (tgt := 160) dL_known_112 (by decide) ?_
  refine g_aload_n X dL_known_115 rfl ?_
  refine g_iconst X dL_known_116 ?_
  refine g_bipush X dL_known_117 (by decide) ?_
  refine R_pileOf X hR hD7 (by decide) (a := 1) ⟨by decide, by decide⟩ ⟨by decide, by decide⟩ kf_10 (Nat.le_of_ble_eq_true rfl) dL_known_119 ?_
  refine g_iconst X dL_known_122 ?_
  refine g_neS X (tgt := 160) dL_known_123 (by decide) ?_
  refine g_aload_n X dL_known_126 rfl ?_
  refine g_iconst X dL_known_127 ?_
  refine g_bipush X dL_known_128 (by decide) ?_
  refine R_pileOf X hR hD7 (by decide) (a := 2) ⟨by decide, by decide⟩ ⟨by decide, by decide⟩ kf_11 (Nat.le_of_ble_eq_true rfl) dL_known_130 ?_
  refine g_iconst X dL_known_133 ?_
  refine g_neS X (tgt := 160) dL_known_134 (by decide) ?_
  refine g_aload_n X dL_known_137 rfl ?_
  refine g_iconst X dL_known_138 ?_
  refine g_iconst X dL_known_139 ?_
  refine R_pileOf X hR hD7 (by decide) (a := -4) ⟨by decide, by decide⟩ ⟨by decide, by decide⟩ kf_12 (Nat.le_of_ble_eq_true rfl) dL_known_140 ?_
  refine g_bipush X dL_known_143 (by decide) ?_
  refine g_neS X (tgt := 160) dL_known_145 (by decide) ?_
  refine g_aload_n X dL_known_148 rfl ?_
  refine g_iconst X dL_known_149 ?_
  refine g_bipush X dL_known_150 (by decide) ?_
  refine R_pileOf X hR hD7 (by decide) (a := -4) ⟨by decide, by decide⟩ ⟨by decide, by decide⟩ kf_13 (Nat.le_of_ble_eq_true rfl) dL_known_152 ?_
  refine g_bipush X dL_known_155 (by decide) ?_
  refine g_eqS X (tgt := 162) dL_known_157 (by decide) ?_
  exact next _ hD7 hS7
set_option maxHeartbeats 4000000 in
set_option maxRecDepth 100000 in
theorem kn_2 {l : Launch} {E : wEnv} {K : Mem → Nat → List (Option Value) → List Value → Prop} {σ : Mem} (X : Ctx l E K RL cL_known 1 7 180) (hC : CRep σ kS_3 1800) (hS : SInv kS_3) (next : ∀ σ', CRep σ' kS_6 3600 → SInv kS_6 → K σ' 361 [some (rv E 0)] []) : K σ 162 [some (rv E 0)] [] := by
  have hR : 7 ≤ (7 : Nat) ∧ 180 ≤ (180 : Nat) := ⟨Nat.le_refl _, Nat.le_refl _⟩
  refine g_aload_n X dL_known_162 rfl ?_
  refine g_iconst X dL_known_163 ?_
  refine g_sipush X dL_known_164 (by decide) ?_
  refine L_strike X hR hC (by decide) (a := 277) (s' := kS_4) ⟨by decide, by decide⟩ ⟨by decide, by decide⟩ kf_15 (Nat.le_of_ble_eq_true rfl) dL_known_167 (fun σ1 hC1 hf1 => ?_)
  have hS1 : SInv kS_4 := by have q := hS.strike hC.2.1 (by decide) hC.2.2.1.1 0 1000; rw [kf_15] at q; exact q
  have hD1 : CRep σ1 kS_4 2400 := hC1
  refine g_sipush X dL_known_170 (by decide) ?_
  refine g_neS X (tgt := 359) dL_known_173 (by decide) ?_
  refine g_aload_n X dL_known_176 rfl ?_
  refine g_iconst X dL_known_177 ?_
  refine g_iconst X dL_known_178 ?_
  refine R_pileOf X hR hD1 (by decide) (a := 50) ⟨by decide, by decide⟩ ⟨by decide, by decide⟩ kf_16 (Nat.le_of_ble_eq_true rfl) dL_known_179 ?_
  refine g_bipush X dL_known_182 (by decide) ?_
  refine g_neS X (tgt := 359) dL_known_184 (by decide) ?_
  refine g_aload_n X dL_known_187 rfl ?_
  refine g_iconst X dL_known_188 ?_
  refine g_sipush X dL_known_189 (by decide) ?_
  refine L_strike X hR hD1 (by decide) (a := 137) (s' := kS_5) ⟨by decide, by decide⟩ ⟨by decide, by decide⟩ kf_18 (Nat.le_of_ble_eq_true rfl) dL_known_192 (fun σ2 hC2 hf2 => ?_)
  have hS2 : SInv kS_5 := by have q := hS1.strike hD1.2.1 (by decide) hD1.2.2.1.1 1 500; rw [kf_18] at q; exact q
  have hD2 : CRep σ2 kS_5 3000 := hC2
  refine g_sipush X dL_known_195 (by decide) ?_
  refine g_neS X (tgt := 359) dL_known_198 (by decide) ?_
  refine g_aload_n X dL_known_201 rfl ?_
  refine g_iconst X dL_known_202 ?_
  refine g_bipush X dL_known_203 (by decide) ?_
  refine R_pileOf X hR hD2 (by decide) (a := 0) ⟨by decide, by decide⟩ ⟨by decide, by decide⟩ kf_19 (Nat.le_of_ble_eq_true rfl) dL_known_205 ?_
  refine g_neN X (tgt := 359) dL_known_208 (by decide) ?_
  refine g_aload_n X dL_known_211 rfl ?_
  refine g_iconst X dL_known_212 ?_
  refine g_sipush X dL_known_213 (by decide) ?_
  refine L_strike X hR hD2 (by decide) (a := 277) (s' := kS_6) ⟨by decide, by decide⟩ ⟨by decide, by decide⟩ kf_21 (Nat.le_of_ble_eq_true rfl) dL_known_216 (fun σ3 hC3 hf3 => ?_)
  have hS3 : SInv kS_6 := by have q := hS2.strike hD2.2.1 (by decide) hD2.2.2.1.1 1 1000; rw [kf_21] at q; exact q
  have hD3 : CRep σ3 kS_6 3600 := hC3
  refine g_sipush X dL_known_219 (by decide) ?_
  refine g_neS X (tgt := 359) dL_known_222 (by decide) ?_
  refine g_aload_n X dL_known_225 rfl ?_
  refine g_iconst X dL_known_226 ?_
  refine g_iconst X dL_known_227 ?_
  refine R_pileOf X hR hD3 (by decide) (a := 266) ⟨by decide, by decide⟩ ⟨by decide, by decide⟩ kf_22 (Nat.le_of_ble_eq_true rfl) dL_known_228 ?_
  refine g_sipush X dL_known_231 (by decide) ?_
  refine g_neS X (tgt := 359) dL_known_234 (by decide) ?_
  refine g_aload_n X dL_known_237 rfl ?_
  refine g_iconst X dL_known_238 ?_
  refine g_bipush X dL_known_239 (by decide) ?_
  refine R_pileOf X hR hD3 (by decide) (a := 1) ⟨by decide, by decide⟩ ⟨by decide, by decide⟩ kf_23 (Nat.le_of_ble_eq_true rfl) dL_known_241 ?_
  refine g_iconst X dL_known_244 ?_
  refine g_neS X (tgt := 359) dL_known_245 (by decide) ?_
  refine g_aload_n X dL_known_248 rfl ?_
  refine g_iconst X dL_known_249 ?_
  refine g_bipush X dL_known_250 (by decide) ?_
  refine R_pileOf X hR hD3 (by decide) (a := 11) ⟨by decide, by decide⟩ ⟨by decide, by decide⟩ kf_24 (Nat.le_of_ble_eq_true rfl) dL_known_252 ?_
  refine g_bipush X dL_known_255 (by decide) ?_
  refine g_neS X (tgt := 359) dL_known_257 (by decide) ?_
  refine g_aload_n X dL_known_260 rfl ?_
  refine g_iconst X dL_known_261 ?_
  refine g_bipush X dL_known_262 (by decide) ?_
  refine R_pileOf X hR hD3 (by decide) (a := 12) ⟨by decide, by decide⟩ ⟨by decide, by decide⟩ kf_25 (Nat.le_of_ble_eq_true rfl) dL_known_264 ?_
  refine g_bipush X dL_known_267 (by decide) ?_
  refine g_neS X (tgt := 359) dL_known_269 (by decide) ?_
  refine g_aload_n X dL_known_272 rfl ?_
  refine g_bipush X dL_known_273 (by decide) ?_
  refine R_count X hR hD3 (by decide) (a := 11) ⟨by decide, by decide⟩ kf_26 (Nat.le_of_ble_eq_true rfl) dL_known_275 ?_
  refine g_ldc2 X (n := 11) dL_known_278 wK_RL_176 (by decide) ?_
  refine g_lcmpS X dL_known_281 ?_
  refine g_neN X (tgt := 359) dL_known_282 (by decide) ?_
  refine g_aload_n X dL_known_285 rfl ?_
  refine g_bipush X dL_known_286 (by decide) ?_
  refine R_count X hR hD3 (by decide) (a := 680) ⟨by decide, by decide⟩ kf_27 (Nat.le_of_ble_eq_true rfl) dL_known_288 ?_
  refine g_ldc2 X (n := 680) dL_known_291 wK_RL_178 (by decide) ?_
  refine g_lcmpS X dL_known_294 ?_
  refine g_neN X (tgt := 359) dL_known_295 (by decide) ?_
  refine g_aload_n X dL_known_298 rfl ?_
  refine g_iconst X dL_known_299 ?_
  refine R_count X hR hD3 (by decide) (a := 3) ⟨by decide, by decide⟩ kf_28 (Nat.le_of_ble_eq_true rfl) dL_known_300 ?_
  refine g_ldc2 X (n := 3) dL_known_303 wK_RL_168 (by decide) ?_
  refine g_lcmpS X dL_known_306 ?_
  refine g_neN X (tgt := 359) dL_known_307 (by decide) ?_
  refine g_aload_n X dL_known_310 rfl ?_
  refine g_bipush X dL_known_311 (by decide) ?_
  refine R_count X hR hD3 (by decide) (a := 35000) ⟨by decide, by decide⟩ kf_29 (Nat.le_of_ble_eq_true rfl) dL_known_313 ?_
  refine g_ldc2 X (n := 35000) dL_known_316 wK_RL_180 (by decide) ?_
  refine g_lcmpS X dL_known_319 ?_
  refine g_neN X (tgt := 359) dL_known_320 (by decide) ?_
  refine g_aload_n X dL_known_323 rfl ?_
  refine g_bipush X dL_known_324 (by decide) ?_
  refine R_count X hR hD3 (by decide) (a := 34550) ⟨by decide, by decide⟩ kf_30 (Nat.le_of_ble_eq_true rfl) dL_known_326 ?_
  refine g_ldc2 X (n := 34550) dL_known_329 wK_RL_182 (by decide) ?_
  refine g_lcmpS X dL_known_332 ?_
  refine g_neN X (tgt := 359) dL_known_333 (by decide) ?_
  refine g_aload_n X dL_known_336 rfl ?_
  refine g_bipush X dL_known_337 (by decide) ?_
  refine R_count X hR hD3 (by decide) (a := 691) ⟨by decide, by decide⟩ kf_31 (Nat.le_of_ble_eq_true rfl) dL_known_339 ?_
  refine g_ldc2 X (n := 691) dL_known_342 wK_RL_184 (by decide) ?_
  refine g_lcmpS X dL_known_345 ?_
  refine g_neN X (tgt := 359) dL_known_346 (by decide) ?_
  refine g_aload_n X dL_known_349 rfl ?_
  refine g_iconst X dL_known_350 ?_
  refine R_count X hR hD3 (by decide) (a := 1) ⟨by decide, by decide⟩ kf_32 (Nat.le_of_ble_eq_true rfl) dL_known_351 ?_
  refine g_lconst X (z := 1) rfl dL_known_354 ?_
  refine g_lcmpS X dL_known_355 ?_
  refine g_eqY X (tgt := 361) dL_known_356 (by decide) ?_
  exact next _ hD3 hS3
set_option maxHeartbeats 4000000 in
set_option maxRecDepth 100000 in
theorem kn_3 {l : Launch} {E : wEnv} {K : Mem → Nat → List (Option Value) → List Value → Prop} {σ : Mem} (X : Ctx l E K RL cL_known 1 7 180) (hC : CRep σ kS_6 3600) (hS : SInv kS_6) (next : ∀ σ', CRep σ' kS_8 4800 → SInv kS_8 → K σ' 555 [some (rv E 0)] []) : K σ 361 [some (rv E 0)] [] := by
  have hR : 7 ≤ (7 : Nat) ∧ 180 ≤ (180 : Nat) := ⟨Nat.le_refl _, Nat.le_refl _⟩
  refine g_aload_n X dL_known_361 rfl ?_
  refine g_iconst X dL_known_362 ?_
  refine g_sipush X dL_known_363 (by decide) ?_
  refine L_test X hR hC (by decide) (a := 0) (s' := kS_7) ⟨by decide, by decide⟩ ⟨by decide, by decide⟩ kf_33 (Nat.le_of_ble_eq_true rfl) dL_known_366 (fun σ1 hC1 hf1 => ?_)
  have hS1 : SInv kS_7 := by have q := hS.test hC.2.1 hC.2.2.1.1 0 502; rw [kf_33] at q; exact q
  have hD1 : CRep σ1 kS_7 4200 := hC1
  refine g_neN X (tgt := 553) dL_known_369 (by decide) ?_
  refine g_aload_n X dL_known_372 rfl ?_
  refine g_iconst X dL_known_373 ?_
  refine g_bipush X dL_known_374 (by decide) ?_
  refine R_pileOf X hR hD1 (by decide) (a := 1) ⟨by decide, by decide⟩ ⟨by decide, by decide⟩ kf_34 (Nat.le_of_ble_eq_true rfl) dL_known_376 ?_
  refine g_iconst X dL_known_379 ?_
  refine g_neS X (tgt := 553) dL_known_380 (by decide) ?_
  refine g_aload_n X dL_known_383 rfl ?_
  refine g_iconst X dL_known_384 ?_
  refine g_sipush X dL_known_385 (by decide) ?_
  refine L_test X hR hD1 (by decide) (a := 2) (s' := kS_8) ⟨by decide, by decide⟩ ⟨by decide, by decide⟩ kf_35 (Nat.le_of_ble_eq_true rfl) dL_known_388 (fun σ2 hC2 hf2 => ?_)
  have hS2 : SInv kS_8 := by have q := hS1.test hD1.2.1 hD1.2.2.1.1 0 512; rw [kf_35] at q; exact q
  have hD2 : CRep σ2 kS_8 4800 := hC2
  refine g_iconst X dL_known_391 ?_
  refine g_neS X (tgt := 553) dL_known_392 (by decide) ?_
  refine g_aload_n X dL_known_395 rfl ?_
  refine g_iconst X dL_known_396 ?_
  refine g_bipush X dL_known_397 (by decide) ?_
  refine R_pileOf X hR hD2 (by decide) (a := 0) ⟨by decide, by decide⟩ ⟨by decide, by decide⟩ kf_36 (Nat.le_of_ble_eq_true rfl) dL_known_399 ?_
  refine g_neN X (tgt := 553) dL_known_402 (by decide) ?_
  refine g_aload_n X dL_known_405 rfl ?_
  refine g_iconst X dL_known_406 ?_
  refine g_bipush X dL_known_407 (by decide) ?_
  refine R_pileOf X hR hD2 (by decide) (a := 2) ⟨by decide, by decide⟩ ⟨by decide, by decide⟩ kf_37 (Nat.le_of_ble_eq_true rfl) dL_known_409 ?_
  refine g_iconst X dL_known_412 ?_
  refine g_neS X (tgt := 553) dL_known_413 (by decide) ?_
  refine g_aload_n X dL_known_416 rfl ?_
  refine g_iconst X dL_known_417 ?_
  refine g_bipush X dL_known_418 (by decide) ?_
  refine R_pileOf X hR hD2 (by decide) (a := 25) ⟨by decide, by decide⟩ ⟨by decide, by decide⟩ kf_38 (Nat.le_of_ble_eq_true rfl) dL_known_420 ?_
  refine g_bipush X dL_known_423 (by decide) ?_
  refine g_neS X (tgt := 553) dL_known_425 (by decide) ?_
  refine g_aload_n X dL_known_428 rfl ?_
  refine g_iconst X dL_known_429 ?_
  refine g_iconst X dL_known_430 ?_
  refine R_pileOf X hR hD2 (by decide) (a := 1) ⟨by decide, by decide⟩ ⟨by decide, by decide⟩ kf_39 (Nat.le_of_ble_eq_true rfl) dL_known_431 ?_
  refine g_iconst X dL_known_434 ?_
  refine g_neS X (tgt := 553) dL_known_435 (by decide) ?_
  refine g_aload_n X dL_known_438 rfl ?_
  refine g_bipush X dL_known_439 (by decide) ?_
  refine R_count X hR hD2 (by decide) (a := 2) ⟨by decide, by decide⟩ kf_40 (Nat.le_of_ble_eq_true rfl) dL_known_441 ?_
  refine g_ldc2 X (n := 2) dL_known_444 wK_RL_186 (by decide) ?_
  refine g_lcmpS X dL_known_447 ?_
  refine g_neN X (tgt := 553) dL_known_448 (by decide) ?_
  refine g_aload_n X dL_known_451 rfl ?_
  refine g_iconst X dL_known_452 ?_
  refine g_sipush X dL_known_453 (by decide) ?_
  refine R_would X hR hD2 (by decide) (a := 277) ⟨by decide, by decide⟩ ⟨by decide, by decide⟩ kf_41 (Nat.le_of_ble_eq_true rfl) dL_known_456 ?_
  refine g_sipush X dL_known_459 (by decide) ?_
  refine g_neS X (tgt := 553) dL_known_462 (by decide) ?_
  refine g_aload_n X dL_known_465 rfl ?_
  refine g_iconst X dL_known_466 ?_
  refine g_sipush X dL_known_467 (by decide) ?_
  refine R_fallFor X hR hD2 (by decide) (a := 1000) ⟨by decide, by decide⟩ ⟨by decide, by decide⟩ (fallFor_at hD2.2.1 1000 (by decide +kernel) (by decide +kernel) (by decide) (by decide +kernel) (by decide +kernel)) (Nat.le_of_ble_eq_true rfl) dL_known_470 ?_
  refine g_sipush X dL_known_473 (by decide) ?_
  refine g_neS X (tgt := 553) dL_known_476 (by decide) ?_
  refine g_aload_n X dL_known_479 rfl ?_
  refine g_iconst X dL_known_480 ?_
  refine g_sipush X dL_known_481 (by decide) ?_
  refine R_fallFor X hR hD2 (by decide) (a := 997) ⟨by decide, by decide⟩ ⟨by decide, by decide⟩ (fallFor_at hD2.2.1 997 (by decide +kernel) (by decide +kernel) (by decide) (by decide +kernel) (by decide +kernel)) (Nat.le_of_ble_eq_true rfl) dL_known_484 ?_
  refine g_sipush X dL_known_487 (by decide) ?_
  refine g_neS X (tgt := 553) dL_known_490 (by decide) ?_
  refine g_aload_n X dL_known_493 rfl ?_
  refine g_iconst X dL_known_494 ?_
  refine g_sipush X dL_known_495 (by decide) ?_
  refine g_sipush X dL_known_498 (by decide) ?_
  refine R_blowsTo X hR hD2 (by decide) (a := 0) ⟨by decide, by decide⟩ ⟨by decide, by decide⟩ ⟨by decide, by decide⟩ kf_42 (Nat.le_of_ble_eq_true rfl) dL_known_501 ?_
  refine g_neN X (tgt := 553) dL_known_504 (by decide) ?_
  refine g_aload_n X dL_known_507 rfl ?_
  refine g_iconst X dL_known_508 ?_
  refine g_sipush X dL_known_509 (by decide) ?_
  refine g_sipush X dL_known_512 (by decide) ?_
  refine R_blowsTo X hR hD2 (by decide) (a := 1) ⟨by decide, by decide⟩ ⟨by decide, by decide⟩ ⟨by decide, by decide⟩ kf_43 (Nat.le_of_ble_eq_true rfl) dL_known_515 ?_
  refine g_iconst X dL_known_518 ?_
  refine g_neS X (tgt := 553) dL_known_519 (by decide) ?_
  refine g_aload_n X dL_known_522 rfl ?_
  refine g_iconst X dL_known_523 ?_
  refine g_sipush X dL_known_524 (by decide) ?_
  refine g_sipush X dL_known_527 (by decide) ?_
  refine R_blowsTo X hR hD2 (by decide) (a := 3) ⟨by decide, by decide⟩ ⟨by decide, by decide⟩ ⟨by decide, by decide⟩ kf_44 (Nat.le_of_ble_eq_true rfl) dL_known_530 ?_
  refine g_iconst X dL_known_533 ?_
  refine g_neS X (tgt := 553) dL_known_534 (by decide) ?_
  refine g_aload_n X dL_known_537 rfl ?_
  refine g_iconst X dL_known_538 ?_
  refine g_sipush X dL_known_539 (by decide) ?_
  refine g_sipush X dL_known_542 (by decide) ?_
  refine R_blowsTo X hR hD2 (by decide) (a := -4) ⟨by decide, by decide⟩ ⟨by decide, by decide⟩ ⟨by decide, by decide⟩ kf_45 (Nat.le_of_ble_eq_true rfl) dL_known_545 ?_
  refine g_bipush X dL_known_548 (by decide) ?_
  refine g_eqS X (tgt := 555) dL_known_550 (by decide) ?_
  exact next _ hD2 hS2
set_option maxHeartbeats 4000000 in
set_option maxRecDepth 100000 in
theorem kn_4 {l : Launch} {E : wEnv} {K : Mem → Nat → List (Option Value) → List Value → Prop} {σ : Mem} (X : Ctx l E K RL cL_known 1 7 180) (hC : CRep σ kS_8 4800) (hS : SInv kS_8) (next : ∀ σ', CRep σ' kS_9 5400 → SInv kS_9 → K σ' 697 [some (rv E 0)] []) : K σ 555 [some (rv E 0)] [] := by
  have hR : 7 ≤ (7 : Nat) ∧ 180 ≤ (180 : Nat) := ⟨Nat.le_refl _, Nat.le_refl _⟩
  refine g_aload_n X dL_known_555 rfl ?_
  refine g_iconst X dL_known_556 ?_
  refine g_sipush X dL_known_557 (by decide) ?_
  refine g_iconst X dL_known_560 ?_
  refine g_bipush X dL_known_561 (by decide) ?_
  refine L_drive X hR hC (by decide) (a := 3) (s' := kS_9) ⟨by decide, by decide⟩ ⟨by decide, by decide⟩ ⟨by decide, by decide⟩ ⟨by decide, by decide⟩ kf_50 (Nat.le_of_ble_eq_true rfl) dL_known_563 (fun σ1 hC1 hf1 => ?_)
  have hS1 : SInv kS_9 := by have q := hS.drive hC.2.1 (by decide) hC.2.2.1.1 0 1000 0 100; rw [kf_50] at q; exact q
  have hD1 : CRep σ1 kS_9 5400 := hC1
  refine g_iconst X dL_known_566 ?_
  refine g_neS X (tgt := 695) dL_known_567 (by decide) ?_
  refine g_aload_n X dL_known_570 rfl ?_
  refine g_iconst X dL_known_571 ?_
  refine g_iconst X dL_known_572 ?_
  refine R_pileOf X hR hD1 (by decide) (a := 1000) ⟨by decide, by decide⟩ ⟨by decide, by decide⟩ kf_51 (Nat.le_of_ble_eq_true rfl) dL_known_573 ?_
  refine g_sipush X dL_known_576 (by decide) ?_
  refine g_neS X (tgt := 695) dL_known_579 (by decide) ?_
  refine g_aload_n X dL_known_582 rfl ?_
  refine g_iconst X dL_known_583 ?_
  refine g_sipush X dL_known_584 (by decide) ?_
  refine N_strike X hR hD1 (by decide) (a := -2) ⟨by decide, by decide⟩ ⟨by decide, by decide⟩ kf_52 (Nat.le_of_ble_eq_true rfl) dL_known_587 (fun σ2 hC2 hf2 => ?_)
  refine g_bipush X dL_known_590 (by decide) ?_
  refine g_neS X (tgt := 695) dL_known_592 (by decide) ?_
  refine g_aload_n X dL_known_595 rfl ?_
  refine g_iconst X dL_known_596 ?_
  refine g_sipush X dL_known_597 (by decide) ?_
  refine R_would X hR hC2 (by decide) (a := -2) ⟨by decide, by decide⟩ ⟨by decide, by decide⟩ kf_53 (Nat.le_of_ble_eq_true rfl) dL_known_600 ?_
  refine g_bipush X dL_known_603 (by decide) ?_
  refine g_neS X (tgt := 695) dL_known_605 (by decide) ?_
  refine g_aload_n X dL_known_608 rfl ?_
  refine g_iconst X dL_known_609 ?_
  refine g_iconst X dL_known_610 ?_
  refine R_fallFor X hR hC2 (by decide) (a := -2) ⟨by decide, by decide⟩ ⟨by decide, by decide⟩ kf_54 (Nat.le_of_ble_eq_true rfl) dL_known_611 ?_
  refine g_bipush X dL_known_614 (by decide) ?_
  refine g_neS X (tgt := 695) dL_known_616 (by decide) ?_
  refine g_aload_n X dL_known_619 rfl ?_
  refine g_iconst X dL_known_620 ?_
  refine g_sipush X dL_known_621 (by decide) ?_
  refine g_iconst X dL_known_624 ?_
  refine g_iconst X dL_known_625 ?_
  refine N_drive X hR hC2 (by decide) (a := -2) ⟨by decide, by decide⟩ ⟨by decide, by decide⟩ ⟨by decide, by decide⟩ ⟨by decide, by decide⟩ kf_55 (Nat.le_of_ble_eq_true rfl) dL_known_626 (fun σ3 hC3 hf3 => ?_)
  refine g_bipush X dL_known_629 (by decide) ?_
  refine g_neS X (tgt := 695) dL_known_631 (by decide) ?_
  refine g_aload_n X dL_known_634 rfl ?_
  refine g_iconst X dL_known_635 ?_
  refine g_sipush X dL_known_636 (by decide) ?_
  refine g_sipush X dL_known_639 (by decide) ?_
  refine R_blowsTo X hR hC3 (by decide) (a := 0) ⟨by decide, by decide⟩ ⟨by decide, by decide⟩ ⟨by decide, by decide⟩ kf_56 (Nat.le_of_ble_eq_true rfl) dL_known_642 ?_
  refine g_neN X (tgt := 695) dL_known_645 (by decide) ?_
  refine g_aload_n X dL_known_648 rfl ?_
  refine g_iconst X dL_known_649 ?_
  refine g_iconst X dL_known_650 ?_
  refine R_pileOf X hR hC3 (by decide) (a := 385) ⟨by decide, by decide⟩ ⟨by decide, by decide⟩ kf_57 (Nat.le_of_ble_eq_true rfl) dL_known_651 ?_
  refine g_sipush X dL_known_654 (by decide) ?_
  refine g_neS X (tgt := 695) dL_known_657 (by decide) ?_
  refine g_aload_n X dL_known_660 rfl ?_
  refine g_iconst X dL_known_661 ?_
  refine g_bipush X dL_known_662 (by decide) ?_
  refine R_pileOf X hR hC3 (by decide) (a := 29) ⟨by decide, by decide⟩ ⟨by decide, by decide⟩ kf_58 (Nat.le_of_ble_eq_true rfl) dL_known_664 ?_
  refine g_bipush X dL_known_667 (by decide) ?_
  refine g_neS X (tgt := 695) dL_known_669 (by decide) ?_
  refine g_aload_n X dL_known_672 rfl ?_
  refine g_bipush X dL_known_673 (by decide) ?_
  refine R_count X hR hC3 (by decide) (a := 40) ⟨by decide, by decide⟩ kf_59 (Nat.le_of_ble_eq_true rfl) dL_known_675 ?_
  refine g_ldc2 X (n := 40) dL_known_678 wK_RL_188 (by decide) ?_
  refine g_lcmpS X dL_known_681 ?_
  refine g_neN X (tgt := 695) dL_known_682 (by decide) ?_
  refine g_aload_n X dL_known_685 rfl ?_
  refine g_iconst X dL_known_686 ?_
  refine g_bipush X dL_known_687 (by decide) ?_
  refine R_pileOf X hR hC3 (by decide) (a := 0) ⟨by decide, by decide⟩ ⟨by decide, by decide⟩ kf_60 (Nat.le_of_ble_eq_true rfl) dL_known_689 ?_
  refine g_eqY X (tgt := 697) dL_known_692 (by decide) ?_
  exact next _ hC3 hS1
set_option maxHeartbeats 4000000 in
set_option maxRecDepth 100000 in
theorem kn_5 {l : Launch} {E : wEnv} {K : Mem → Nat → List (Option Value) → List Value → Prop} {σ : Mem} (X : Ctx l E K RL cL_known 1 7 180) (hC : CRep σ kS_9 5400) (hS : SInv kS_9) (next : ∀ σ', CRep σ' kS_9 5400 → SInv kS_9 → K σ' 830 [some (rv E 0)] []) : K σ 697 [some (rv E 0)] [] := by
  have hR : 7 ≤ (7 : Nat) ∧ 180 ≤ (180 : Nat) := ⟨Nat.le_refl _, Nat.le_refl _⟩
  refine g_aload_n X dL_known_697 rfl ?_
  refine g_iconst X dL_known_698 ?_
  refine R_runs X hR hC (by decide) hS (a := 1) ⟨by decide, by decide⟩ kf_61 (Nat.le_of_ble_eq_true rfl) dL_known_699 (fun σ1 hC1 hf1 => ?_)
  refine g_iconst X dL_known_702 ?_
  refine g_neS X (tgt := 828) dL_known_703 (by decide) ?_
  refine g_aload_n X dL_known_706 rfl ?_
  refine g_iconst X dL_known_707 ?_
  refine g_iconst X dL_known_708 ?_
  refine g_iconst X dL_known_709 ?_
  refine R_run X hR hC1 (by decide) hS (a := 277) ⟨by decide, by decide⟩ ⟨by decide, by decide⟩ ⟨by decide, by decide⟩ kf_62 (Nat.le_of_ble_eq_true rfl) dL_known_710 (fun σ2 hC2 hf2 => ?_)
  refine g_sipush X dL_known_713 (by decide) ?_
  refine g_neS X (tgt := 828) dL_known_716 (by decide) ?_
  refine g_aload_n X dL_known_719 rfl ?_
  refine g_iconst X dL_known_720 ?_
  refine g_iconst X dL_known_721 ?_
  refine g_iconst X dL_known_722 ?_
  refine R_run X hR hC2 (by decide) hS (a := 3) ⟨by decide, by decide⟩ ⟨by decide, by decide⟩ ⟨by decide, by decide⟩ kf_63 (Nat.le_of_ble_eq_true rfl) dL_known_723 (fun σ3 hC3 hf3 => ?_)
  refine g_iconst X dL_known_726 ?_
  refine g_neS X (tgt := 828) dL_known_727 (by decide) ?_
  refine g_aload_n X dL_known_730 rfl ?_
  refine g_iconst X dL_known_731 ?_
  refine g_iconst X dL_known_732 ?_
  refine g_iconst X dL_known_733 ?_
  refine R_run X hR hC3 (by decide) hS (a := 50) ⟨by decide, by decide⟩ ⟨by decide, by decide⟩ ⟨by decide, by decide⟩ kf_64 (Nat.le_of_ble_eq_true rfl) dL_known_734 (fun σ4 hC4 hf4 => ?_)
  refine g_bipush X dL_known_737 (by decide) ?_
  refine g_neS X (tgt := 828) dL_known_739 (by decide) ?_
  refine g_aload_n X dL_known_742 rfl ?_
  refine g_iconst X dL_known_743 ?_
  refine g_iconst X dL_known_744 ?_
  refine g_iconst X dL_known_745 ?_
  refine R_run X hR hC4 (by decide) hS (a := 831) ⟨by decide, by decide⟩ ⟨by decide, by decide⟩ ⟨by decide, by decide⟩ kf_65 (Nat.le_of_ble_eq_true rfl) dL_known_746 (fun σ5 hC5 hf5 => ?_)
  refine g_sipush X dL_known_749 (by decide) ?_
  refine g_neS X (tgt := 828) dL_known_752 (by decide) ?_
  refine g_aload_n X dL_known_755 rfl ?_
  refine g_iconst X dL_known_756 ?_
  refine g_iconst X dL_known_757 ?_
  refine g_iconst X dL_known_758 ?_
  refine R_run X hR hC5 (by decide) hS (a := -4) ⟨by decide, by decide⟩ ⟨by decide, by decide⟩ ⟨by decide, by decide⟩ kf_66 (Nat.le_of_ble_eq_true rfl) dL_known_759 (fun σ6 hC6 hf6 => ?_)
  refine g_bipush X dL_known_762 (by decide) ?_
  refine g_neS X (tgt := 828) dL_known_764 (by decide) ?_
  refine g_aload_n X dL_known_767 rfl ?_
  refine g_iconst X dL_known_768 ?_
  refine g_iconst X dL_known_769 ?_
  refine g_iconst X dL_known_770 ?_
  refine R_blow X hR hC6 (by decide) (a := 178) ⟨by decide, by decide⟩ ⟨by decide, by decide⟩ ⟨by decide, by decide⟩ kf_67 (Nat.le_of_ble_eq_true rfl) dL_known_771 ?_
  refine g_sipush X dL_known_774 (by decide) ?_
  refine g_neS X (tgt := 828) dL_known_777 (by decide) ?_
  refine g_aload_n X dL_known_780 rfl ?_
  refine g_iconst X dL_known_781 ?_
  refine g_iconst X dL_known_782 ?_
  refine g_iconst X dL_known_783 ?_
  refine R_blow X hR hC6 (by decide) (a := 77) ⟨by decide, by decide⟩ ⟨by decide, by decide⟩ ⟨by decide, by decide⟩ kf_68 (Nat.le_of_ble_eq_true rfl) dL_known_784 ?_
  refine g_bipush X dL_known_787 (by decide) ?_
  refine g_neS X (tgt := 828) dL_known_789 (by decide) ?_
  refine g_aload_n X dL_known_792 rfl ?_
  refine g_iconst X dL_known_793 ?_
  refine g_iconst X dL_known_794 ?_
  refine g_iconst X dL_known_795 ?_
  refine R_blow X hR hC6 (by decide) (a := 277) ⟨by decide, by decide⟩ ⟨by decide, by decide⟩ ⟨by decide, by decide⟩ kf_69 (Nat.le_of_ble_eq_true rfl) dL_known_796 ?_
  refine g_sipush X dL_known_799 (by decide) ?_
  refine g_neS X (tgt := 828) dL_known_802 (by decide) ?_
  refine g_aload_n X dL_known_805 rfl ?_
  refine g_iconst X dL_known_806 ?_
  refine g_iconst X dL_known_807 ?_
  refine g_iconst X dL_known_808 ?_
  refine R_blow X hR hC6 (by decide) (a := -4) ⟨by decide, by decide⟩ ⟨by decide, by decide⟩ ⟨by decide, by decide⟩ kf_70 (Nat.le_of_ble_eq_true rfl) dL_known_809 ?_
  refine g_bipush X dL_known_812 (by decide) ?_
  refine g_neS X (tgt := 828) dL_known_814 (by decide) ?_
  refine g_aload_n X dL_known_817 rfl ?_
  refine g_iconst X dL_known_818 ?_
  refine g_bipush X dL_known_819 (by decide) ?_
  refine R_pileOf X hR hC6 (by decide) (a := 4) ⟨by decide, by decide⟩ ⟨by decide, by decide⟩ kf_71 (Nat.le_of_ble_eq_true rfl) dL_known_821 ?_
  refine g_iconst X dL_known_824 ?_
  refine g_eqS X (tgt := 830) dL_known_825 (by decide) ?_
  exact next _ hC6 hS
set_option maxHeartbeats 4000000 in
set_option maxRecDepth 100000 in
theorem kn_6 {l : Launch} {E : wEnv} {K : Mem → Nat → List (Option Value) → List Value → Prop} {σ : Mem} (X : Ctx l E K RL cL_known 1 7 180) (hC : CRep σ kS_9 5400) (hS : SInv kS_9) (next : ∀ σ', CRep σ' kS_13 7800 → SInv kS_13 → K σ' 978 [some (rv E 0)] []) : K σ 830 [some (rv E 0)] [] := by
  have hR : 7 ≤ (7 : Nat) ∧ 180 ≤ (180 : Nat) := ⟨Nat.le_refl _, Nat.le_refl _⟩
  refine g_aload_n X dL_known_830 rfl ?_
  refine g_iconst X dL_known_831 ?_
  refine g_bipush X dL_known_832 (by decide) ?_
  refine g_sipush X dL_known_834 (by decide) ?_
  refine L_stratum X hR hC (by decide) (a := 1) (s' := kS_10) ⟨by decide, by decide⟩ ⟨by decide, by decide⟩ ⟨by decide, by decide⟩ kf_72 (Nat.le_of_ble_eq_true rfl) dL_known_837 (fun σ1 hC1 hf1 => ?_)
  have hS1 : SInv kS_10 := by have q := hS.stratum hC.2.1 hC.2.2.1.1 0 100 500; rw [kf_72] at q; exact q
  have hD1 : CRep σ1 kS_10 6000 := hC1
  refine g_iconst X dL_known_840 ?_
  refine g_neS X (tgt := 976) dL_known_841 (by decide) ?_
  refine g_aload_n X dL_known_844 rfl ?_
  refine g_iconst X dL_known_845 ?_
  refine g_sipush X dL_known_846 (by decide) ?_
  refine L_strike X hR hD1 (by decide) (a := 25) (s' := kS_11) ⟨by decide, by decide⟩ ⟨by decide, by decide⟩ kf_74 (Nat.le_of_ble_eq_true rfl) dL_known_849 (fun σ2 hC2 hf2 => ?_)
  have hS2 : SInv kS_11 := by have q := hS1.strike hD1.2.1 (by decide) hD1.2.2.1.1 2 1000; rw [kf_74] at q; exact q
  have hD2 : CRep σ2 kS_11 6600 := hC2
  refine g_bipush X dL_known_852 (by decide) ?_
  refine g_neS X (tgt := 976) dL_known_854 (by decide) ?_
  refine g_aload_n X dL_known_857 rfl ?_
  refine g_iconst X dL_known_858 ?_
  refine g_sipush X dL_known_859 (by decide) ?_
  refine g_iconst X dL_known_862 ?_
  refine g_bipush X dL_known_863 (by decide) ?_
  refine L_drive X hR hD2 (by decide) (a := 4) (s' := kS_12) ⟨by decide, by decide⟩ ⟨by decide, by decide⟩ ⟨by decide, by decide⟩ ⟨by decide, by decide⟩ kf_80 (Nat.le_of_ble_eq_true rfl) dL_known_865 (fun σ3 hC3 hf3 => ?_)
  have hS3 : SInv kS_12 := by have q := hS2.drive hD2.2.1 (by decide) hD2.2.2.1.1 2 1000 5 100; rw [kf_80] at q; exact q
  have hD3 : CRep σ3 kS_12 7200 := hC3
  refine g_iconst X dL_known_868 ?_
  refine g_neS X (tgt := 976) dL_known_869 (by decide) ?_
  refine g_aload_n X dL_known_872 rfl ?_
  refine g_iconst X dL_known_873 ?_
  refine g_iconst X dL_known_874 ?_
  refine R_pileOf X hR hD3 (by decide) (a := 104) ⟨by decide, by decide⟩ ⟨by decide, by decide⟩ kf_81 (Nat.le_of_ble_eq_true rfl) dL_known_875 ?_
  refine g_bipush X dL_known_878 (by decide) ?_
  refine g_neS X (tgt := 976) dL_known_880 (by decide) ?_
  refine g_aload_n X dL_known_883 rfl ?_
  refine g_iconst X dL_known_884 ?_
  refine g_iconst X dL_known_885 ?_
  refine g_iconst X dL_known_886 ?_
  refine R_blow X hR hD3 (by decide) (a := 4) ⟨by decide, by decide⟩ ⟨by decide, by decide⟩ ⟨by decide, by decide⟩ kf_82 (Nat.le_of_ble_eq_true rfl) dL_known_887 ?_
  refine g_iconst X dL_known_890 ?_
  refine g_neS X (tgt := 976) dL_known_891 (by decide) ?_
  refine g_aload_n X dL_known_894 rfl ?_
  refine g_iconst X dL_known_895 ?_
  refine g_iconst X dL_known_896 ?_
  refine g_iconst X dL_known_897 ?_
  refine R_blow X hR hD3 (by decide) (a := 2000) ⟨by decide, by decide⟩ ⟨by decide, by decide⟩ ⟨by decide, by decide⟩ kf_83 (Nat.le_of_ble_eq_true rfl) dL_known_898 ?_
  refine g_sipush X dL_known_901 (by decide) ?_
  refine g_neS X (tgt := 976) dL_known_904 (by decide) ?_
  refine g_aload_n X dL_known_907 rfl ?_
  refine g_iconst X dL_known_908 ?_
  refine g_bipush X dL_known_909 (by decide) ?_
  refine L_set X hR hD3 (by decide) (a := 3) (s' := kS_13) ⟨by decide, by decide⟩ ⟨by decide, by decide⟩ kf_84 (Nat.le_of_ble_eq_true rfl) dL_known_911 (fun σ4 hC4 hf4 => ?_)
  have hS4 : SInv kS_13 := by have q := hS3.set hD3.2.1 hD3.2.2.1.1 2 50; rw [kf_84] at q; exact q
  have hD4 : CRep σ4 kS_13 7800 := hC4
  refine g_iconst X dL_known_914 ?_
  refine g_neS X (tgt := 976) dL_known_915 (by decide) ?_
  refine g_aload_n X dL_known_918 rfl ?_
  refine g_iconst X dL_known_919 ?_
  refine g_bipush X dL_known_920 (by decide) ?_
  refine R_would X hR hD4 (by decide) (a := 0) ⟨by decide, by decide⟩ ⟨by decide, by decide⟩ kf_85 (Nat.le_of_ble_eq_true rfl) dL_known_922 ?_
  refine g_neN X (tgt := 976) dL_known_925 (by decide) ?_
  refine g_aload_n X dL_known_928 rfl ?_
  refine g_iconst X dL_known_929 ?_
  refine g_bipush X dL_known_930 (by decide) ?_
  refine g_bipush X dL_known_932 (by decide) ?_
  refine R_blowsTo X hR hD4 (by decide) (a := -4) ⟨by decide, by decide⟩ ⟨by decide, by decide⟩ ⟨by decide, by decide⟩ kf_86 (Nat.le_of_ble_eq_true rfl) dL_known_934 ?_
  refine g_bipush X dL_known_937 (by decide) ?_
  refine g_neS X (tgt := 976) dL_known_939 (by decide) ?_
  refine g_aload_n X dL_known_942 rfl ?_
  refine g_iconst X dL_known_943 ?_
  refine g_bipush X dL_known_944 (by decide) ?_
  refine g_bipush X dL_known_946 (by decide) ?_
  refine R_blowsTo X hR hD4 (by decide) (a := 0) ⟨by decide, by decide⟩ ⟨by decide, by decide⟩ ⟨by decide, by decide⟩ kf_87 (Nat.le_of_ble_eq_true rfl) dL_known_948 ?_
  refine g_neN X (tgt := 976) dL_known_951 (by decide) ?_
  refine g_aload_n X dL_known_954 rfl ?_
  refine g_iconst X dL_known_955 ?_
  refine g_sipush X dL_known_956 (by decide) ?_
  refine R_fallFor X hR hD4 (by decide) (a := -4) ⟨by decide, by decide⟩ ⟨by decide, by decide⟩ (fallFor_no hD4.2.1 (by decide +kernel) (by decide +kernel) (by decide +kernel)) (Nat.le_of_ble_eq_true rfl) dL_known_959 ?_
  refine g_bipush X dL_known_962 (by decide) ?_
  refine g_neS X (tgt := 976) dL_known_964 (by decide) ?_
  refine g_aload_n X dL_known_967 rfl ?_
  refine g_iconst X dL_known_968 ?_
  refine g_iconst X dL_known_969 ?_
  refine R_ground X hR hD4 (by decide) (a := 0) ⟨by decide, by decide⟩ ⟨by decide, by decide⟩ kf_88 (Nat.le_of_ble_eq_true rfl) dL_known_970 ?_
  refine g_eqY X (tgt := 978) dL_known_973 (by decide) ?_
  exact next _ hD4 hS4
set_option maxHeartbeats 4000000 in
set_option maxRecDepth 100000 in
theorem kn_7 {l : Launch} {E : wEnv} {K : Mem → Nat → List (Option Value) → List Value → Prop} {σ : Mem} (X : Ctx l E K RL cL_known 1 7 180) (hC : CRep σ kS_13 7800) (hS : SInv kS_13) (next : ∀ σ' lv, K σ' 1036 lv [iv 1]) : K σ 978 [some (rv E 0)] [] := by
  have hR : 7 ≤ (7 : Nat) ∧ 180 ≤ (180 : Nat) := ⟨Nat.le_refl _, Nat.le_refl _⟩
  refine g_aload_n X dL_known_978 rfl ?_
  refine g_iconst X dL_known_979 ?_
  refine g_iconst X dL_known_980 ?_
  refine L_set X hR hC (by decide) (a := 50) (s' := kS_14) ⟨by decide, by decide⟩ ⟨by decide, by decide⟩ kf_89 (Nat.le_of_ble_eq_true rfl) dL_known_981 (fun σ1 hC1 hf1 => ?_)
  have hS1 : SInv kS_14 := by have q := hS.set hC.2.1 hC.2.2.1.1 2 0; rw [kf_89] at q; exact q
  have hD1 : CRep σ1 kS_14 8400 := hC1
  refine g_bipush X dL_known_984 (by decide) ?_
  refine g_neS X (tgt := 1035) dL_known_986 (by decide) ?_
  refine g_aload_n X dL_known_989 rfl ?_
  refine g_iconst X dL_known_990 ?_
  refine g_sipush X dL_known_991 (by decide) ?_
  refine L_strike X hR hD1 (by decide) (a := 0) (s' := kS_15) ⟨by decide, by decide⟩ ⟨by decide, by decide⟩ kf_91 (Nat.le_of_ble_eq_true rfl) dL_known_994 (fun σ2 hC2 hf2 => ?_)
  have hS2 : SInv kS_15 := by have q := hS1.strike hD1.2.1 (by decide) hD1.2.2.1.1 2 142; rw [kf_91] at q; exact q
  have hD2 : CRep σ2 kS_15 9000 := hC2
  refine g_neN X (tgt := 1035) dL_known_997 (by decide) ?_
  refine g_aload_n X dL_known_1000 rfl ?_
  refine g_iconst X dL_known_1001 ?_
  refine g_iconst X dL_known_1002 ?_
  refine R_pileOf X hR hD2 (by decide) (a := 100000) ⟨by decide, by decide⟩ ⟨by decide, by decide⟩ kf_92 (Nat.le_of_ble_eq_true rfl) dL_known_1003 ?_
  refine g_ldc X (n := 100000) dL_known_1006 wK_RL_190 (by decide) ?_
  refine g_neS X (tgt := 1035) dL_known_1008 (by decide) ?_
  refine g_aload_n X dL_known_1011 rfl ?_
  refine g_iconst X dL_known_1012 ?_
  refine g_ldc X (n := 100000) dL_known_1013 wK_RL_190 (by decide) ?_
  refine L_test X hR hD2 (by decide) (a := 0) (s' := kS_16) ⟨by decide, by decide⟩ ⟨by decide, by decide⟩ kf_93 (Nat.le_of_ble_eq_true rfl) dL_known_1015 (fun σ3 hC3 hf3 => ?_)
  have hS3 : SInv kS_16 := by have q := hS2.test hD2.2.1 hD2.2.2.1.1 0 100000; rw [kf_93] at q; exact q
  have hD3 : CRep σ3 kS_16 9600 := hC3
  refine g_neN X (tgt := 1035) dL_known_1018 (by decide) ?_
  refine g_aload_n X dL_known_1021 rfl ?_
  refine g_iconst X dL_known_1022 ?_
  refine g_ldc X (n := 100000) dL_known_1023 wK_RL_190 (by decide) ?_
  refine L_test X hR hD3 (by decide) (a := 8000) (s' := kS_17) ⟨by decide, by decide⟩ ⟨by decide, by decide⟩ kf_94 (Nat.le_of_ble_eq_true rfl) dL_known_1025 (fun σ4 hC4 hf4 => ?_)
  have hS4 : SInv kS_17 := by have q := hS3.test hD3.2.1 hD3.2.2.1.1 2 100000; rw [kf_94] at q; exact q
  have hD4 : CRep σ4 kS_17 10200 := hC4
  refine g_if_le X (tgt := 1035) dL_known_1028 (by decide) ⟨by decide, by decide⟩ (fun q => absurd q (by decide)) (fun _ => ?_)
  refine g_iconst X dL_known_1031 ?_
  refine g_goto X (tgt := 1036) dL_known_1032 (by decide) ?_
  exact next _ _
theorem kn_all {l : Launch} {E : wEnv} {K : Mem → Nat → List (Option Value) → List Value → Prop} {σ : Mem} (X : Ctx l E K RL cL_known 1 7 180) (hC : CRep σ kS_0 0) (hS : SInv kS_0) (next : ∀ σ' lv, K σ' 1036 lv [iv 1]) : K σ 8 [some (rv E 0)] [] := by
  refine kn_1 X hC hS (fun σ1 hC1 hS1 => ?_)
  refine kn_2 X hC1 hS1 (fun σ2 hC2 hS2 => ?_)
  refine kn_3 X hC2 hS2 (fun σ3 hC3 hS3 => ?_)
  refine kn_4 X hC3 hS3 (fun σ4 hC4 hS4 => ?_)
  refine kn_5 X hC4 hS4 (fun σ5 hC5 hS5 => ?_)
  refine kn_6 X hC5 hS5 (fun σ6 hC6 hS6 => ?_)
  exact kn_7 X hC6 hS6 next
