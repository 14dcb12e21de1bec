/-! ===== records and their faults: the states, the answers ===== -/
def tS_0 : St := s0
def tS_1 : St := (tS_0.1, tS_0.2.1, tS_0.2.2.1, 6, txL [48, 58, 53, 48, 48, 59])
set_option maxRecDepth 100000 in
theorem tf_1 : faultX (texS 53026558586939 0 0 tS_0) 0 = 0 := by decide +kernel
set_option maxRecDepth 100000 in
theorem tf_2 : faultX (texS 53026558586939 0 0 tS_0) 1 = 2 := by decide +kernel
set_option maxRecDepth 100000 in
theorem tf_3 : (texS 53026558586939 0 0 tS_0).2.2.2.1 = 6 := by decide +kernel
set_option maxRecDepth 100000 in
theorem tf_4 : ∀ j, j < 6 → (texS 53026558586939 0 0 tS_0).2.2.2.2 j = txL [48, 58, 53, 48, 48, 59] j := by decide +kernel
set_option maxRecDepth 100000 in
theorem tf_5 : carryX tS_1 = (-2, tS_1) := by
  unfold carryX
  exact if_neg (by decide +kernel)
abbrev tL_2 : List (Nat × Int) := [(19, 1), (24, 0), (25, 0), (26, 1000), (18, 4), (17, 3000), (16, 200), (15, 3), (14, 70), (13, 2000), (7, 50), (1, 10000), (0, 1)]
def tS_2 : St := chS tS_1 (rowL tL_2)
set_option maxRecDepth 100000 in
theorem tf_6 : pileX tS_1 0 0 1000 = (0, tS_2) := by
  unfold pileX
  rw [if_pos (by decide), if_neg (by decide +kernel), if_neg (by decide +kernel)]
  exact Prod.ext (show tS_1.1 19 = 0 from (by decide +kernel)) (congrArg (chS tS_1) ((place_eq (L := L0) (q := 0) (by decide +kernel) (by decide +kernel)).trans (congrArg rowL (show _ = tL_2 from (by decide +kernel)))))
abbrev tL_3 : List (Nat × Int) := [(19, 2), (115, 9), (116, 9), (117, 50000), (24, 0), (25, 0), (26, 1000), (18, 4), (17, 3000), (16, 200), (15, 3), (14, 70), (13, 2000), (7, 50), (1, 10000), (0, 1)]
def tS_3 : St := chS tS_2 (rowL tL_3)
set_option maxRecDepth 100000 in
theorem tf_7 : pileX tS_2 9 9 50000 = (1, tS_3) := by
  unfold pileX
  rw [if_pos (by decide), if_neg (by decide +kernel), if_neg (by decide +kernel)]
  exact Prod.ext (show tS_2.1 19 = 1 from (by decide +kernel)) (congrArg (chS tS_2) ((place_eq (L := tL_2) (q := 1) (by decide +kernel) (by decide +kernel)).trans (congrArg rowL (show _ = tL_3 from (by decide +kernel)))))
def tS_4 : St := (tS_3.1, tS_3.2.1, tS_3.2.2.1, 6, txL [48, 58, 53, 48, 48, 59])
set_option maxRecDepth 100000 in
theorem tf_8 : faultX (texS 53026558586939 0 0 tS_3) 0 = (-4) := by decide +kernel
set_option maxRecDepth 100000 in
theorem tf_9 : faultX (texS 53026558586939 0 0 tS_3) 1 = (-4) := by decide +kernel
set_option maxRecDepth 100000 in
theorem tf_10 : (texS 53026558586939 0 0 tS_3).2.2.2.1 = 6 := by decide +kernel
set_option maxRecDepth 100000 in
theorem tf_11 : ∀ j, j < 6 → (texS 53026558586939 0 0 tS_3).2.2.2.2 j = txL [48, 58, 53, 48, 48, 59] j := by decide +kernel
def tS_5 : St := (tS_4.1, tS_4.2.1, tS_4.2.2.1, 5, txL [48, 58, 53, 48, 59])
set_option maxRecDepth 100000 in
theorem tf_12 : faultX (texS 207134994491 0 0 tS_4) 0 = 0 := by decide +kernel
set_option maxRecDepth 100000 in
theorem tf_13 : faultX (texS 207134994491 0 0 tS_4) 1 = 1 := by decide +kernel
set_option maxRecDepth 100000 in
theorem tf_14 : (texS 207134994491 0 0 tS_4).2.2.2.1 = 5 := by decide +kernel
set_option maxRecDepth 100000 in
theorem tf_15 : ∀ j, j < 5 → (texS 207134994491 0 0 tS_4).2.2.2.2 j = txL [48, 58, 53, 48, 59] j := by decide +kernel
def tS_6 : St := (tS_5.1, tS_5.2.1, tS_5.2.2.1, 6, txL [50, 58, 53, 48, 48, 59])
set_option maxRecDepth 100000 in
theorem tf_16 : faultX (texS 55225581842491 0 0 tS_5) 0 = 0 := by decide +kernel
set_option maxRecDepth 100000 in
theorem tf_17 : faultX (texS 55225581842491 0 0 tS_5) 1 = 2 := by decide +kernel
set_option maxRecDepth 100000 in
theorem tf_18 : (texS 55225581842491 0 0 tS_5).2.2.2.1 = 6 := by decide +kernel
set_option maxRecDepth 100000 in
theorem tf_19 : ∀ j, j < 6 → (texS 55225581842491 0 0 tS_5).2.2.2.2 j = txL [50, 58, 53, 48, 48, 59] j := by decide +kernel
def tS_7 : St := (tS_6.1, tS_6.2.1, tS_6.2.2.1, 7, txL [48, 58, 51, 48, 48, 49, 59])
set_option maxRecDepth 100000 in
theorem tf_20 : faultX (texS 13574790408319291 0 0 tS_6) 0 = 0 := by decide +kernel
set_option maxRecDepth 100000 in
theorem tf_21 : faultX (texS 13574790408319291 0 0 tS_6) 1 = 3 := by decide +kernel
set_option maxRecDepth 100000 in
theorem tf_22 : (texS 13574790408319291 0 0 tS_6).2.2.2.1 = 7 := by decide +kernel
set_option maxRecDepth 100000 in
theorem tf_23 : ∀ j, j < 7 → (texS 13574790408319291 0 0 tS_6).2.2.2.2 j = txL [48, 58, 51, 48, 48, 49, 59] j := by decide +kernel
def tS_8 : St := (tS_7.1, tS_7.2.1, tS_7.2.2.1, 6, txL [48, 58, 48, 57, 57, 59])
set_option maxRecDepth 100000 in
theorem tf_24 : faultX (texS 53026475292987 0 0 tS_7) 0 = 0 := by decide +kernel
set_option maxRecDepth 100000 in
theorem tf_25 : faultX (texS 53026475292987 0 0 tS_7) 1 = 3 := by decide +kernel
set_option maxRecDepth 100000 in
theorem tf_26 : (texS 53026475292987 0 0 tS_7).2.2.2.1 = 6 := by decide +kernel
set_option maxRecDepth 100000 in
theorem tf_27 : ∀ j, j < 6 → (texS 53026475292987 0 0 tS_7).2.2.2.2 j = txL [48, 58, 48, 57, 57, 59] j := by decide +kernel
def tS_9 : St := (tS_8.1, tS_8.2.1, tS_8.2.2.1, 9, txL [48, 58, 53, 48, 48, 42, 52, 49, 59])
set_option maxRecDepth 100000 in
theorem tf_28 : faultX (texS 3475148543552533553 59 0 tS_8) 0 = 0 := by decide +kernel
set_option maxRecDepth 100000 in
theorem tf_29 : faultX (texS 3475148543552533553 59 0 tS_8) 1 = 3 := by decide +kernel
set_option maxRecDepth 100000 in
theorem tf_30 : (texS 3475148543552533553 59 0 tS_8).2.2.2.1 = 9 := by decide +kernel
set_option maxRecDepth 100000 in
theorem tf_31 : ∀ j, j < 9 → (texS 3475148543552533553 59 0 tS_8).2.2.2.2 j = txL [48, 58, 53, 48, 48, 42, 52, 49, 59] j := by decide +kernel
def tS_10 : St := (tS_9.1, tS_9.2.1, tS_9.2.2.1, 8, txL [48, 58, 53, 48, 48, 42, 48, 59])
set_option maxRecDepth 100000 in
theorem tf_32 : faultX (texS 3475148543552532539 0 0 tS_9) 0 = 0 := by decide +kernel
set_option maxRecDepth 100000 in
theorem tf_33 : faultX (texS 3475148543552532539 0 0 tS_9) 1 = 3 := by decide +kernel
set_option maxRecDepth 100000 in
theorem tf_34 : (texS 3475148543552532539 0 0 tS_9).2.2.2.1 = 8 := by decide +kernel
set_option maxRecDepth 100000 in
theorem tf_35 : ∀ j, j < 8 → (texS 3475148543552532539 0 0 tS_9).2.2.2.2 j = txL [48, 58, 53, 48, 48, 42, 48, 59] j := by decide +kernel
def tS_11 : St := (tS_10.1, tS_10.2.1, tS_10.2.2.1, 7, txL [48, 58, 53, 48, 48, 42, 59])
set_option maxRecDepth 100000 in
theorem tf_36 : faultX (texS 13574798998252091 0 0 tS_10) 0 = 0 := by decide +kernel
set_option maxRecDepth 100000 in
theorem tf_37 : faultX (texS 13574798998252091 0 0 tS_10) 1 = 1 := by decide +kernel
set_option maxRecDepth 100000 in
theorem tf_38 : (texS 13574798998252091 0 0 tS_10).2.2.2.1 = 7 := by decide +kernel
set_option maxRecDepth 100000 in
theorem tf_39 : ∀ j, j < 7 → (texS 13574798998252091 0 0 tS_10).2.2.2.2 j = txL [48, 58, 53, 48, 48, 42, 59] j := by decide +kernel
def tS_12 : St := (tS_11.1, tS_11.2.1, tS_11.2.2.1, 5, txL [48, 58, 53, 48, 48])
set_option maxRecDepth 100000 in
theorem tf_40 : faultX (texS 207134994480 0 0 tS_11) 0 = 0 := by decide +kernel
set_option maxRecDepth 100000 in
theorem tf_41 : faultX (texS 207134994480 0 0 tS_11) 1 = 1 := by decide +kernel
set_option maxRecDepth 100000 in
theorem tf_42 : (texS 207134994480 0 0 tS_11).2.2.2.1 = 5 := by decide +kernel
set_option maxRecDepth 100000 in
theorem tf_43 : ∀ j, j < 5 → (texS 207134994480 0 0 tS_11).2.2.2.2 j = txL [48, 58, 53, 48, 48] j := by decide +kernel
def tS_13 : St := (tS_12.1, tS_12.2.1, tS_12.2.2.1, 16, txL [48, 58, 53, 48, 48, 59, 49, 58, 49, 48, 48, 48, 42, 50, 59, 120])
set_option maxRecDepth 100000 in
theorem tf_44 : faultX (texS 3475148543553646906 3544385890165078904 0 tS_12) 0 = 15 := by decide +kernel
set_option maxRecDepth 100000 in
theorem tf_45 : faultX (texS 3475148543553646906 3544385890165078904 0 tS_12) 1 = 1 := by decide +kernel
set_option maxRecDepth 100000 in
theorem tf_46 : (texS 3475148543553646906 3544385890165078904 0 tS_12).2.2.2.1 = 16 := by decide +kernel
set_option maxRecDepth 100000 in
theorem tf_47 : ∀ j, j < 16 → (texS 3475148543553646906 3544385890165078904 0 tS_12).2.2.2.2 j = txL [48, 58, 53, 48, 48, 59, 49, 58, 49, 48, 48, 48, 42, 50, 59, 120] j := by decide +kernel
def tS_14 : St := (tS_13.1, tS_13.2.1, tS_13.2.2.1, 8, txL [48, 58, 49, 50, 51, 52, 53, 59])
set_option maxRecDepth 100000 in
theorem tf_48 : faultX (texS 3475144154146944315 0 0 tS_13) 0 = 0 := by decide +kernel
set_option maxRecDepth 100000 in
theorem tf_49 : faultX (texS 3475144154146944315 0 0 tS_13) 1 = 1 := by decide +kernel
set_option maxRecDepth 100000 in
theorem tf_50 : (texS 3475144154146944315 0 0 tS_13).2.2.2.1 = 8 := by decide +kernel
set_option maxRecDepth 100000 in
theorem tf_51 : ∀ j, j < 8 → (texS 3475144154146944315 0 0 tS_13).2.2.2.2 j = txL [48, 58, 49, 50, 51, 52, 53, 59] j := by decide +kernel
def tS_15 : St := (tS_14.1, tS_14.2.1, tS_14.2.2.1, 5, txL [50, 58, 53, 48, 59])
set_option maxRecDepth 100000 in
theorem tf_52 : faultX (texS 215724929083 0 0 tS_14) 0 = 0 := by decide +kernel
set_option maxRecDepth 100000 in
theorem tf_53 : faultX (texS 215724929083 0 0 tS_14) 1 = 1 := by decide +kernel
set_option maxRecDepth 100000 in
theorem tf_54 : (texS 215724929083 0 0 tS_14).2.2.2.1 = 5 := by decide +kernel
set_option maxRecDepth 100000 in
theorem tf_55 : ∀ j, j < 5 → (texS 215724929083 0 0 tS_14).2.2.2.2 j = txL [50, 58, 53, 48, 59] j := by decide +kernel
def tS_16 : St := (tS_15.1, tS_15.2.1, tS_15.2.2.1, 7, txL [50, 58, 53, 48, 48, 48, 59])
set_option maxRecDepth 100000 in
theorem tf_56 : faultX (texS 14137748951674939 0 0 tS_15) 0 = 0 := by decide +kernel
set_option maxRecDepth 100000 in
theorem tf_57 : faultX (texS 14137748951674939 0 0 tS_15) 1 = 2 := by decide +kernel
set_option maxRecDepth 100000 in
theorem tf_58 : (texS 14137748951674939 0 0 tS_15).2.2.2.1 = 7 := by decide +kernel
set_option maxRecDepth 100000 in
theorem tf_59 : ∀ j, j < 7 → (texS 14137748951674939 0 0 tS_15).2.2.2.2 j = txL [50, 58, 53, 48, 48, 48, 59] j := by decide +kernel
def tS_17 : St := (tS_16.1, tS_16.2.1, tS_16.2.2.1, 10, txL [48, 58, 53, 48, 48, 42, 49, 50, 51, 59])
set_option maxRecDepth 100000 in
theorem tf_60 : faultX (texS 3475148543552532786 13115 0 tS_16) 0 = 0 := by decide +kernel
set_option maxRecDepth 100000 in
theorem tf_61 : faultX (texS 3475148543552532786 13115 0 tS_16) 1 = 1 := by decide +kernel
set_option maxRecDepth 100000 in
theorem tf_62 : (texS 3475148543552532786 13115 0 tS_16).2.2.2.1 = 10 := by decide +kernel
set_option maxRecDepth 100000 in
theorem tf_63 : ∀ j, j < 10 → (texS 3475148543552532786 13115 0 tS_16).2.2.2.2 j = txL [48, 58, 53, 48, 48, 42, 49, 50, 51, 59] j := by decide +kernel
def tS_18 : St := (tS_17.1, tS_17.2.1, tS_17.2.2.1, 7, txL [32, 48, 58, 53, 48, 48, 59])
set_option maxRecDepth 100000 in
theorem tf_64 : faultX (texS 9060225813327931 0 0 tS_17) 0 = 0 := by decide +kernel
set_option maxRecDepth 100000 in
theorem tf_65 : faultX (texS 9060225813327931 0 0 tS_17) 1 = 1 := by decide +kernel
set_option maxRecDepth 100000 in
theorem tf_66 : (texS 9060225813327931 0 0 tS_17).2.2.2.1 = 7 := by decide +kernel
set_option maxRecDepth 100000 in
theorem tf_67 : ∀ j, j < 7 → (texS 9060225813327931 0 0 tS_17).2.2.2.2 j = txL [32, 48, 58, 53, 48, 48, 59] j := by decide +kernel
def tS_19 : St := (tS_18.1, tS_18.2.1, tS_18.2.2.1, 0, txL [])
set_option maxRecDepth 100000 in
theorem tf_68 : faultX (texS 0 0 0 tS_18) 0 = (-4) := by decide +kernel
set_option maxRecDepth 100000 in
theorem tf_69 : faultX (texS 0 0 0 tS_18) 1 = (-4) := by decide +kernel
set_option maxRecDepth 100000 in
theorem tf_70 : (texS 0 0 0 tS_18).2.2.2.1 = 0 := by decide +kernel
set_option maxRecDepth 100000 in
theorem tf_71 : ∀ j, j < 0 → (texS 0 0 0 tS_18).2.2.2.2 j = txL [] j := by decide +kernel
def tS_20 : St := (tS_19.1, tS_19.2.1, tS_19.2.2.1, 7, txL [48, 58, 48, 53, 48, 48, 59])
set_option maxRecDepth 100000 in
theorem tf_72 : faultX (texS 13574777607303227 0 0 tS_19) 0 = (-4) := by decide +kernel
set_option maxRecDepth 100000 in
theorem tf_73 : faultX (texS 13574777607303227 0 0 tS_19) 1 = (-4) := by decide +kernel
set_option maxRecDepth 100000 in
theorem tf_74 : (texS 13574777607303227 0 0 tS_19).2.2.2.1 = 7 := by decide +kernel
set_option maxRecDepth 100000 in
theorem tf_75 : ∀ j, j < 7 → (texS 13574777607303227 0 0 tS_19).2.2.2.2 j = txL [48, 58, 48, 53, 48, 48, 59] j := by decide +kernel
def tS_21 : St := (tS_20.1, tS_20.2.1, tS_20.2.2.1, 15, txL [48, 58, 53, 48, 48, 59, 49, 58, 57, 57, 57, 42, 52, 48, 59])
set_option maxRecDepth 100000 in
theorem tf_76 : faultX (texS 3475148543553646906 16106991356489787 0 tS_20) 0 = (-4) := by decide +kernel
set_option maxRecDepth 100000 in
theorem tf_77 : faultX (texS 3475148543553646906 16106991356489787 0 tS_20) 1 = (-4) := by decide +kernel
set_option maxRecDepth 100000 in
theorem tf_78 : (texS 3475148543553646906 16106991356489787 0 tS_20).2.2.2.1 = 15 := by decide +kernel
set_option maxRecDepth 100000 in
theorem tf_79 : ∀ j, j < 15 → (texS 3475148543553646906 16106991356489787 0 tS_20).2.2.2.2 j = txL [48, 58, 53, 48, 48, 59, 49, 58, 57, 57, 57, 42, 52, 48, 59] j := by decide +kernel
def tS_22 : St := (tS_21.1, tS_21.2.1, tS_21.2.2.1, 22, txL [49, 58, 51, 48, 48, 48, 42, 48, 49, 59, 48, 58, 49, 48, 48, 59, 50, 58, 49, 48, 48, 59])
set_option maxRecDepth 100000 in
theorem tf_80 : faultX (texS 3547203938567596592 3547482157975875643 55225514733627 tS_21) 0 = 16 := by decide +kernel
set_option maxRecDepth 100000 in
theorem tf_81 : faultX (texS 3547203938567596592 3547482157975875643 55225514733627 tS_21) 1 = 2 := by decide +kernel
set_option maxRecDepth 100000 in
theorem tf_82 : (texS 3547203938567596592 3547482157975875643 55225514733627 tS_21).2.2.2.1 = 22 := by decide +kernel
set_option maxRecDepth 100000 in
theorem tf_83 : ∀ j, j < 22 → (texS 3547203938567596592 3547482157975875643 55225514733627 tS_21).2.2.2.2 j = txL [49, 58, 51, 48, 48, 48, 42, 48, 49, 59, 48, 58, 49, 48, 48, 59, 50, 58, 49, 48, 48, 59] j := by decide +kernel
def tS_23 : St := (tS_22.1, tS_22.2.1, tS_22.2.2.1, 6, txL [48, 59, 53, 48, 48, 58])
set_option maxRecDepth 100000 in
theorem tf_84 : faultX (texS 53030853554234 0 0 tS_22) 0 = 0 := by decide +kernel
set_option maxRecDepth 100000 in
theorem tf_85 : faultX (texS 53030853554234 0 0 tS_22) 1 = 1 := by decide +kernel
set_option maxRecDepth 100000 in
theorem tf_86 : (texS 53030853554234 0 0 tS_22).2.2.2.1 = 6 := by decide +kernel
set_option maxRecDepth 100000 in
theorem tf_87 : ∀ j, j < 6 → (texS 53030853554234 0 0 tS_22).2.2.2.2 j = txL [48, 59, 53, 48, 48, 58] j := by decide +kernel
def tS_24 : St := (tS_23.1, tS_23.2.1, tS_23.2.2.1, 15, txL [48, 58, 49, 48, 48, 48, 42, 57, 59, 49, 58, 53, 48, 48, 59])
set_option maxRecDepth 100000 in
theorem tf_88 : faultX (texS 3475144145506413113 16661149696143419 0 tS_23) 0 = (-4) := by decide +kernel
set_option maxRecDepth 100000 in
theorem tf_89 : faultX (texS 3475144145506413113 16661149696143419 0 tS_23) 1 = (-4) := by decide +kernel
set_option maxRecDepth 100000 in
theorem tf_90 : (texS 3475144145506413113 16661149696143419 0 tS_23).2.2.2.1 = 15 := by decide +kernel
set_option maxRecDepth 100000 in
theorem tf_91 : ∀ j, j < 15 → (texS 3475144145506413113 16661149696143419 0 tS_23).2.2.2.2 j = txL [48, 58, 49, 48, 48, 48, 42, 57, 59, 49, 58, 53, 48, 48, 59] j := by decide +kernel
abbrev tL_24_1 : List (Nat × Int) := [(27, 1000), (28, 4), (29, 81), (30, 0), (31, 1000), (20, 4), (21, 1000), (934, 56000), (935, 50000), (34, 4), (38, 169), (78, 81), (37, 277), (77, 50), (36, 277), (76, 50), (35, 277), (75, 50), (19, 2), (115, 9), (116, 9), (117, 50000), (24, 0), (25, 0), (26, 1000), (18, 4), (17, 3000), (16, 200), (15, 3), (14, 70), (13, 2000), (7, 50), (1, 10000), (0, 1)]
set_option maxRecDepth 100000 in
theorem tf_92 : hitsR 0 1000 5 (rowL tL_24_1) = (rowL tL_24_1, 0) := hits_end (by decide +kernel)
abbrev tL_24_2 : List (Nat × Int) := [(27, 831), (28, 3), (29, 50), (30, 0), (31, 831), (20, 3), (21, 831), (934, 42000), (935, 41550), (34, 3), (37, 277), (77, 50), (36, 277), (76, 50), (35, 277), (75, 50), (19, 2), (115, 9), (116, 9), (117, 50000), (24, 0), (25, 0), (26, 1000), (18, 4), (17, 3000), (16, 200), (15, 3), (14, 70), (13, 2000), (7, 50), (1, 10000), (0, 1)]
set_option maxRecDepth 100000 in
theorem tf_93 : hitR (rowL tL_24_2) 0 1000 = rowL tL_24_1 := hit_eq (L := tL_24_2) (L' := tL_24_1) 169 81 14000 50 6 3 2 (by decide) (by decide +kernel) (by decide) (by decide +kernel) (by decide +kernel) (by decide +kernel) (by decide +kernel) (by decide +kernel) (by decide +kernel) (by decide +kernel)
set_option maxRecDepth 100000 in
theorem tf_94 : hitsR 0 1000 6 (rowL tL_24_2) = (rowL tL_24_1, 0 + 1) := hits_go (by decide +kernel) tf_93 tf_92
abbrev tL_24_3 : List (Nat × Int) := [(27, 554), (28, 2), (29, 50), (30, 0), (31, 554), (20, 2), (21, 554), (934, 28000), (935, 27700), (34, 2), (36, 277), (76, 50), (35, 277), (75, 50), (19, 2), (115, 9), (116, 9), (117, 50000), (24, 0), (25, 0), (26, 1000), (18, 4), (17, 3000), (16, 200), (15, 3), (14, 70), (13, 2000), (7, 50), (1, 10000), (0, 1)]
set_option maxRecDepth 100000 in
theorem tf_95 : hitR (rowL tL_24_3) 0 1000 = rowL tL_24_2 := hit_eq (L := tL_24_3) (L' := tL_24_2) 277 50 14000 50 11 2 2 (by decide) (by decide +kernel) (by decide) (by decide +kernel) (by decide +kernel) (by decide +kernel) (by decide +kernel) (by decide +kernel) (by decide +kernel) (by decide +kernel)
set_option maxRecDepth 100000 in
theorem tf_96 : hitsR 0 1000 7 (rowL tL_24_3) = (rowL tL_24_1, (0 + 1) + 1) := hits_go (by decide +kernel) tf_95 tf_94
abbrev tL_24_4 : List (Nat × Int) := [(27, 277), (28, 1), (29, 50), (30, 0), (31, 277), (20, 1), (21, 277), (934, 14000), (935, 13850), (34, 1), (35, 277), (75, 50), (19, 2), (115, 9), (116, 9), (117, 50000), (24, 0), (25, 0), (26, 1000), (18, 4), (17, 3000), (16, 200), (15, 3), (14, 70), (13, 2000), (7, 50), (1, 10000), (0, 1)]
set_option maxRecDepth 100000 in
theorem tf_97 : hitR (rowL tL_24_4) 0 1000 = rowL tL_24_3 := hit_eq (L := tL_24_4) (L' := tL_24_3) 277 50 14000 50 11 1 2 (by decide) (by decide +kernel) (by decide) (by decide +kernel) (by decide +kernel) (by decide +kernel) (by decide +kernel) (by decide +kernel) (by decide +kernel) (by decide +kernel)
set_option maxRecDepth 100000 in
theorem tf_98 : hitsR 0 1000 8 (rowL tL_24_4) = (rowL tL_24_1, ((0 + 1) + 1) + 1) := hits_go (by decide +kernel) tf_97 tf_96
set_option maxRecDepth 100000 in
theorem tf_99 : hitR (rowL tL_3) 0 1000 = rowL tL_24_4 := hit_eq (L := tL_3) (L' := tL_24_4) 277 50 14000 50 11 0 2 (by decide) (by decide +kernel) (by decide) (by decide +kernel) (by decide +kernel) (by decide +kernel) (by decide +kernel) (by decide +kernel) (by decide +kernel) (by decide +kernel)
set_option maxRecDepth 100000 in
theorem tf_100 : hitsR 0 1000 9 (rowL tL_3) = (rowL tL_24_1, (((0 + 1) + 1) + 1) + 1) := hits_go (by decide +kernel) tf_99 tf_98
abbrev tL_24_5 : List (Nat × Int) := [(118, 137), (119, 1), (120, 50), (121, 0), (122, 137), (20, 5), (21, 1137), (934, 63000), (935, 56850), (125, 1), (126, 137), (166, 50), (27, 1000), (28, 4), (29, 81), (30, 0), (31, 1000), (34, 4), (38, 169), (78, 81), (37, 277), (77, 50), (36, 277), (76, 50), (35, 277), (75, 50), (19, 2), (115, 9), (116, 9), (117, 50000), (24, 0), (25, 0), (26, 1000), (18, 4), (17, 3000), (16, 200), (15, 3), (14, 70), (13, 2000), (7, 50), (1, 10000), (0, 1)]
set_option maxRecDepth 100000 in
theorem tf_101 : hitsR 1 500 0 (rowL tL_24_5) = (rowL tL_24_5, 0) := hits_0
set_option maxRecDepth 100000 in
theorem tf_102 : hitR (rowL tL_24_1) 1 500 = rowL tL_24_5 := hit_eq (L := tL_24_1) (L' := tL_24_5) 137 50 7000 50 5 0 2 (by decide) (by decide +kernel) (by decide) (by decide +kernel) (by decide +kernel) (by decide +kernel) (by decide +kernel) (by decide +kernel) (by decide +kernel) (by decide +kernel)
set_option maxRecDepth 100000 in
theorem tf_103 : hitsR 1 500 1 (rowL tL_24_1) = (rowL tL_24_5, 0 + 1) := hits_go (by decide +kernel) tf_102 tf_101
set_option maxRecDepth 100000 in
theorem tf_104 : carR (chT tS_24.2.2.2.1 tS_24.2.2.2.2) tS_24.2.2.2.1 78 15 (rowL tL_24_5) = (rowL tL_24_5, 0) := car_end (by decide +kernel)
set_option maxRecDepth 100000 in
theorem tf_105 : carR (chT tS_24.2.2.2.1 tS_24.2.2.2.2) tS_24.2.2.2.1 79 9 (rowL tL_24_1) = (rowL tL_24_5, (0 + 1) + (0)) := car_go (by decide +kernel) (by decide +kernel) (by decide +kernel) (by decide +kernel) (by decide +kernel) tf_103 tf_104
set_option maxRecDepth 100000 in
theorem tf_106 : carR (chT tS_24.2.2.2.1 tS_24.2.2.2.2) tS_24.2.2.2.1 80 0 (rowL tL_3) = (rowL tL_24_5, ((((0 + 1) + 1) + 1) + 1) + ((0 + 1) + (0))) := car_go (by decide +kernel) (by decide +kernel) (by decide +kernel) (by decide +kernel) (by decide +kernel) tf_100 tf_105
abbrev tL_25 : List (Nat × Int) := [(118, 137), (119, 1), (120, 50), (121, 0), (122, 137), (20, 5), (21, 1137), (934, 63000), (935, 56850), (125, 1), (126, 137), (166, 50), (27, 1000), (28, 4), (29, 81), (30, 0), (31, 1000), (34, 4), (38, 169), (78, 81), (37, 277), (77, 50), (36, 277), (76, 50), (35, 277), (75, 50), (19, 2), (115, 9), (116, 9), (117, 50000), (24, 0), (25, 0), (26, 1000), (18, 4), (17, 3000), (16, 200), (15, 3), (14, 70), (13, 2000), (7, 50), (1, 10000), (0, 1)]
def tS_25 : St := chS tS_24 (rowL tL_25)
set_option maxRecDepth 100000 in
theorem tq_25 : rowL tL_24_5 = rowL tL_25 := rfl
set_option maxRecDepth 100000 in
theorem tf_107 : carryX tS_24 = (5, tS_25) := by
  unfold carryX
  rw [if_pos (by decide +kernel)]
  show ((carR (chT tS_24.2.2.2.1 tS_24.2.2.2.2) tS_24.2.2.2.1 80 0 (rowL tL_3)).2, chS tS_24 (carR (chT tS_24.2.2.2.1 tS_24.2.2.2.2) tS_24.2.2.2.1 80 0 (rowL tL_3)).1) = _
  rw [tf_106]
  rfl
set_option maxRecDepth 100000 in
theorem tf_108 : pileOfX tS_25 0 3 = 1000 := by decide +kernel
set_option maxRecDepth 100000 in
theorem tf_109 : pileOfX tS_25 0 4 = 4 := by decide +kernel
set_option maxRecDepth 100000 in
theorem tf_110 : pileOfX tS_25 1 4 = 1 := by decide +kernel
set_option maxRecDepth 100000 in
theorem tf_111 : countX tS_25 4 = 3 := by decide +kernel
set_option maxRecDepth 100000 in
theorem tf_112 : hitsR 0 1000 9 (rowL tL_25) = (rowL tL_25, 0) := hits_end (by decide +kernel)
abbrev tL_25_1 : List (Nat × Int) := [(118, 274), (119, 2), (120, 50), (121, 0), (122, 274), (20, 6), (21, 1274), (934, 70000), (935, 63700), (125, 2), (127, 137), (167, 50), (126, 137), (166, 50), (27, 1000), (28, 4), (29, 81), (30, 0), (31, 1000), (34, 4), (38, 169), (78, 81), (37, 277), (77, 50), (36, 277), (76, 50), (35, 277), (75, 50), (19, 2), (115, 9), (116, 9), (117, 50000), (24, 0), (25, 0), (26, 1000), (18, 4), (17, 3000), (16, 200), (15, 3), (14, 70), (13, 2000), (7, 50), (1, 10000), (0, 1)]
set_option maxRecDepth 100000 in
theorem tf_113 : hitsR 1 500 0 (rowL tL_25_1) = (rowL tL_25_1, 0) := hits_0
set_option maxRecDepth 100000 in
theorem tf_114 : hitR (rowL tL_25) 1 500 = rowL tL_25_1 := hit_eq (L := tL_25) (L' := tL_25_1) 137 50 7000 50 5 1 2 (by decide) (by decide +kernel) (by decide) (by decide +kernel) (by decide +kernel) (by decide +kernel) (by decide +kernel) (by decide +kernel) (by decide +kernel) (by decide +kernel)
set_option maxRecDepth 100000 in
theorem tf_115 : hitsR 1 500 1 (rowL tL_25) = (rowL tL_25_1, 0 + 1) := hits_go (by decide +kernel) tf_114 tf_113
set_option maxRecDepth 100000 in
theorem tf_116 : carR (chT tS_25.2.2.2.1 tS_25.2.2.2.2) tS_25.2.2.2.1 78 15 (rowL tL_25_1) = (rowL tL_25_1, 0) := car_end (by decide +kernel)
set_option maxRecDepth 100000 in
theorem tf_117 : carR (chT tS_25.2.2.2.1 tS_25.2.2.2.2) tS_25.2.2.2.1 79 9 (rowL tL_25) = (rowL tL_25_1, (0 + 1) + (0)) := car_go (by decide +kernel) (by decide +kernel) (by decide +kernel) (by decide +kernel) (by decide +kernel) tf_115 tf_116
set_option maxRecDepth 100000 in
theorem tf_118 : carR (chT tS_25.2.2.2.1 tS_25.2.2.2.2) tS_25.2.2.2.1 80 0 (rowL tL_25) = (rowL tL_25_1, (0) + ((0 + 1) + (0))) := car_go (by decide +kernel) (by decide +kernel) (by decide +kernel) (by decide +kernel) (by decide +kernel) tf_112 tf_117
abbrev tL_26 : List (Nat × Int) := [(118, 274), (119, 2), (120, 50), (121, 0), (122, 274), (20, 6), (21, 1274), (934, 70000), (935, 63700), (125, 2), (127, 137), (167, 50), (126, 137), (166, 50), (27, 1000), (28, 4), (29, 81), (30, 0), (31, 1000), (34, 4), (38, 169), (78, 81), (37, 277), (77, 50), (36, 277), (76, 50), (35, 277), (75, 50), (19, 2), (115, 9), (116, 9), (117, 50000), (24, 0), (25, 0), (26, 1000), (18, 4), (17, 3000), (16, 200), (15, 3), (14, 70), (13, 2000), (7, 50), (1, 10000), (0, 1)]
def tS_26 : St := chS tS_25 (rowL tL_26)
set_option maxRecDepth 100000 in
theorem tq_26 : rowL tL_25_1 = rowL tL_26 := rfl
set_option maxRecDepth 100000 in
theorem tf_119 : carryX tS_25 = (1, tS_26) := by
  unfold carryX
  rw [if_pos (by decide +kernel)]
  show ((carR (chT tS_25.2.2.2.1 tS_25.2.2.2.2) tS_25.2.2.2.1 80 0 (rowL tL_25)).2, chS tS_25 (carR (chT tS_25.2.2.2.1 tS_25.2.2.2.2) tS_25.2.2.2.1 80 0 (rowL tL_25)).1) = _
  rw [tf_118]
  rfl
def tS_27 : St := (tS_26.1, tS_26.2.1, tS_26.2.2.1, 0, tS_26.2.2.2.2)
set_option maxRecDepth 100000 in
theorem tf_120 : clearX tS_26 = (15, tS_27) := rfl
set_option maxRecDepth 100000 in
theorem tf_121 : carR (chT tS_27.2.2.2.1 tS_27.2.2.2.2) tS_27.2.2.2.1 80 0 (rowL tL_26) = (rowL tL_26, 0) := car_end (by decide +kernel)
abbrev tL_28 : List (Nat × Int) := [(118, 274), (119, 2), (120, 50), (121, 0), (122, 274), (20, 6), (21, 1274), (934, 70000), (935, 63700), (125, 2), (127, 137), (167, 50), (126, 137), (166, 50), (27, 1000), (28, 4), (29, 81), (30, 0), (31, 1000), (34, 4), (38, 169), (78, 81), (37, 277), (77, 50), (36, 277), (76, 50), (35, 277), (75, 50), (19, 2), (115, 9), (116, 9), (117, 50000), (24, 0), (25, 0), (26, 1000), (18, 4), (17, 3000), (16, 200), (15, 3), (14, 70), (13, 2000), (7, 50), (1, 10000), (0, 1)]
def tS_28 : St := chS tS_27 (rowL tL_28)
set_option maxRecDepth 100000 in
theorem tq_28 : rowL tL_26 = rowL tL_28 := rfl
set_option maxRecDepth 100000 in
theorem tf_122 : carryX tS_27 = (0, tS_28) := by
  unfold carryX
  rw [if_pos (by decide +kernel)]
  show ((carR (chT tS_27.2.2.2.1 tS_27.2.2.2.2) tS_27.2.2.2.1 80 0 (rowL tL_26)).2, chS tS_27 (carR (chT tS_27.2.2.2.1 tS_27.2.2.2.2) tS_27.2.2.2.1 80 0 (rowL tL_26)).1) = _
  rw [tf_121]
  rfl
set_option maxRecDepth 100000 in
theorem tf_123 : countX tS_28 4 = 4 := by decide +kernel
def tK (k : Nat) : St := (tS_28.1, tS_28.2.1, tS_28.2.2.1, k, fun _ => 48)
theorem tK_t {k : Nat} (hk : k < 80) : typeX (tK k) 48 = (((k + 1 : Nat) : Int), (tS_28.1, tS_28.2.1, tS_28.2.2.1, k + 1, fun j => if j = k then 48 else 48)) := by
  unfold typeX
  rw [if_pos (by decide)]
  exact if_neg (show ¬ k = 80 by omega)
theorem tK_80 : typeX (tK 80) 48 = (-3, tK 80) := by
  unfold typeX
  rw [if_pos (by decide)]
  exact if_pos rfl
theorem tK_31 : typeX (tK 80) 31 = (-1, tK 80) := by
  unfold typeX
  exact if_neg (by decide)
theorem tK_f : faultX (tK 80) 1 = 1 := by decide +kernel
theorem tK_c : carryX (tK 80) = (-2, tK 80) := by
  unfold carryX
  exact if_neg (by decide +kernel)
theorem tK_x : clearX (tK 80) = (80, (tS_28.1, tS_28.2.1, tS_28.2.2.1, 0, fun _ => 48)) := rfl
