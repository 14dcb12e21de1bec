/-! ===== piles that are reckoned by hand: the states, the answers ===== -/
def kS_0 : St := s0
abbrev kL_0 : List (Nat × Int) := L0
set_option maxRecDepth 100000 in
theorem kf_1 : undoX kS_0 = (-2, kS_0) := by
  unfold undoX
  exact if_pos (by decide +kernel)
set_option maxRecDepth 100000 in
theorem kf_2 : cutX kS_0 = (-2, kS_0) := by
  unfold cutX
  exact if_pos (by decide +kernel)
set_option maxRecDepth 100000 in
theorem kf_3 : atX kS_0 9999 = 0 := by decide +kernel
set_option maxRecDepth 100000 in
theorem kf_4 : atX kS_0 10000 = (-4) := by decide +kernel
set_option maxRecDepth 100000 in
theorem kf_5 : leastX kS_0 100 1 = 0 := by decide +kernel
set_option maxRecDepth 100000 in
theorem kf_6 : orderX kS_0 100 1 0 = (-4) := by decide +kernel
abbrev kL_1 : List (Nat × Int) := [(19, 1), (24, 0), (25, 0), (26, 1000), (18, 4), (17, 3000), (16, 200), (15, 3), (14, 70), (13, 2000), (7, 50), (1, 10000), (0, 1)]
def kS_1 : St := chS kS_0 (rowL kL_1)
set_option maxRecDepth 100000 in
theorem kf_7 : pileX kS_0 0 0 1000 = (0, kS_1) := by
  unfold pileX
  rw [if_pos (by decide), if_neg (by decide +kernel), if_neg (by decide +kernel)]
  exact Prod.ext (show kS_0.1 19 = 0 from (by decide +kernel)) (congrArg (chS kS_0) ((place_eq (L := kL_0) (q := 0) (by decide +kernel) (by decide +kernel)).trans (congrArg rowL (show _ = kL_1 from (by decide +kernel)))))
abbrev kL_2 : List (Nat × Int) := [(19, 2), (115, 3000), (116, 3000), (117, 20000), (24, 0), (25, 0), (26, 1000), (18, 4), (17, 3000), (16, 200), (15, 3), (14, 70), (13, 2000), (7, 50), (1, 10000), (0, 1)]
def kS_2 : St := chS kS_1 (rowL kL_2)
set_option maxRecDepth 100000 in
theorem kf_8 : pileX kS_1 3000 3000 20000 = (1, kS_2) := by
  unfold pileX
  rw [if_pos (by decide), if_neg (by decide +kernel), if_neg (by decide +kernel)]
  exact Prod.ext (show kS_1.1 19 = 1 from (by decide +kernel)) (congrArg (chS kS_1) ((place_eq (L := kL_1) (q := 1) (by decide +kernel) (by decide +kernel)).trans (congrArg rowL (show _ = kL_2 from (by decide +kernel)))))
abbrev kL_3 : List (Nat × Int) := [(19, 3), (206, 3001), (207, 0), (208, 20000), (115, 3000), (116, 3000), (117, 20000), (24, 0), (25, 0), (26, 1000), (18, 4), (17, 3000), (16, 200), (15, 3), (14, 70), (13, 2000), (7, 50), (1, 10000), (0, 1)]
def kS_3 : St := chS kS_2 (rowL kL_3)
set_option maxRecDepth 100000 in
theorem kf_9 : pileX kS_2 3001 0 20000 = (2, kS_3) := by
  unfold pileX
  rw [if_pos (by decide), if_neg (by decide +kernel), if_neg (by decide +kernel)]
  exact Prod.ext (show kS_2.1 19 = 2 from (by decide +kernel)) (congrArg (chS kS_2) ((place_eq (L := kL_2) (q := 2) (by decide +kernel) (by decide +kernel)).trans (congrArg rowL (show _ = kL_3 from (by decide +kernel)))))
set_option maxRecDepth 100000 in
theorem kf_10 : pileOfX kS_3 0 11 = 1 := by decide +kernel
set_option maxRecDepth 100000 in
theorem kf_11 : pileOfX kS_3 1 11 = 2 := by decide +kernel
set_option maxRecDepth 100000 in
theorem kf_12 : pileOfX kS_3 0 5 = (-4) := by decide +kernel
set_option maxRecDepth 100000 in
theorem kf_13 : pileOfX kS_3 0 6 = (-4) := by decide +kernel
abbrev kL_4 : List (Nat × Int) := [(27, 277), (28, 1), (29, 50), (30, 0), (31, 277), (20, 1), (21, 277), (934, 14000), (935, 13850), (34, 1), (35, 277), (75, 50), (19, 3), (206, 3001), (207, 0), (208, 20000), (115, 3000), (116, 3000), (117, 20000), (24, 0), (25, 0), (26, 1000), (18, 4), (17, 3000), (16, 200), (15, 3), (14, 70), (13, 2000), (7, 50), (1, 10000), (0, 1)]
def kS_4 : St := chS kS_3 (rowL kL_4)
set_option maxRecDepth 100000 in
theorem kf_14 : hitR (rowL kL_3) 0 1000 = rowL kL_4 := hit_eq (L := kL_3) (L' := kL_4) 277 50 14000 50 11 0 3 (by decide) (by decide +kernel) (by decide) (by decide +kernel) (by decide +kernel) (by decide +kernel) (by decide +kernel) (by decide +kernel) (by decide +kernel) (by decide +kernel)
set_option maxRecDepth 100000 in
theorem kf_15 : strikeX kS_3 0 1000 = (277, kS_4) := by
  unfold strikeX
  rw [if_pos (by decide +kernel), if_neg (by decide +kernel)]
  exact Prod.ext (show blowS kS_3.1 0 1000 = 277 from (by decide +kernel)) (congrArg (chS kS_3) kf_14)
set_option maxRecDepth 100000 in
theorem kf_16 : pileOfX kS_4 0 5 = 50 := by decide +kernel
abbrev kL_5 : List (Nat × Int) := [(118, 137), (119, 1), (120, 50), (121, 0), (122, 137), (20, 2), (21, 414), (934, 21000), (935, 20700), (125, 1), (126, 137), (166, 50), (27, 277), (28, 1), (29, 50), (30, 0), (31, 277), (34, 1), (35, 277), (75, 50), (19, 3), (206, 3001), (207, 0), (208, 20000), (115, 3000), (116, 3000), (117, 20000), (24, 0), (25, 0), (26, 1000), (18, 4), (17, 3000), (16, 200), (15, 3), (14, 70), (13, 2000), (7, 50), (1, 10000), (0, 1)]
def kS_5 : St := chS kS_4 (rowL kL_5)
set_option maxRecDepth 100000 in
theorem kf_17 : hitR (rowL kL_4) 1 500 = rowL kL_5 := hit_eq (L := kL_4) (L' := kL_5) 137 50 7000 50 5 0 3 (by decide) (by decide +kernel) (by decide) (by decide +kernel) (by decide +kernel) (by decide +kernel) (by decide +kernel) (by decide +kernel) (by decide +kernel) (by decide +kernel)
set_option maxRecDepth 100000 in
theorem kf_18 : strikeX kS_4 1 500 = (137, kS_5) := by
  unfold strikeX
  rw [if_pos (by decide +kernel), if_neg (by decide +kernel)]
  exact Prod.ext (show blowS kS_4.1 1 500 = 137 from (by decide +kernel)) (congrArg (chS kS_4) kf_17)
set_option maxRecDepth 100000 in
theorem kf_19 : pileOfX kS_5 0 9 = 0 := by decide +kernel
abbrev kL_6 : List (Nat × Int) := [(27, 266), (30, 1), (32, 11), (22, 11), (118, 414), (119, 2), (120, 50), (121, 0), (122, 414), (20, 3), (21, 691), (934, 35000), (935, 34550), (125, 2), (127, 277), (167, 50), (126, 137), (166, 50), (28, 1), (29, 50), (31, 277), (34, 1), (35, 277), (75, 50), (19, 3), (206, 3001), (207, 0), (208, 20000), (115, 3000), (116, 3000), (117, 20000), (24, 0), (25, 0), (26, 1000), (18, 4), (17, 3000), (16, 200), (15, 3), (14, 70), (13, 2000), (7, 50), (1, 10000), (0, 1)]
def kS_6 : St := chS kS_5 (rowL kL_6)
set_option maxRecDepth 100000 in
theorem kf_20 : hitR (rowL kL_5) 1 1000 = rowL kL_6 := hit_eq (L := kL_5) (L' := kL_6) 277 50 14000 50 11 1 3 (by decide) (by decide +kernel) (by decide) (by decide +kernel) (by decide +kernel) (by decide +kernel) (by decide +kernel) (by decide +kernel) (by decide +kernel) (by decide +kernel)
set_option maxRecDepth 100000 in
theorem kf_21 : strikeX kS_5 1 1000 = (277, kS_6) := by
  unfold strikeX
  rw [if_pos (by decide +kernel), if_neg (by decide +kernel)]
  exact Prod.ext (show blowS kS_5.1 1 1000 = 277 from (by decide +kernel)) (congrArg (chS kS_5) kf_20)
set_option maxRecDepth 100000 in
theorem kf_22 : pileOfX kS_6 0 3 = 266 := by decide +kernel
set_option maxRecDepth 100000 in
theorem kf_23 : pileOfX kS_6 0 7 = 1 := by decide +kernel
set_option maxRecDepth 100000 in
theorem kf_24 : pileOfX kS_6 0 9 = 11 := by decide +kernel
set_option maxRecDepth 100000 in
theorem kf_25 : pileOfX kS_6 0 6 = 12 := by decide +kernel
set_option maxRecDepth 100000 in
theorem kf_26 : countX kS_6 23 = 11 := by decide +kernel
set_option maxRecDepth 100000 in
theorem kf_27 : countX kS_6 6 = 680 := by decide +kernel
set_option maxRecDepth 100000 in
theorem kf_28 : countX kS_6 3 = 3 := by decide +kernel
set_option maxRecDepth 100000 in
theorem kf_29 : countX kS_6 20 = 35000 := by decide +kernel
set_option maxRecDepth 100000 in
theorem kf_30 : countX kS_6 21 = 34550 := by decide +kernel
set_option maxRecDepth 100000 in
theorem kf_31 : countX kS_6 22 = 691 := by decide +kernel
set_option maxRecDepth 100000 in
theorem kf_32 : countX kS_6 2 = 1 := by decide +kernel
abbrev kL_7 : List (Nat × Int) := [(27, 266), (30, 1), (32, 11), (22, 11), (118, 414), (119, 2), (120, 50), (121, 0), (122, 414), (20, 3), (21, 691), (934, 35000), (935, 34550), (125, 2), (127, 277), (167, 50), (126, 137), (166, 50), (28, 1), (29, 50), (31, 277), (34, 1), (35, 277), (75, 50), (19, 3), (206, 3001), (207, 0), (208, 20000), (115, 3000), (116, 3000), (117, 20000), (24, 0), (25, 0), (26, 1000), (18, 4), (17, 3000), (16, 200), (15, 3), (14, 70), (13, 2000), (7, 50), (1, 10000), (0, 1)]
def kS_7 : St := chS kS_6 (rowL kL_7)
set_option maxRecDepth 100000 in
theorem kf_33 : testX kS_6 0 502 = (0, kS_7) := by
  unfold testX
  rw [if_pos (by decide +kernel), if_pos (by decide +kernel), if_pos (by decide +kernel)]
  rfl
set_option maxRecDepth 100000 in
theorem kf_34 : pileOfX kS_7 0 7 = 1 := by decide +kernel
abbrev kL_8 : List (Nat × Int) := [(27, 268), (30, 0), (33, 2), (23, 2), (32, 11), (22, 11), (118, 414), (119, 2), (120, 50), (121, 0), (122, 414), (20, 3), (21, 691), (934, 35000), (935, 34550), (125, 2), (127, 277), (167, 50), (126, 137), (166, 50), (28, 1), (29, 50), (31, 277), (34, 1), (35, 277), (75, 50), (19, 3), (206, 3001), (207, 0), (208, 20000), (115, 3000), (116, 3000), (117, 20000), (24, 0), (25, 0), (26, 1000), (18, 4), (17, 3000), (16, 200), (15, 3), (14, 70), (13, 2000), (7, 50), (1, 10000), (0, 1)]
def kS_8 : St := chS kS_7 (rowL kL_8)
set_option maxRecDepth 100000 in
theorem kf_35 : testX kS_7 0 512 = (2, kS_8) := by
  unfold testX
  rw [if_pos (by decide +kernel), if_neg (by decide +kernel), if_neg (by decide +kernel), show pressZ kS_7.1 (Int.toNat 0) 512 = 2 from (by decide +kernel)]
  exact congrArg (fun r => ((2 : Int), chS kS_7 r)) ((press_eq kL_7 0 2).trans (congrArg rowL (show _ = kL_8 from (by decide +kernel))))
set_option maxRecDepth 100000 in
theorem kf_36 : pileOfX kS_8 0 7 = 0 := by decide +kernel
set_option maxRecDepth 100000 in
theorem kf_37 : pileOfX kS_8 0 10 = 2 := by decide +kernel
set_option maxRecDepth 100000 in
theorem kf_38 : pileOfX kS_8 0 6 = 25 := by decide +kernel
set_option maxRecDepth 100000 in
theorem kf_39 : pileOfX kS_8 0 4 = 1 := by decide +kernel
set_option maxRecDepth 100000 in
theorem kf_40 : countX kS_8 24 = 2 := by decide +kernel
set_option maxRecDepth 100000 in
theorem kf_41 : wouldX kS_8 0 1000 = 277 := by decide +kernel
set_option maxRecDepth 100000 in
theorem kf_42 : blowsToX kS_8 0 1000 268 = 0 := by decide +kernel
set_option maxRecDepth 100000 in
theorem kf_43 : blowsToX kS_8 0 1000 269 = 1 := by decide +kernel
set_option maxRecDepth 100000 in
theorem kf_44 : blowsToX kS_8 0 1000 1000 = 3 := by decide +kernel
set_option maxRecDepth 100000 in
theorem kf_45 : blowsToX kS_8 0 1000 1001 = (-4) := by decide +kernel
abbrev kL_8_1 : List (Nat × Int) := [(118, 403), (121, 1), (123, 11), (22, 22), (27, 545), (28, 2), (29, 50), (30, 0), (31, 554), (20, 4), (21, 968), (934, 49000), (935, 48400), (34, 2), (36, 277), (76, 50), (33, 2), (23, 2), (32, 11), (119, 2), (120, 50), (122, 414), (125, 2), (127, 277), (167, 50), (126, 137), (166, 50), (35, 277), (75, 50), (19, 3), (206, 3001), (207, 0), (208, 20000), (115, 3000), (116, 3000), (117, 20000), (24, 0), (25, 0), (26, 1000), (18, 4), (17, 3000), (16, 200), (15, 3), (14, 70), (13, 2000), (7, 50), (1, 10000), (0, 1)]
abbrev kL_8_2 : List (Nat × Int) := [(118, 392), (121, 1), (123, 22), (22, 33), (27, 822), (28, 3), (29, 50), (30, 0), (31, 831), (20, 5), (21, 1245), (934, 63000), (935, 62250), (34, 3), (37, 277), (77, 50), (36, 277), (76, 50), (33, 2), (23, 2), (32, 11), (119, 2), (120, 50), (122, 414), (125, 2), (127, 277), (167, 50), (126, 137), (166, 50), (35, 277), (75, 50), (19, 3), (206, 3001), (207, 0), (208, 20000), (115, 3000), (116, 3000), (117, 20000), (24, 0), (25, 0), (26, 1000), (18, 4), (17, 3000), (16, 200), (15, 3), (14, 70), (13, 2000), (7, 50), (1, 10000), (0, 1)]
abbrev kL_9 : List (Nat × Int) := [(118, 385), (121, 1), (123, 29), (22, 40), (27, 1000), (28, 4), (29, 77), (30, 0), (31, 1009), (20, 6), (21, 1423), (934, 77000), (935, 71150), (34, 4), (38, 178), (78, 77), (37, 277), (77, 50), (36, 277), (76, 50), (33, 2), (23, 2), (32, 11), (119, 2), (120, 50), (122, 414), (125, 2), (127, 277), (167, 50), (126, 137), (166, 50), (35, 277), (75, 50), (19, 3), (206, 3001), (207, 0), (208, 20000), (115, 3000), (116, 3000), (117, 20000), (24, 0), (25, 0), (26, 1000), (18, 4), (17, 3000), (16, 200), (15, 3), (14, 70), (13, 2000), (7, 50), (1, 10000), (0, 1)]
def kS_9 : St := chS kS_8 (rowL kL_9)
set_option maxRecDepth 100000 in
theorem kf_46 : hitR (rowL kL_8) 0 1000 = rowL kL_8_1 := hit_eq (L := kL_8) (L' := kL_8_1) 277 50 14000 50 11 1 3 (by decide) (by decide +kernel) (by decide) (by decide +kernel) (by decide +kernel) (by decide +kernel) (by decide +kernel) (by decide +kernel) (by decide +kernel) (by decide +kernel)
set_option maxRecDepth 100000 in
theorem kf_47 : hitR (rowL kL_8_1) 0 1000 = rowL kL_8_2 := hit_eq (L := kL_8_1) (L' := kL_8_2) 277 50 14000 50 11 2 3 (by decide) (by decide +kernel) (by decide) (by decide +kernel) (by decide +kernel) (by decide +kernel) (by decide +kernel) (by decide +kernel) (by decide +kernel) (by decide +kernel)
set_option maxRecDepth 100000 in
theorem kf_48 : hitR (rowL kL_8_2) 0 1000 = rowL kL_9 := hit_eq (L := kL_8_2) (L' := kL_9) 178 77 14000 50 7 3 3 (by decide) (by decide +kernel) (by decide) (by decide +kernel) (by decide +kernel) (by decide +kernel) (by decide +kernel) (by decide +kernel) (by decide +kernel) (by decide +kernel)
set_option maxRecDepth 100000 in
theorem kf_49 : driveR 0 1000 0 100 (rowL kL_8) = (rowL kL_9, 3) := drive_go kf_46 (s := 277) (by decide +kernel) (by decide +kernel) (drive_go kf_47 (s := 277) (by decide +kernel) (by decide +kernel) (drive_end kf_48 (s := 178) (by decide +kernel) (by decide +kernel)))
set_option maxRecDepth 100000 in
theorem kf_50 : driveX kS_8 0 1000 0 100 = (3, kS_9) := by
  unfold driveX
  rw [if_pos (by decide +kernel), if_neg (by decide +kernel)]
  show ((driveR 0 1000 0 100 (rowL kL_8)).2, chS kS_8 (driveR 0 1000 0 100 (rowL kL_8)).1) = _
  rw [kf_49]
  rfl
set_option maxRecDepth 100000 in
theorem kf_51 : pileOfX kS_9 0 3 = 1000 := by decide +kernel
set_option maxRecDepth 100000 in
theorem kf_52 : strikeX kS_9 0 1000 = (-2, kS_9) := by
  unfold strikeX
  rw [if_pos (by decide +kernel), if_pos (by decide +kernel)]
set_option maxRecDepth 100000 in
theorem kf_53 : wouldX kS_9 0 1000 = (-2) := by decide +kernel
set_option maxRecDepth 100000 in
theorem kf_54 : fallForX kS_9 0 1 = (-2) := by decide +kernel
set_option maxRecDepth 100000 in
theorem kf_55 : driveX kS_9 0 1000 0 1 = (-2, kS_9) := by
  unfold driveX
  rw [if_pos (by decide +kernel), if_pos (by decide +kernel)]
set_option maxRecDepth 100000 in
theorem kf_56 : blowsToX kS_9 0 1000 1000 = 0 := by decide +kernel
set_option maxRecDepth 100000 in
theorem kf_57 : pileOfX kS_9 1 3 = 385 := by decide +kernel
set_option maxRecDepth 100000 in
theorem kf_58 : pileOfX kS_9 1 9 = 29 := by decide +kernel
set_option maxRecDepth 100000 in
theorem kf_59 : countX kS_9 23 = 40 := by decide +kernel
set_option maxRecDepth 100000 in
theorem kf_60 : pileOfX kS_9 2 9 = 0 := by decide +kernel
set_option maxRecDepth 100000 in
theorem kf_61 : runsX kS_9 0 = 1 := by decide +kernel
set_option maxRecDepth 100000 in
theorem kf_62 : runX kS_9 0 0 0 = 277 := by decide +kernel
set_option maxRecDepth 100000 in
theorem kf_63 : runX kS_9 0 0 1 = 3 := by decide +kernel
set_option maxRecDepth 100000 in
theorem kf_64 : runX kS_9 0 0 2 = 50 := by decide +kernel
set_option maxRecDepth 100000 in
theorem kf_65 : runX kS_9 0 0 3 = 831 := by decide +kernel
set_option maxRecDepth 100000 in
theorem kf_66 : runX kS_9 0 1 0 = (-4) := by decide +kernel
set_option maxRecDepth 100000 in
theorem kf_67 : blowX kS_9 0 0 0 = 178 := by decide +kernel
set_option maxRecDepth 100000 in
theorem kf_68 : blowX kS_9 0 0 1 = 77 := by decide +kernel
set_option maxRecDepth 100000 in
theorem kf_69 : blowX kS_9 0 3 0 = 277 := by decide +kernel
set_option maxRecDepth 100000 in
theorem kf_70 : blowX kS_9 0 4 0 = (-4) := by decide +kernel
set_option maxRecDepth 100000 in
theorem kf_71 : pileOfX kS_9 0 12 = 4 := by decide +kernel
abbrev kL_10 : List (Nat × Int) := [(1, 100), (7, 500), (0, 1), (118, 385), (121, 1), (123, 29), (22, 40), (27, 1000), (28, 4), (29, 77), (30, 0), (31, 1009), (20, 6), (21, 1423), (934, 77000), (935, 71150), (34, 4), (38, 178), (78, 77), (37, 277), (77, 50), (36, 277), (76, 50), (33, 2), (23, 2), (32, 11), (119, 2), (120, 50), (122, 414), (125, 2), (127, 277), (167, 50), (126, 137), (166, 50), (35, 277), (75, 50), (19, 3), (206, 3001), (207, 0), (208, 20000), (115, 3000), (116, 3000), (117, 20000), (24, 0), (25, 0), (26, 1000), (18, 4), (17, 3000), (16, 200), (15, 3), (14, 70), (13, 2000)]
def kS_10 : St := chS kS_9 (rowL kL_10)
set_option maxRecDepth 100000 in
theorem kf_72 : stratumX kS_9 0 100 500 = (1, kS_10) := by
  unfold stratumX
  rw [if_pos (by decide +kernel), if_neg (by decide +kernel)]
  exact Prod.ext (show putR (rowL kL_9) 0 100 500 0 = 1 from (by decide +kernel)) (congrArg (chS kS_9) ((put_eq kL_9 0 100 500).trans (congrArg rowL (show _ = kL_10 from (by decide +kernel)))))
abbrev kL_11 : List (Nat × Int) := [(209, 25), (210, 1), (211, 500), (212, 0), (213, 25), (20, 7), (21, 1448), (934, 91000), (935, 83650), (216, 1), (217, 25), (257, 500), (1, 100), (7, 500), (0, 1), (118, 385), (121, 1), (123, 29), (22, 40), (27, 1000), (28, 4), (29, 77), (30, 0), (31, 1009), (34, 4), (38, 178), (78, 77), (37, 277), (77, 50), (36, 277), (76, 50), (33, 2), (23, 2), (32, 11), (119, 2), (120, 50), (122, 414), (125, 2), (127, 277), (167, 50), (126, 137), (166, 50), (35, 277), (75, 50), (19, 3), (206, 3001), (207, 0), (208, 20000), (115, 3000), (116, 3000), (117, 20000), (24, 0), (25, 0), (26, 1000), (18, 4), (17, 3000), (16, 200), (15, 3), (14, 70), (13, 2000)]
def kS_11 : St := chS kS_10 (rowL kL_11)
set_option maxRecDepth 100000 in
theorem kf_73 : hitR (rowL kL_10) 2 1000 = rowL kL_11 := hit_eq (L := kL_10) (L' := kL_11) 25 500 14000 500 1 0 3 (by decide) (by decide +kernel) (by decide) (by decide +kernel) (by decide +kernel) (by decide +kernel) (by decide +kernel) (by decide +kernel) (by decide +kernel) (by decide +kernel)
set_option maxRecDepth 100000 in
theorem kf_74 : strikeX kS_10 2 1000 = (25, kS_11) := by
  unfold strikeX
  rw [if_pos (by decide +kernel), if_neg (by decide +kernel)]
  exact Prod.ext (show blowS kS_10.1 2 1000 = 25 from (by decide +kernel)) (congrArg (chS kS_10) kf_73)
abbrev kL_11_1 : List (Nat × Int) := [(209, 50), (210, 2), (211, 500), (212, 0), (213, 50), (20, 8), (21, 1473), (934, 105000), (935, 96150), (216, 2), (218, 25), (258, 500), (217, 25), (257, 500), (1, 100), (7, 500), (0, 1), (118, 385), (121, 1), (123, 29), (22, 40), (27, 1000), (28, 4), (29, 77), (30, 0), (31, 1009), (34, 4), (38, 178), (78, 77), (37, 277), (77, 50), (36, 277), (76, 50), (33, 2), (23, 2), (32, 11), (119, 2), (120, 50), (122, 414), (125, 2), (127, 277), (167, 50), (126, 137), (166, 50), (35, 277), (75, 50), (19, 3), (206, 3001), (207, 0), (208, 20000), (115, 3000), (116, 3000), (117, 20000), (24, 0), (25, 0), (26, 1000), (18, 4), (17, 3000), (16, 200), (15, 3), (14, 70), (13, 2000)]
abbrev kL_11_2 : List (Nat × Int) := [(209, 75), (210, 3), (211, 500), (212, 0), (213, 75), (20, 9), (21, 1498), (934, 119000), (935, 108650), (216, 3), (219, 25), (259, 500), (218, 25), (258, 500), (217, 25), (257, 500), (1, 100), (7, 500), (0, 1), (118, 385), (121, 1), (123, 29), (22, 40), (27, 1000), (28, 4), (29, 77), (30, 0), (31, 1009), (34, 4), (38, 178), (78, 77), (37, 277), (77, 50), (36, 277), (76, 50), (33, 2), (23, 2), (32, 11), (119, 2), (120, 50), (122, 414), (125, 2), (127, 277), (167, 50), (126, 137), (166, 50), (35, 277), (75, 50), (19, 3), (206, 3001), (207, 0), (208, 20000), (115, 3000), (116, 3000), (117, 20000), (24, 0), (25, 0), (26, 1000), (18, 4), (17, 3000), (16, 200), (15, 3), (14, 70), (13, 2000)]
abbrev kL_11_3 : List (Nat × Int) := [(209, 100), (210, 4), (211, 500), (212, 0), (213, 100), (20, 10), (21, 1523), (934, 133000), (935, 121150), (216, 4), (220, 25), (260, 500), (219, 25), (259, 500), (218, 25), (258, 500), (217, 25), (257, 500), (1, 100), (7, 500), (0, 1), (118, 385), (121, 1), (123, 29), (22, 40), (27, 1000), (28, 4), (29, 77), (30, 0), (31, 1009), (34, 4), (38, 178), (78, 77), (37, 277), (77, 50), (36, 277), (76, 50), (33, 2), (23, 2), (32, 11), (119, 2), (120, 50), (122, 414), (125, 2), (127, 277), (167, 50), (126, 137), (166, 50), (35, 277), (75, 50), (19, 3), (206, 3001), (207, 0), (208, 20000), (115, 3000), (116, 3000), (117, 20000), (24, 0), (25, 0), (26, 1000), (18, 4), (17, 3000), (16, 200), (15, 3), (14, 70), (13, 2000)]
abbrev kL_12 : List (Nat × Int) := [(209, 104), (210, 5), (211, 2000), (212, 0), (213, 104), (20, 11), (21, 1527), (934, 147000), (935, 129150), (216, 5), (221, 4), (261, 2000), (220, 25), (260, 500), (219, 25), (259, 500), (218, 25), (258, 500), (217, 25), (257, 500), (1, 100), (7, 500), (0, 1), (118, 385), (121, 1), (123, 29), (22, 40), (27, 1000), (28, 4), (29, 77), (30, 0), (31, 1009), (34, 4), (38, 178), (78, 77), (37, 277), (77, 50), (36, 277), (76, 50), (33, 2), (23, 2), (32, 11), (119, 2), (120, 50), (122, 414), (125, 2), (127, 277), (167, 50), (126, 137), (166, 50), (35, 277), (75, 50), (19, 3), (206, 3001), (207, 0), (208, 20000), (115, 3000), (116, 3000), (117, 20000), (24, 0), (25, 0), (26, 1000), (18, 4), (17, 3000), (16, 200), (15, 3), (14, 70), (13, 2000)]
def kS_12 : St := chS kS_11 (rowL kL_12)
set_option maxRecDepth 100000 in
theorem kf_75 : hitR (rowL kL_11) 2 1000 = rowL kL_11_1 := hit_eq (L := kL_11) (L' := kL_11_1) 25 500 14000 500 1 1 3 (by decide) (by decide +kernel) (by decide) (by decide +kernel) (by decide +kernel) (by decide +kernel) (by decide +kernel) (by decide +kernel) (by decide +kernel) (by decide +kernel)
set_option maxRecDepth 100000 in
theorem kf_76 : hitR (rowL kL_11_1) 2 1000 = rowL kL_11_2 := hit_eq (L := kL_11_1) (L' := kL_11_2) 25 500 14000 500 1 2 3 (by decide) (by decide +kernel) (by decide) (by decide +kernel) (by decide +kernel) (by decide +kernel) (by decide +kernel) (by decide +kernel) (by decide +kernel) (by decide +kernel)
set_option maxRecDepth 100000 in
theorem kf_77 : hitR (rowL kL_11_2) 2 1000 = rowL kL_11_3 := hit_eq (L := kL_11_2) (L' := kL_11_3) 25 500 14000 500 1 3 3 (by decide) (by decide +kernel) (by decide) (by decide +kernel) (by decide +kernel) (by decide +kernel) (by decide +kernel) (by decide +kernel) (by decide +kernel) (by decide +kernel)
set_option maxRecDepth 100000 in
theorem kf_78 : hitR (rowL kL_11_3) 2 1000 = rowL kL_12 := hit_eq (L := kL_11_3) (L' := kL_12) 4 2000 14000 2000 0 4 3 (by decide) (by decide +kernel) (by decide) (by decide +kernel) (by decide +kernel) (by decide +kernel) (by decide +kernel) (by decide +kernel) (by decide +kernel) (by decide +kernel)
set_option maxRecDepth 100000 in
theorem kf_79 : driveR 2 1000 5 100 (rowL kL_11) = (rowL kL_12, 4) := drive_go kf_75 (s := 25) (by decide +kernel) (by decide +kernel) (drive_go kf_76 (s := 25) (by decide +kernel) (by decide +kernel) (drive_go kf_77 (s := 25) (by decide +kernel) (by decide +kernel) (drive_end kf_78 (s := 4) (by decide +kernel) (by decide +kernel))))
set_option maxRecDepth 100000 in
theorem kf_80 : driveX kS_11 2 1000 5 100 = (4, kS_12) := by
  unfold driveX
  rw [if_pos (by decide +kernel), if_neg (by decide +kernel)]
  show ((driveR 2 1000 5 100 (rowL kL_11)).2, chS kS_11 (driveR 2 1000 5 100 (rowL kL_11)).1) = _
  rw [kf_79]
  rfl
set_option maxRecDepth 100000 in
theorem kf_81 : pileOfX kS_12 2 3 = 104 := by decide +kernel
set_option maxRecDepth 100000 in
theorem kf_82 : blowX kS_12 2 0 0 = 4 := by decide +kernel
set_option maxRecDepth 100000 in
theorem kf_83 : blowX kS_12 2 0 1 = 2000 := by decide +kernel
abbrev kL_13 : List (Nat × Int) := [(15, 50), (209, 104), (210, 5), (211, 2000), (212, 0), (213, 104), (20, 11), (21, 1527), (934, 147000), (935, 129150), (216, 5), (221, 4), (261, 2000), (220, 25), (260, 500), (219, 25), (259, 500), (218, 25), (258, 500), (217, 25), (257, 500), (1, 100), (7, 500), (0, 1), (118, 385), (121, 1), (123, 29), (22, 40), (27, 1000), (28, 4), (29, 77), (30, 0), (31, 1009), (34, 4), (38, 178), (78, 77), (37, 277), (77, 50), (36, 277), (76, 50), (33, 2), (23, 2), (32, 11), (119, 2), (120, 50), (122, 414), (125, 2), (127, 277), (167, 50), (126, 137), (166, 50), (35, 277), (75, 50), (19, 3), (206, 3001), (207, 0), (208, 20000), (115, 3000), (116, 3000), (117, 20000), (24, 0), (25, 0), (26, 1000), (18, 4), (17, 3000), (16, 200), (14, 70), (13, 2000)]
def kS_13 : St := chS kS_12 (rowL kL_13)
set_option maxRecDepth 100000 in
theorem kf_84 : setX kS_12 2 50 = (3, kS_13) := by
  unfold setX
  rw [if_pos (by decide +kernel)]
  exact Prod.ext (show kS_12.1 (13 + 2) = 3 from (by decide +kernel)) (congrArg (chS kS_12) ((sett_eq kL_12 2 50).trans (congrArg rowL (show _ = kL_13 from (by decide +kernel)))))
set_option maxRecDepth 100000 in
theorem kf_85 : wouldX kS_13 2 100 = 0 := by decide +kernel
set_option maxRecDepth 100000 in
theorem kf_86 : blowsToX kS_13 2 100 105 = (-4) := by decide +kernel
set_option maxRecDepth 100000 in
theorem kf_87 : blowsToX kS_13 2 100 104 = 0 := by decide +kernel
set_option maxRecDepth 100000 in
theorem kf_88 : groundX kS_13 0 3 = 0 := by decide +kernel
abbrev kL_14 : List (Nat × Int) := [(15, 0), (209, 104), (210, 5), (211, 2000), (212, 0), (213, 104), (20, 11), (21, 1527), (934, 147000), (935, 129150), (216, 5), (221, 4), (261, 2000), (220, 25), (260, 500), (219, 25), (259, 500), (218, 25), (258, 500), (217, 25), (257, 500), (1, 100), (7, 500), (0, 1), (118, 385), (121, 1), (123, 29), (22, 40), (27, 1000), (28, 4), (29, 77), (30, 0), (31, 1009), (34, 4), (38, 178), (78, 77), (37, 277), (77, 50), (36, 277), (76, 50), (33, 2), (23, 2), (32, 11), (119, 2), (120, 50), (122, 414), (125, 2), (127, 277), (167, 50), (126, 137), (166, 50), (35, 277), (75, 50), (19, 3), (206, 3001), (207, 0), (208, 20000), (115, 3000), (116, 3000), (117, 20000), (24, 0), (25, 0), (26, 1000), (18, 4), (17, 3000), (16, 200), (14, 70), (13, 2000)]
def kS_14 : St := chS kS_13 (rowL kL_14)
set_option maxRecDepth 100000 in
theorem kf_89 : setX kS_13 2 0 = (50, kS_14) := by
  unfold setX
  rw [if_pos (by decide +kernel)]
  exact Prod.ext (show kS_13.1 (13 + 2) = 50 from (by decide +kernel)) (congrArg (chS kS_13) ((sett_eq kL_13 2 0).trans (congrArg rowL (show _ = kL_14 from (by decide +kernel)))))
abbrev kL_15 : List (Nat × Int) := [(209, 104), (210, 6), (211, 100000), (212, 0), (213, 104), (20, 12), (21, 1527), (934, 148988), (935, 129150), (216, 6), (222, 0), (262, 100000), (15, 0), (221, 4), (261, 2000), (220, 25), (260, 500), (219, 25), (259, 500), (218, 25), (258, 500), (217, 25), (257, 500), (1, 100), (7, 500), (0, 1), (118, 385), (121, 1), (123, 29), (22, 40), (27, 1000), (28, 4), (29, 77), (30, 0), (31, 1009), (34, 4), (38, 178), (78, 77), (37, 277), (77, 50), (36, 277), (76, 50), (33, 2), (23, 2), (32, 11), (119, 2), (120, 50), (122, 414), (125, 2), (127, 277), (167, 50), (126, 137), (166, 50), (35, 277), (75, 50), (19, 3), (206, 3001), (207, 0), (208, 20000), (115, 3000), (116, 3000), (117, 20000), (24, 0), (25, 0), (26, 1000), (18, 4), (17, 3000), (16, 200), (14, 70), (13, 2000)]
def kS_15 : St := chS kS_14 (rowL kL_15)
set_option maxRecDepth 100000 in
theorem kf_90 : hitR (rowL kL_14) 2 142 = rowL kL_15 := hit_eq (L := kL_14) (L' := kL_15) 0 100000 1988 2000 0 5 3 (by decide) (by decide +kernel) (by decide) (by decide +kernel) (by decide +kernel) (by decide +kernel) (by decide +kernel) (by decide +kernel) (by decide +kernel) (by decide +kernel)
set_option maxRecDepth 100000 in
theorem kf_91 : strikeX kS_14 2 142 = (0, kS_15) := by
  unfold strikeX
  rw [if_pos (by decide +kernel), if_neg (by decide +kernel)]
  exact Prod.ext (show blowS kS_14.1 2 142 = 0 from (by decide +kernel)) (congrArg (chS kS_14) kf_90)
set_option maxRecDepth 100000 in
theorem kf_92 : pileOfX kS_15 2 5 = 100000 := by decide +kernel
abbrev kL_16 : List (Nat × Int) := [(27, 1000), (30, 0), (33, 2), (23, 2), (209, 104), (210, 6), (211, 100000), (212, 0), (213, 104), (20, 12), (21, 1527), (934, 148988), (935, 129150), (216, 6), (222, 0), (262, 100000), (15, 0), (221, 4), (261, 2000), (220, 25), (260, 500), (219, 25), (259, 500), (218, 25), (258, 500), (217, 25), (257, 500), (1, 100), (7, 500), (0, 1), (118, 385), (121, 1), (123, 29), (22, 40), (28, 4), (29, 77), (31, 1009), (34, 4), (38, 178), (78, 77), (37, 277), (77, 50), (36, 277), (76, 50), (32, 11), (119, 2), (120, 50), (122, 414), (125, 2), (127, 277), (167, 50), (126, 137), (166, 50), (35, 277), (75, 50), (19, 3), (206, 3001), (207, 0), (208, 20000), (115, 3000), (116, 3000), (117, 20000), (24, 0), (25, 0), (26, 1000), (18, 4), (17, 3000), (16, 200), (14, 70), (13, 2000)]
def kS_16 : St := chS kS_15 (rowL kL_16)
set_option maxRecDepth 100000 in
theorem kf_93 : testX kS_15 0 100000 = (0, kS_16) := by
  unfold testX
  rw [if_pos (by decide +kernel), if_neg (by decide +kernel), if_neg (by decide +kernel), show pressZ kS_15.1 (Int.toNat 0) 100000 = 0 from (by decide +kernel)]
  exact congrArg (fun r => ((0 : Int), chS kS_15 r)) ((press_eq kL_15 0 0).trans (congrArg rowL (show _ = kL_16 from (by decide +kernel))))
abbrev kL_17 : List (Nat × Int) := [(209, 8104), (212, 0), (215, 8000), (23, 8002), (27, 1000), (30, 0), (33, 2), (210, 6), (211, 100000), (213, 104), (20, 12), (21, 1527), (934, 148988), (935, 129150), (216, 6), (222, 0), (262, 100000), (15, 0), (221, 4), (261, 2000), (220, 25), (260, 500), (219, 25), (259, 500), (218, 25), (258, 500), (217, 25), (257, 500), (1, 100), (7, 500), (0, 1), (118, 385), (121, 1), (123, 29), (22, 40), (28, 4), (29, 77), (31, 1009), (34, 4), (38, 178), (78, 77), (37, 277), (77, 50), (36, 277), (76, 50), (32, 11), (119, 2), (120, 50), (122, 414), (125, 2), (127, 277), (167, 50), (126, 137), (166, 50), (35, 277), (75, 50), (19, 3), (206, 3001), (207, 0), (208, 20000), (115, 3000), (116, 3000), (117, 20000), (24, 0), (25, 0), (26, 1000), (18, 4), (17, 3000), (16, 200), (14, 70), (13, 2000)]
def kS_17 : St := chS kS_16 (rowL kL_17)
set_option maxRecDepth 100000 in
theorem kf_94 : testX kS_16 2 100000 = (8000, kS_17) := by
  unfold testX
  rw [if_pos (by decide +kernel), if_neg (by decide +kernel), if_neg (by decide +kernel), show pressZ kS_16.1 (Int.toNat 2) 100000 = 8000 from (by decide +kernel)]
  exact congrArg (fun r => ((8000 : Int), chS kS_16 r)) ((press_eq kL_16 2 8000).trans (congrArg rowL (show _ = kL_17 from (by decide +kernel))))
