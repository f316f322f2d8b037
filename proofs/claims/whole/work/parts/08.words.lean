def kTbl : List Cond := lw_tbl.filter goodWord
def kWat (p : Nat) (w : Cond) : Bool := decide (lw_tbl[p]? = some w) && goodWord w
theorem kWat_ok {p : Nat} {w : Cond} (h : kWat p w = true) : w ∈ kTbl := by
  unfold kWat at h
  rw [Bool.and_eq_true] at h
  exact List.mem_filter.mpr ⟨List.mem_of_getElem? (of_decide_eq_true h.1), h.2⟩
def kTw0 : List Cond := vx_atS "RelationDesk" 49 "java/lang/IllegalArgumentException" ["java/lang/RuntimeException", "java/lang/Exception"]
def kTw1 : List Cond := vx_atS "RelationDesk" 63 "java/lang/IllegalStateException" ["java/lang/RuntimeException", "java/lang/Exception"]
def kNst0 : List Cond := [.methodLinkNest "RelationDesk" 29 (kNm 45) "RelationDesk", .methodLinkNest "RelationDesk$Reader" 117 (kNm 18) "RelationDesk", .methodLinkNest "RelationDesk$Runner" 135 (kNm 18) "RelationDesk"]
def kNst : List Cond := kNst0 ++ (kTw0.filter (fun w => !goodWord w) ++ kTw1.filter (fun w => !goodWord w))
def kFpL : List (Nat × Nat × Nat × Nat × Nat) := [(0, 10, 0, 0, 147), (0, 16, 0, 1, 148), (0, 23, 0, 2, 149), (0, 30, 0, 3, 150), (0, 34, 0, 4, 151), (0, 37, 0, 5, 152), (0, 41, 0, 6, 153), (0, 52, 5, 1, 89), (0, 55, 5, 2, 91), (0, 80, 4, 1, 285), (0, 90, 4, 4, 290), (0, 150, 2, 1, 113), (0, 166, 6, 9, 553), (0, 171, 2, 2, 115), (0, 185, 3, 1, 141), (0, 188, 6, 10, 556), (1, 9, 1, 0, 509), (1, 15, 1, 1, 510), (1, 18, 1, 2, 511), (1, 22, 1, 3, 512), (2, 9, 2, 0, 111), (2, 17, 2, 4, 117), (2, 21, 2, 2, 114), (2, 25, 2, 1, 112), (2, 28, 2, 3, 116), (2, 31, 2, 5, 118), (2, 66, 6, 0, 525), (2, 73, 6, 7, 546), (2, 77, 6, 8, 549), (2, 84, 6, 9, 551), (2, 91, 5, 1, 90), (2, 98, 6, 6, 543), (2, 102, 6, 1, 528), (2, 105, 6, 3, 534), (2, 108, 6, 4, 537), (2, 111, 6, 5, 540), (2, 114, 6, 2, 530), (2, 120, 4, 0, 283), (2, 137, 4, 1, 286), (3, 9, 3, 1, 140), (3, 19, 3, 0, 139), (3, 31, 6, 7, 545), (3, 35, 6, 8, 548), (3, 38, 6, 0, 524), (3, 45, 6, 6, 542), (3, 76, 6, 12, 560), (3, 83, 6, 1, 527), (3, 86, 6, 4, 536), (3, 99, 6, 10, 555), (3, 111, 6, 3, 533), (3, 121, 6, 9, 552), (3, 124, 6, 5, 539), (3, 127, 6, 13, 562), (3, 138, 6, 2, 531), (3, 141, 6, 14, 564), (3, 148, 6, 11, 558), (3, 161, 6, 15, 566), (3, 167, 1, 3, 513), (4, 9, 4, 0, 282), (4, 15, 4, 1, 284), (4, 19, 4, 2, 287), (4, 23, 4, 3, 288), (4, 26, 4, 4, 289), (4, 46, 4, 5, 291), (5, 11, 5, 0, 87), (5, 17, 5, 1, 88), (5, 24, 5, 2, 92), (5, 28, 5, 3, 93), (6, 9, 6, 5, 538), (6, 15, 6, 10, 554), (6, 21, 6, 11, 557), (6, 25, 6, 0, 523), (6, 29, 6, 1, 526), (6, 32, 6, 2, 529), (6, 35, 6, 3, 532), (6, 38, 6, 4, 535), (6, 41, 6, 6, 541), (6, 45, 6, 7, 544), (6, 49, 6, 8, 547), (6, 52, 6, 9, 550), (6, 55, 6, 12, 559), (6, 58, 6, 13, 561), (6, 62, 6, 14, 563), (6, 65, 6, 15, 565), (7, 7, 7, 2, 805), (7, 13, 7, 3, 806), (7, 17, 7, 4, 807), (7, 20, 7, 5, 808), (7, 23, 7, 6, 809), (7, 26, 7, 9, 812), (7, 29, 7, 10, 813), (7, 32, 7, 12, 815), (7, 35, 7, 13, 816), (7, 38, 7, 14, 817), (7, 42, 7, 17, 820), (7, 45, 7, 18, 821), (7, 48, 7, 19, 822), (7, 51, 7, 20, 823), (7, 54, 7, 21, 824), (7, 57, 7, 26, 829), (7, 61, 7, 27, 830), (7, 64, 7, 28, 831), (7, 67, 7, 29, 832), (7, 70, 7, 30, 833), (7, 73, 7, 32, 835), (7, 76, 7, 33, 836), (7, 79, 7, 34, 837), (7, 82, 7, 38, 841), (7, 85, 7, 39, 842), (7, 88, 7, 0, 803), (7, 91, 7, 1, 804), (7, 102, 7, 7, 810), (7, 106, 7, 15, 818), (7, 117, 7, 8, 811), (7, 130, 7, 11, 814), (7, 133, 7, 23, 826), (7, 136, 7, 22, 825), (7, 149, 7, 16, 819), (7, 169, 7, 24, 827), (7, 172, 7, 31, 834), (7, 178, 7, 35, 838), (7, 181, 7, 36, 839), (7, 187, 7, 37, 840), (7, 194, 7, 25, 828)]
def kChF (q : Nat × Nat × Nat × Nat × Nat) : Bool := match classes[q.2.2.1]? with
  | some r => decide (q.2.2.2.1 < r.2.2) && kWat q.2.2.2.2 (.fieldLink (kCls q.1) q.2.1 (r.2.1 q.2.2.2.1).1 (r.2.1 q.2.2.2.1).2.1 (r.2.1 q.2.2.2.1).2.2.1)
  | none => false
theorem kChF_ok : kFpL.all kChF = true := by decide +kernel
theorem kFpL_eq : kFpL.map (fun q => (q.1, q.2.1, q.2.2.1, q.2.2.2.1)) = kFldL := by decide +kernel
def kLyL : List (List Nat) := [[154, 156, 158, 160, 162, 164, 166], [514, 516, 518, 520], [119, 121, 123, 125, 127, 129], [142, 144], [292, 294, 296, 298, 300, 302], [94, 96, 98, 100], [567, 569, 571, 573, 575, 577, 579, 581, 583, 585, 587, 589, 591, 593, 595, 597], [843, 845, 847, 849, 851, 853, 855, 857, 859, 861, 863, 865, 867, 869, 871, 873, 875, 877, 879, 881, 883, 885, 887, 889, 891, 893, 895, 897, 899, 901, 903, 905, 907, 909, 911, 913, 915, 917, 919, 921]]
def kChL (ci : Nat) : Bool := match classes[ci]? with
  | some r => (List.range r.2.2).all (fun k => kWat ((kLyL.getD ci []).getD k 0) (u_lay r.1 r.2.1 k) && decide (parseFieldDescriptor (r.2.1 k).2.2.1 = some (kFty ci k)) && decide (defaultValue (kFty ci k) = vp_V (kDef ci) k) && (List.range r.2.2).all (fun j => decide (j = k) || decide ((r.2.1 k).2.1 ≠ (r.2.1 j).2.1))) && decide (r.2.2 = kSz ci)
  | none => false
theorem kChL_ok : (List.range classes.length).all kChL = true := by decide +kernel
def kNpL : List (Nat × Nat × Nat × Nat × Nat × Nat) := [(0, 7, 5, 79, 80, 57), (0, 20, 2, 103, 104, 58), (0, 27, 3, 133, 134, 59), (2, 15, 6, 109, 498, 69), (5, 9, 4, 85, 277, 66), (6, 18, 1, 503, 504, 70), (8, 8, 0, 71, 72, 56), (8, 58, 7, 796, 797, 60)]
def kChN (q : Nat × Nat × Nat × Nat × Nat × Nat) : Bool := match classes[q.2.2.1]? with
  | some r => kWat q.2.2.2.1 (.classLink (kCls q.1) q.2.1 r.1) && kWat q.2.2.2.2.1 (.instantiable r.1 r.2.2) && kWat q.2.2.2.2.2 (.initialized r.1)
  | none => false
theorem kChN_ok : kNpL.all kChN = true := by decide +kernel
theorem kNpL_eq : kNpL.map (fun q => (q.1, q.2.1, q.2.2.1)) = kNewL := by decide +kernel
def kApL : List (Nat × Nat × Nat × Nat) := [(2, 15, 4, 109), (5, 9, 3, 85)]
def kChA (q : Nat × Nat × Nat × Nat) : Bool := match kArt[q.2.2.1]? with
  | some (.object C) => kWat q.2.2.2 (.classLink (kCls q.1) q.2.1 C) && decide (C ∈ kAOs)
  | _ => false
theorem kChA_ok : kApL.all kChA = true := by decide +kernel
theorem kApL_eq : kApL.map (fun q => (q.1, q.2.1, q.2.2.1)) = kANewL := by decide +kernel
theorem kArr_i : Cond.arrayClass .int ∈ kTbl := kWat_ok (p := 132) (by decide +kernel)
theorem kArr_z : Cond.arrayClass .boolean ∈ kTbl := kWat_ok (p := 305) (by decide +kernel)
theorem kArr_j : Cond.arrayClass .long ∈ kTbl := kWat_ok (p := 1121) (by decide +kernel)
def kCpL : List (Nat × Nat × Int32 × Nat) := [(3, 107, 1000000, 679), (7, 60, 108000, 802), (7, 143, (-2147483648), 1019), (7, 144, 2147483647, 1020)]
theorem kChC_ok : kCpL.all (fun q => kWat q.2.2.2 (.constant (kCls q.1) q.2.1 q.2.2.1)) = true := by decide +kernel
theorem kCpL_eq : kCpL.map (fun q => (q.1, q.2.1, q.2.2.1)) = kCstL := by decide +kernel
def kXpL : List (Nat × Nat × Nat × Nat) := [(0, 191, 0, 795), (1, 25, 0, 734), (3, 196, 1, 764), (3, 201, 2, 767), (3, 204, 0, 689), (4, 36, 0, 352)]
def kNatN (v : Nat) : MethodName := match v with
  | 0 => arraycopyName
  | 1 => Lib.Math.min.name
  | _ => Lib.Math.max.name
theorem kChX_ok : kXpL.all (fun q => kWat q.2.2.2 (.methodLink (kCls q.1) q.2.1 (kNatN q.2.2.1))) = true := by decide +kernel
theorem kXpL_eq : kXpL.map (fun q => (q.1, q.2.1, q.2.2.1)) = kNatL := by decide +kernel
theorem kX_nat : Cond.native arraycopyName ∈ kTbl := kWat_ok (p := 354) (by decide +kernel)
theorem kX_st0 : Cond.static arraycopyName ∈ kTbl := kWat_ok (p := 353) (by decide +kernel)
theorem kX_in0 : Cond.initialized "java/lang/System" ∈ kTbl := kWat_ok (p := 67) (by decide +kernel)
theorem kX_st1 : Cond.static Lib.Math.min.name ∈ kTbl := kWat_ok (p := 765) (by decide +kernel)
theorem kX_st2 : Cond.static Lib.Math.max.name ∈ kTbl := kWat_ok (p := 768) (by decide +kernel)
theorem kX_in1 : Cond.initialized "java/lang/Math" ∈ kTbl := kWat_ok (p := 68) (by decide +kernel)
theorem kX_cd1 : Cond.code Lib.Math.min.name Lib.Math.min.code 2 (some .int) ∈ kTbl := kWat_ok (p := 766) (by decide +kernel)
theorem kX_cd2 : Cond.code Lib.Math.max.name Lib.Math.max.code 2 (some .int) ∈ kTbl := kWat_ok (p := 769) (by decide +kernel)
def kOpL : List (Nat × Nat × Nat × Nat) := [(0, 1, 0, 76), (1, 3, 0, 508), (2, 3, 0, 108), (3, 3, 0, 138), (4, 3, 0, 281), (5, 3, 0, 84), (6, 3, 0, 502), (7, 1, 0, 801)]
theorem kChO_ok : kOpL.all (fun q => kWat q.2.2.2 (.methodLink (kCls q.1) q.2.1 Lib.objectInit)) = true := by decide +kernel
theorem kOpL_eq : kOpL.map (fun q => (q.1, q.2.1, q.2.2.1)) = kOb9L := by decide +kernel
theorem kO_in : Cond.instanceMethod Lib.objectInit ∈ kTbl := kWat_ok (p := 77) (by decide +kernel)
theorem kO_cd : Cond.code Lib.objectInit ⟨#[0xb1]⟩ 1 none ∈ kTbl := kWat_ok (p := 78) (by decide +kernel)
def kMwL : List (List Nat) := [[75, 56, 74], [189, 56, 187, 188], [312, 56, 310, 311], [329, 56, 327, 328], [337, 56, 335, 336], [361, 56, 359, 360], [386, 56, 384, 385], [403, 56, 401, 402], [420, 56, 418, 419], [432, 56, 430, 431], [447, 56, 445, 446], [457, 56, 455, 456], [469, 56, 467, 468], [172, 56, 170, 171], [651, 56, 649, 650], [176, 56, 174, 175], [180, 56, 178, 179], [794, 56, 793, 24], [617, 56, 616], [507, 70, 506], [643, 70, 641, 642], [760, 70, 758, 759], [773, 70, 771, 772], [790, 70, 788, 789], [733, 70, 731, 732], [777, 70, 775, 776], [782, 70, 781], [725, 70, 723, 724], [729, 70, 728, 19], [756, 70, 754, 755], [107, 58, 106], [462, 58, 460, 461], [473, 58, 471, 472], [493, 58, 492, 5], [481, 58, 480, 2], [489, 58, 488, 4], [485, 58, 484, 3], [497, 58, 496, 6], [477, 58, 476, 1], [611, 58, 610], [607, 58, 606, 7], [614, 58, 613], [620, 58, 619], [623, 58, 622], [626, 58, 625], [137, 59, 136], [631, 59, 629, 630], [657, 59, 655, 656], [635, 59, 634, 8], [661, 59, 660, 9], [665, 59, 664, 10], [693, 59, 692, 13], [669, 59, 668, 11], [678, 59, 677, 12], [685, 59, 684], [701, 59, 700, 14], [705, 59, 704, 15], [708, 59, 707], [717, 59, 716, 17], [713, 59, 712, 16], [721, 59, 720, 18], [738, 59, 737, 20], [742, 59, 741, 21], [786, 59, 785, 23], [746, 59, 745, 22], [749, 59, 748], [752, 59, 751], [763, 59, 762], [682, 59, 681], [688, 59, 687], [280, 66, 279], [320, 66, 318, 319], [373, 66, 371, 372], [369, 66, 367, 368], [674, 66, 672, 673], [351, 66, 349, 350], [365, 66, 363, 364], [697, 66, 695, 696], [379, 66, 377, 378], [396, 66, 394, 395], [413, 66, 411, 412], [440, 66, 438, 439], [83, 57, 82], [316, 57, 314, 315], [276, 57, 274, 275], [342, 57, 340, 341], [347, 57, 345, 346], [408, 57, 406, 407], [425, 57, 423, 424], [436, 57, 434, 435], [501, 69, 500], [603, 69, 601, 602], [639, 69, 637, 638], [800, 60, 799], [927, 60, 925, 926], [934, 60, 933], [954, 60, 953, 27], [946, 60, 945, 26], [942, 60, 941, 25], [961, 60, 960], [931, 60, 929, 930], [938, 60, 936, 937], [950, 60, 948, 949], [958, 60, 956, 957], [969, 60, 968, 28], [965, 60, 963, 964], [973, 60, 971, 972], [977, 60, 975, 976], [981, 60, 979, 980], [985, 60, 983, 984], [990, 60, 988, 989], [994, 60, 992, 993], [1010, 60, 1009, 31], [1006, 60, 1005, 30], [1018, 60, 1017, 33], [1002, 60, 1001, 29], [1014, 60, 1013, 32], [1028, 60, 1027, 35], [1024, 60, 1023, 34], [1032, 60, 1031, 36], [998, 60, 996, 997], [1040, 60, 1038, 1039], [1036, 60, 1035, 37], [1048, 60, 1047, 38], [1060, 60, 1059, 41], [1064, 60, 1063, 42], [1056, 60, 1055, 40], [1068, 60, 1067, 43], [1052, 60, 1051, 39], [1072, 60, 1071, 44], [1084, 60, 1083, 47], [1076, 60, 1075, 45], [1088, 60, 1087, 48], [1080, 60, 1079, 46], [1100, 60, 1099, 51], [1096, 60, 1095, 50], [1104, 60, 1103, 52], [1092, 60, 1091, 49], [1108, 60, 1107, 53], [1112, 60, 1111, 54], [1044, 60, 1042, 1043], [1116, 60, 1114, 1115], [1120, 60, 1118, 1119], [183, 55, 182], [308, 55, 307], [325, 55, 324], [333, 55, 332], [357, 55, 356], [382, 55, 381], [399, 55, 398], [416, 55, 415], [428, 55, 427], [443, 55, 442], [453, 55, 452], [465, 55, 464], [647, 55, 646], [], [389, 68, 388], [392, 68, 391]]
def kCdW (y : Nat) : Cond := if kHh y = [] then .code (kNm y) (kBytes y) (kMaxL y) (kRet y) else .codeWith (kNm y) (kBytes y) (kMaxL y) (kRet y) (kHh y)
def kWs (y : Nat) : List Cond := kCdW y :: kTbl
def kChM (y : Nat) : Bool := kWat ((kMwL.getD y []).getD 0 9999) (kCdW y) && kWat ((kMwL.getD y []).getD 1 9999) (.initialized (kNm y).cls) &&
  (match kKin y with
  | 0 => kWat ((kMwL.getD y []).getD 2 9999) (.static (kNm y)) && decide (kRcv y = none)
  | 1 => kWat ((kMwL.getD y []).getD 2 9999) (.instanceMethod (kNm y)) && kWat ((kMwL.getD y []).getD 3 9999) (.selects (kNm y).cls (kNm y) (kNm y)) && (match kRcv y with | some ci => decide ((classes[ci]?).map (fun r => r.1) = some (kNm y).cls) | none => false)
  | _ => kWat ((kMwL.getD y []).getD 2 9999) (.instanceMethod (kNm y)) && decide ((kNm y).name = "<init>")) &&
  decide ((kNm y).cls ≠ "java/lang/invoke/MethodHandle") && decide ((kNm y).cls ≠ "java/lang/invoke/VarHandle") && decide ((parseMethodDescriptor (kNm y).desc).map (fun d => d.parameters.length) = some (kArg y)) && (plainName (kNm y).cls || (plainFor (kNm y) && decide (kHh y = []))) && decide (kMaxL y ≤ 40) && decide (kCls (kCn y) = (kNm y).cls) && decide (kKin y = 0 ∨ kHh y = []) && decide (kKin y = 2 → kRet y = none)

theorem kChM_0 : kChM 0 = true := by decide +kernel
theorem kChM_1 : kChM 1 = true := by decide +kernel
theorem kChM_2 : kChM 2 = true := by decide +kernel
theorem kChM_3 : kChM 3 = true := by decide +kernel
theorem kChM_4 : kChM 4 = true := by decide +kernel
theorem kChM_5 : kChM 5 = true := by decide +kernel
theorem kChM_6 : kChM 6 = true := by decide +kernel
theorem kChM_7 : kChM 7 = true := by decide +kernel
theorem kChM_8 : kChM 8 = true := by decide +kernel
theorem kChM_9 : kChM 9 = true := by decide +kernel
theorem kChM_10 : kChM 10 = true := by decide +kernel
theorem kChM_11 : kChM 11 = true := by decide +kernel
theorem kChM_12 : kChM 12 = true := by decide +kernel
theorem kChM_13 : kChM 13 = true := by decide +kernel
theorem kChM_14 : kChM 14 = true := by decide +kernel
theorem kChM_15 : kChM 15 = true := by decide +kernel
theorem kChM_16 : kChM 16 = true := by decide +kernel
theorem kChM_17 : kChM 17 = true := by decide +kernel
theorem kChM_18 : kChM 18 = true := by decide +kernel
theorem kChM_19 : kChM 19 = true := by decide +kernel
theorem kChM_20 : kChM 20 = true := by decide +kernel
theorem kChM_21 : kChM 21 = true := by decide +kernel
theorem kChM_22 : kChM 22 = true := by decide +kernel
theorem kChM_23 : kChM 23 = true := by decide +kernel
theorem kChM_24 : kChM 24 = true := by decide +kernel
theorem kChM_25 : kChM 25 = true := by decide +kernel
theorem kChM_26 : kChM 26 = true := by decide +kernel
theorem kChM_27 : kChM 27 = true := by decide +kernel
theorem kChM_28 : kChM 28 = true := by decide +kernel
theorem kChM_29 : kChM 29 = true := by decide +kernel
theorem kChM_30 : kChM 30 = true := by decide +kernel
theorem kChM_31 : kChM 31 = true := by decide +kernel
theorem kChM_32 : kChM 32 = true := by decide +kernel
theorem kChM_33 : kChM 33 = true := by decide +kernel
theorem kChM_34 : kChM 34 = true := by decide +kernel
theorem kChM_35 : kChM 35 = true := by decide +kernel
theorem kChM_36 : kChM 36 = true := by decide +kernel
theorem kChM_37 : kChM 37 = true := by decide +kernel
theorem kChM_38 : kChM 38 = true := by decide +kernel
theorem kChM_39 : kChM 39 = true := by decide +kernel
theorem kChM_40 : kChM 40 = true := by decide +kernel
theorem kChM_41 : kChM 41 = true := by decide +kernel
theorem kChM_42 : kChM 42 = true := by decide +kernel
theorem kChM_43 : kChM 43 = true := by decide +kernel
theorem kChM_44 : kChM 44 = true := by decide +kernel
theorem kChM_45 : kChM 45 = true := by decide +kernel
theorem kChM_46 : kChM 46 = true := by decide +kernel
theorem kChM_47 : kChM 47 = true := by decide +kernel
theorem kChM_48 : kChM 48 = true := by decide +kernel
theorem kChM_49 : kChM 49 = true := by decide +kernel
theorem kChM_50 : kChM 50 = true := by decide +kernel
theorem kChM_51 : kChM 51 = true := by decide +kernel
theorem kChM_52 : kChM 52 = true := by decide +kernel
theorem kChM_53 : kChM 53 = true := by decide +kernel
theorem kChM_54 : kChM 54 = true := by decide +kernel
theorem kChM_55 : kChM 55 = true := by decide +kernel
theorem kChM_56 : kChM 56 = true := by decide +kernel
theorem kChM_57 : kChM 57 = true := by decide +kernel
theorem kChM_58 : kChM 58 = true := by decide +kernel
theorem kChM_59 : kChM 59 = true := by decide +kernel
theorem kChM_60 : kChM 60 = true := by decide +kernel
theorem kChM_61 : kChM 61 = true := by decide +kernel
theorem kChM_62 : kChM 62 = true := by decide +kernel
theorem kChM_63 : kChM 63 = true := by decide +kernel
theorem kChM_64 : kChM 64 = true := by decide +kernel
theorem kChM_65 : kChM 65 = true := by decide +kernel
theorem kChM_66 : kChM 66 = true := by decide +kernel
theorem kChM_67 : kChM 67 = true := by decide +kernel
theorem kChM_68 : kChM 68 = true := by decide +kernel
theorem kChM_69 : kChM 69 = true := by decide +kernel
theorem kChM_70 : kChM 70 = true := by decide +kernel
theorem kChM_71 : kChM 71 = true := by decide +kernel
theorem kChM_72 : kChM 72 = true := by decide +kernel
theorem kChM_73 : kChM 73 = true := by decide +kernel
theorem kChM_74 : kChM 74 = true := by decide +kernel
theorem kChM_75 : kChM 75 = true := by decide +kernel
theorem kChM_76 : kChM 76 = true := by decide +kernel
theorem kChM_77 : kChM 77 = true := by decide +kernel
theorem kChM_78 : kChM 78 = true := by decide +kernel
theorem kChM_79 : kChM 79 = true := by decide +kernel
theorem kChM_80 : kChM 80 = true := by decide +kernel
theorem kChM_81 : kChM 81 = true := by decide +kernel
theorem kChM_82 : kChM 82 = true := by decide +kernel
theorem kChM_83 : kChM 83 = true := by decide +kernel
theorem kChM_84 : kChM 84 = true := by decide +kernel
theorem kChM_85 : kChM 85 = true := by decide +kernel
theorem kChM_86 : kChM 86 = true := by decide +kernel
theorem kChM_87 : kChM 87 = true := by decide +kernel
theorem kChM_88 : kChM 88 = true := by decide +kernel
theorem kChM_89 : kChM 89 = true := by decide +kernel
theorem kChM_90 : kChM 90 = true := by decide +kernel
theorem kChM_91 : kChM 91 = true := by decide +kernel
theorem kChM_92 : kChM 92 = true := by decide +kernel
theorem kChM_93 : kChM 93 = true := by decide +kernel
theorem kChM_94 : kChM 94 = true := by decide +kernel
theorem kChM_95 : kChM 95 = true := by decide +kernel
theorem kChM_96 : kChM 96 = true := by decide +kernel
theorem kChM_97 : kChM 97 = true := by decide +kernel
theorem kChM_98 : kChM 98 = true := by decide +kernel
theorem kChM_99 : kChM 99 = true := by decide +kernel
theorem kChM_100 : kChM 100 = true := by decide +kernel
theorem kChM_101 : kChM 101 = true := by decide +kernel
theorem kChM_102 : kChM 102 = true := by decide +kernel
theorem kChM_103 : kChM 103 = true := by decide +kernel
theorem kChM_104 : kChM 104 = true := by decide +kernel
theorem kChM_105 : kChM 105 = true := by decide +kernel
theorem kChM_106 : kChM 106 = true := by decide +kernel
theorem kChM_107 : kChM 107 = true := by decide +kernel
theorem kChM_108 : kChM 108 = true := by decide +kernel
theorem kChM_109 : kChM 109 = true := by decide +kernel
theorem kChM_110 : kChM 110 = true := by decide +kernel
theorem kChM_111 : kChM 111 = true := by decide +kernel
theorem kChM_112 : kChM 112 = true := by decide +kernel
theorem kChM_113 : kChM 113 = true := by decide +kernel
theorem kChM_114 : kChM 114 = true := by decide +kernel
theorem kChM_115 : kChM 115 = true := by decide +kernel
theorem kChM_116 : kChM 116 = true := by decide +kernel
theorem kChM_117 : kChM 117 = true := by decide +kernel
theorem kChM_118 : kChM 118 = true := by decide +kernel
theorem kChM_119 : kChM 119 = true := by decide +kernel
theorem kChM_120 : kChM 120 = true := by decide +kernel
theorem kChM_121 : kChM 121 = true := by decide +kernel
theorem kChM_122 : kChM 122 = true := by decide +kernel
theorem kChM_123 : kChM 123 = true := by decide +kernel
theorem kChM_124 : kChM 124 = true := by decide +kernel
theorem kChM_125 : kChM 125 = true := by decide +kernel
theorem kChM_126 : kChM 126 = true := by decide +kernel
theorem kChM_127 : kChM 127 = true := by decide +kernel
theorem kChM_128 : kChM 128 = true := by decide +kernel
theorem kChM_129 : kChM 129 = true := by decide +kernel
theorem kChM_130 : kChM 130 = true := by decide +kernel
theorem kChM_131 : kChM 131 = true := by decide +kernel
theorem kChM_132 : kChM 132 = true := by decide +kernel
theorem kChM_133 : kChM 133 = true := by decide +kernel
theorem kChM_134 : kChM 134 = true := by decide +kernel
theorem kChM_135 : kChM 135 = true := by decide +kernel
theorem kChM_136 : kChM 136 = true := by decide +kernel
theorem kChM_137 : kChM 137 = true := by decide +kernel
theorem kChM_138 : kChM 138 = true := by decide +kernel
theorem kChM_139 : kChM 139 = true := by decide +kernel
theorem kChM_140 : kChM 140 = true := by decide +kernel
theorem kChM_141 : kChM 141 = true := by decide +kernel
theorem kChM_142 : kChM 142 = true := by decide +kernel
theorem kChM_143 : kChM 143 = true := by decide +kernel
theorem kChM_144 : kChM 144 = true := by decide +kernel
theorem kChM_145 : kChM 145 = true := by decide +kernel
theorem kChM_146 : kChM 146 = true := by decide +kernel
theorem kChM_147 : kChM 147 = true := by decide +kernel
theorem kChM_148 : kChM 148 = true := by decide +kernel
theorem kChM_149 : kChM 149 = true := by decide +kernel
theorem kChM_150 : kChM 150 = true := by decide +kernel
theorem kChM_151 : kChM 151 = true := by decide +kernel
theorem kChM_152 : kChM 152 = true := by decide +kernel
theorem kChM_153 : kChM 153 = true := by decide +kernel
theorem kChM_154 : kChM 154 = true := by decide +kernel
theorem kChM_155 : kChM 155 = true := by decide +kernel
theorem kChM_157 : kChM 157 = true := by decide +kernel
theorem kChM_158 : kChM 158 = true := by decide +kernel
def kYs : List Nat := [0, 1, 2, 3, 4, 5, 6, 7, 8, 9, 10, 11, 12, 13, 14, 15, 16, 17, 18, 19, 20, 21, 22, 23, 24, 25, 26, 27, 28, 29, 30, 31, 32, 33, 34, 35, 36, 37, 38, 39, 40, 41, 42, 43, 44, 45, 46, 47, 48, 49, 50, 51, 52, 53, 54, 55, 56, 57, 58, 59, 60, 61, 62, 63, 64, 65, 66, 67, 68, 69, 70, 71, 72, 73, 74, 75, 76, 77, 78, 79, 80, 81, 82, 83, 84, 85, 86, 87, 88, 89, 90, 91, 92, 93, 94, 95, 96, 97, 98, 99, 100, 101, 102, 103, 104, 105, 106, 107, 108, 109, 110, 111, 112, 113, 114, 115, 116, 117, 118, 119, 120, 121, 122, 123, 124, 125, 126, 127, 128, 129, 130, 131, 132, 133, 134, 135, 136, 137, 138, 139, 140, 141, 142, 143, 144, 145, 146, 147, 148, 149, 150, 151, 152, 153, 154, 155, 157, 158]
theorem kChM_ok : ∀ y ∈ kYs, kChM y = true := List.forall_mem_cons.mpr ⟨kChM_0, List.forall_mem_cons.mpr ⟨kChM_1, List.forall_mem_cons.mpr ⟨kChM_2, List.forall_mem_cons.mpr ⟨kChM_3, List.forall_mem_cons.mpr ⟨kChM_4, List.forall_mem_cons.mpr ⟨kChM_5, List.forall_mem_cons.mpr ⟨kChM_6, List.forall_mem_cons.mpr ⟨kChM_7, List.forall_mem_cons.mpr ⟨kChM_8, List.forall_mem_cons.mpr ⟨kChM_9, List.forall_mem_cons.mpr ⟨kChM_10, List.forall_mem_cons.mpr ⟨kChM_11, List.forall_mem_cons.mpr ⟨kChM_12, List.forall_mem_cons.mpr ⟨kChM_13, List.forall_mem_cons.mpr ⟨kChM_14, List.forall_mem_cons.mpr ⟨kChM_15, List.forall_mem_cons.mpr ⟨kChM_16, List.forall_mem_cons.mpr ⟨kChM_17, List.forall_mem_cons.mpr ⟨kChM_18, List.forall_mem_cons.mpr ⟨kChM_19, List.forall_mem_cons.mpr ⟨kChM_20, List.forall_mem_cons.mpr ⟨kChM_21, List.forall_mem_cons.mpr ⟨kChM_22, List.forall_mem_cons.mpr ⟨kChM_23, List.forall_mem_cons.mpr ⟨kChM_24, List.forall_mem_cons.mpr ⟨kChM_25, List.forall_mem_cons.mpr ⟨kChM_26, List.forall_mem_cons.mpr ⟨kChM_27, List.forall_mem_cons.mpr ⟨kChM_28, List.forall_mem_cons.mpr ⟨kChM_29, List.forall_mem_cons.mpr ⟨kChM_30, List.forall_mem_cons.mpr ⟨kChM_31, List.forall_mem_cons.mpr ⟨kChM_32, List.forall_mem_cons.mpr ⟨kChM_33, List.forall_mem_cons.mpr ⟨kChM_34, List.forall_mem_cons.mpr ⟨kChM_35, List.forall_mem_cons.mpr ⟨kChM_36, List.forall_mem_cons.mpr ⟨kChM_37, List.forall_mem_cons.mpr ⟨kChM_38, List.forall_mem_cons.mpr ⟨kChM_39, List.forall_mem_cons.mpr ⟨kChM_40, List.forall_mem_cons.mpr ⟨kChM_41, List.forall_mem_cons.mpr ⟨kChM_42, List.forall_mem_cons.mpr ⟨kChM_43, List.forall_mem_cons.mpr ⟨kChM_44, List.forall_mem_cons.mpr ⟨kChM_45, List.forall_mem_cons.mpr ⟨kChM_46, List.forall_mem_cons.mpr ⟨kChM_47, List.forall_mem_cons.mpr ⟨kChM_48, List.forall_mem_cons.mpr ⟨kChM_49, List.forall_mem_cons.mpr ⟨kChM_50, List.forall_mem_cons.mpr ⟨kChM_51, List.forall_mem_cons.mpr ⟨kChM_52, List.forall_mem_cons.mpr ⟨kChM_53, List.forall_mem_cons.mpr ⟨kChM_54, List.forall_mem_cons.mpr ⟨kChM_55, List.forall_mem_cons.mpr ⟨kChM_56, List.forall_mem_cons.mpr ⟨kChM_57, List.forall_mem_cons.mpr ⟨kChM_58, List.forall_mem_cons.mpr ⟨kChM_59, List.forall_mem_cons.mpr ⟨kChM_60, List.forall_mem_cons.mpr ⟨kChM_61, List.forall_mem_cons.mpr ⟨kChM_62, List.forall_mem_cons.mpr ⟨kChM_63, List.forall_mem_cons.mpr ⟨kChM_64, List.forall_mem_cons.mpr ⟨kChM_65, List.forall_mem_cons.mpr ⟨kChM_66, List.forall_mem_cons.mpr ⟨kChM_67, List.forall_mem_cons.mpr ⟨kChM_68, List.forall_mem_cons.mpr ⟨kChM_69, List.forall_mem_cons.mpr ⟨kChM_70, List.forall_mem_cons.mpr ⟨kChM_71, List.forall_mem_cons.mpr ⟨kChM_72, List.forall_mem_cons.mpr ⟨kChM_73, List.forall_mem_cons.mpr ⟨kChM_74, List.forall_mem_cons.mpr ⟨kChM_75, List.forall_mem_cons.mpr ⟨kChM_76, List.forall_mem_cons.mpr ⟨kChM_77, List.forall_mem_cons.mpr ⟨kChM_78, List.forall_mem_cons.mpr ⟨kChM_79, List.forall_mem_cons.mpr ⟨kChM_80, List.forall_mem_cons.mpr ⟨kChM_81, List.forall_mem_cons.mpr ⟨kChM_82, List.forall_mem_cons.mpr ⟨kChM_83, List.forall_mem_cons.mpr ⟨kChM_84, List.forall_mem_cons.mpr ⟨kChM_85, List.forall_mem_cons.mpr ⟨kChM_86, List.forall_mem_cons.mpr ⟨kChM_87, List.forall_mem_cons.mpr ⟨kChM_88, List.forall_mem_cons.mpr ⟨kChM_89, List.forall_mem_cons.mpr ⟨kChM_90, List.forall_mem_cons.mpr ⟨kChM_91, List.forall_mem_cons.mpr ⟨kChM_92, List.forall_mem_cons.mpr ⟨kChM_93, List.forall_mem_cons.mpr ⟨kChM_94, List.forall_mem_cons.mpr ⟨kChM_95, List.forall_mem_cons.mpr ⟨kChM_96, List.forall_mem_cons.mpr ⟨kChM_97, List.forall_mem_cons.mpr ⟨kChM_98, List.forall_mem_cons.mpr ⟨kChM_99, List.forall_mem_cons.mpr ⟨kChM_100, List.forall_mem_cons.mpr ⟨kChM_101, List.forall_mem_cons.mpr ⟨kChM_102, List.forall_mem_cons.mpr ⟨kChM_103, List.forall_mem_cons.mpr ⟨kChM_104, List.forall_mem_cons.mpr ⟨kChM_105, List.forall_mem_cons.mpr ⟨kChM_106, List.forall_mem_cons.mpr ⟨kChM_107, List.forall_mem_cons.mpr ⟨kChM_108, List.forall_mem_cons.mpr ⟨kChM_109, List.forall_mem_cons.mpr ⟨kChM_110, List.forall_mem_cons.mpr ⟨kChM_111, List.forall_mem_cons.mpr ⟨kChM_112, List.forall_mem_cons.mpr ⟨kChM_113, List.forall_mem_cons.mpr ⟨kChM_114, List.forall_mem_cons.mpr ⟨kChM_115, List.forall_mem_cons.mpr ⟨kChM_116, List.forall_mem_cons.mpr ⟨kChM_117, List.forall_mem_cons.mpr ⟨kChM_118, List.forall_mem_cons.mpr ⟨kChM_119, List.forall_mem_cons.mpr ⟨kChM_120, List.forall_mem_cons.mpr ⟨kChM_121, List.forall_mem_cons.mpr ⟨kChM_122, List.forall_mem_cons.mpr ⟨kChM_123, List.forall_mem_cons.mpr ⟨kChM_124, List.forall_mem_cons.mpr ⟨kChM_125, List.forall_mem_cons.mpr ⟨kChM_126, List.forall_mem_cons.mpr ⟨kChM_127, List.forall_mem_cons.mpr ⟨kChM_128, List.forall_mem_cons.mpr ⟨kChM_129, List.forall_mem_cons.mpr ⟨kChM_130, List.forall_mem_cons.mpr ⟨kChM_131, List.forall_mem_cons.mpr ⟨kChM_132, List.forall_mem_cons.mpr ⟨kChM_133, List.forall_mem_cons.mpr ⟨kChM_134, List.forall_mem_cons.mpr ⟨kChM_135, List.forall_mem_cons.mpr ⟨kChM_136, List.forall_mem_cons.mpr ⟨kChM_137, List.forall_mem_cons.mpr ⟨kChM_138, List.forall_mem_cons.mpr ⟨kChM_139, List.forall_mem_cons.mpr ⟨kChM_140, List.forall_mem_cons.mpr ⟨kChM_141, List.forall_mem_cons.mpr ⟨kChM_142, List.forall_mem_cons.mpr ⟨kChM_143, List.forall_mem_cons.mpr ⟨kChM_144, List.forall_mem_cons.mpr ⟨kChM_145, List.forall_mem_cons.mpr ⟨kChM_146, List.forall_mem_cons.mpr ⟨kChM_147, List.forall_mem_cons.mpr ⟨kChM_148, List.forall_mem_cons.mpr ⟨kChM_149, List.forall_mem_cons.mpr ⟨kChM_150, List.forall_mem_cons.mpr ⟨kChM_151, List.forall_mem_cons.mpr ⟨kChM_152, List.forall_mem_cons.mpr ⟨kChM_153, List.forall_mem_cons.mpr ⟨kChM_154, List.forall_mem_cons.mpr ⟨kChM_155, List.forall_mem_cons.mpr ⟨kChM_157, List.forall_mem_cons.mpr ⟨kChM_158, fun _ h => nomatch h⟩⟩⟩⟩⟩⟩⟩⟩⟩⟩⟩⟩⟩⟩⟩⟩⟩⟩⟩⟩⟩⟩⟩⟩⟩⟩⟩⟩⟩⟩⟩⟩⟩⟩⟩⟩⟩⟩⟩⟩⟩⟩⟩⟩⟩⟩⟩⟩⟩⟩⟩⟩⟩⟩⟩⟩⟩⟩⟩⟩⟩⟩⟩⟩⟩⟩⟩⟩⟩⟩⟩⟩⟩⟩⟩⟩⟩⟩⟩⟩⟩⟩⟩⟩⟩⟩⟩⟩⟩⟩⟩⟩⟩⟩⟩⟩⟩⟩⟩⟩⟩⟩⟩⟩⟩⟩⟩⟩⟩⟩⟩⟩⟩⟩⟩⟩⟩⟩⟩⟩⟩⟩⟩⟩⟩⟩⟩⟩⟩⟩⟩⟩⟩⟩⟩⟩⟩⟩⟩⟩⟩⟩⟩⟩⟩⟩⟩⟩⟩⟩⟩⟩⟩⟩⟩⟩⟩⟩
theorem kT_l0 : Cond.classLink "RelationDesk" (45) "java/lang/IllegalArgumentException" ∈ kTbl := kWat_ok (p := 190) (by decide +kernel)
theorem kT_l1 : Cond.classLink "RelationDesk" (59) "java/lang/IllegalStateException" ∈ kTbl := kWat_ok (p := 257) (by decide +kernel)
theorem kT_i0 : Cond.initialized "java/lang/IllegalArgumentException" ∈ kTbl := kWat_ok (p := 64) (by decide +kernel)
theorem kT_i1 : Cond.initialized "java/lang/IllegalStateException" ∈ kTbl := kWat_ok (p := 65) (by decide +kernel)
theorem kT_w0 : ∀ w ∈ kTw0.filter goodWord, w ∈ lw_tbl := by decide +kernel
theorem kT_w1 : ∀ w ∈ kTw1.filter goodWord, w ∈ lw_tbl := by decide +kernel
theorem kT_g0 : (Cond.classLink "RelationDesk" 45 "java/lang/IllegalArgumentException" :: Cond.initialized "java/lang/IllegalArgumentException" :: kTw0).all vx_ot = true := by decide +kernel
theorem kT_g1 : (Cond.classLink "RelationDesk" 59 "java/lang/IllegalStateException" :: Cond.initialized "java/lang/IllegalStateException" :: kTw1).all vx_ot = true := by decide +kernel
theorem kT_c0 : Cond.classLink "RelationDeskLaw" (13) "java/lang/IllegalArgumentException" ∈ kTbl := kWat_ok (p := 184) (by decide +kernel)
theorem kT_c1 : Cond.classLink "RelationDeskLaw" (15) "java/lang/IllegalStateException" ∈ kTbl := kWat_ok (p := 185) (by decide +kernel)
theorem kT_s0 : Cond.castable "java/lang/IllegalArgumentException" "java/lang/IllegalArgumentException" ∈ kNst := by decide +kernel
theorem kT_s1 : Cond.castable "java/lang/IllegalStateException" "java/lang/IllegalStateException" ∈ kNst := by decide +kernel
def kChH (q : Nat × Nat × Nat × Nat × Nat) : Bool := decide (kCls (kCn q.1) = "RelationDeskLaw") && (match q.2.2.2.2 with
  | 0 => (match kHh q.1 with | e0 :: _ => decide (e0.1 ≤ q.2.1 ∧ q.2.1 < e0.2.1 ∧ e0.2.2.1 = q.2.2.2.1) && decide ((q.2.2.1 = 0 ∧ e0.2.2.2 = 13) ∨ (q.2.2.1 = 1 ∧ e0.2.2.2 = 15)) | [] => false)
  | _ => (match kHh q.1 with | e0 :: e1 :: _ => decide (e0.2.2.2 = 13) && decide (e1.1 ≤ q.2.1 ∧ q.2.1 < e1.2.1 ∧ e1.2.2.1 = q.2.2.2.1) && decide (q.2.2.1 = 1 ∧ e1.2.2.2 = 15) | _ => false))
theorem kChH_ok : kHanL.all kChH = true := by decide +kernel
def kMpL : List (Nat × Nat × Nat × Nat) := [(0, 9, 82, 81), (0, 22, 30, 105), (0, 29, 45, 99999), (0, 64, 84, 273), (0, 68, 83, 313), (0, 72, 71, 317), (0, 93, 85, 339), (0, 98, 86, 344), (0, 102, 75, 348), (0, 106, 76, 362), (0, 112, 78, 376), (0, 116, 157, 387), (0, 121, 158, 390), (0, 124, 79, 393), (0, 130, 87, 405), (0, 135, 88, 422), (0, 139, 89, 433), (0, 142, 72, 448), (0, 147, 73, 450), (0, 153, 31, 459), (0, 156, 32, 470), (0, 160, 46, 628), (0, 178, 47, 654), (0, 182, 17, 791), (1, 31, 24, 778), (1, 35, 21, 779), (1, 39, 26, 780), (1, 43, 28, 726), (2, 34, 38, 474), (2, 38, 34, 478), (2, 42, 33, 490), (2, 46, 35, 486), (2, 50, 90, 499), (2, 51, 91, 600), (2, 54, 36, 482), (2, 58, 37, 494), (2, 62, 40, 604), (2, 69, 39, 609), (2, 80, 41, 612), (2, 87, 44, 624), (2, 94, 83, 608), (2, 117, 18, 99999), (2, 125, 42, 618), (2, 129, 43, 621), (2, 133, 71, 627), (3, 15, 48, 632), (3, 22, 49, 658), (3, 26, 92, 636), (3, 41, 50, 662), (3, 49, 53, 675), (3, 52, 51, 690), (3, 55, 55, 698), (3, 58, 56, 702), (3, 61, 59, 710), (3, 64, 60, 718), (3, 67, 61, 735), (3, 70, 62, 739), (3, 73, 63, 783), (3, 79, 52, 666), (3, 89, 77, 694), (3, 95, 72, 670), (3, 103, 74, 671), (3, 108, 68, 680), (3, 114, 54, 683), (3, 118, 69, 686), (3, 131, 57, 706), (3, 135, 18, 99999), (3, 144, 58, 714), (3, 152, 27, 722), (3, 158, 24, 730), (3, 164, 64, 743), (3, 170, 23, 787), (3, 171, 65, 747), (3, 174, 66, 750), (3, 177, 25, 774), (3, 181, 29, 753), (3, 185, 21, 757), (3, 189, 67, 761), (3, 192, 22, 770), (4, 29, 72, 370), (4, 33, 71, 374), (4, 42, 73, 366), (5, 21, 70, 278), (5, 31, 83, 409), (5, 35, 80, 410), (5, 38, 81, 437), (6, 20, 19, 505), (6, 68, 20, 640), (7, 94, 95, 932), (7, 98, 97, 943), (7, 109, 98, 939), (7, 113, 96, 951), (7, 120, 99, 959), (7, 123, 104, 966), (7, 126, 108, 986), (7, 139, 112, 1007), (7, 145, 113, 1003), (7, 152, 116, 1011), (7, 155, 118, 1021), (7, 159, 119, 1029), (7, 163, 114, 1015), (7, 166, 117, 1025), (7, 175, 115, 999), (7, 184, 122, 1033), (7, 190, 124, 1057), (7, 197, 126, 1053), (7, 200, 125, 1061), (7, 203, 123, 1045), (7, 206, 127, 1065), (7, 208, 133, 1077), (7, 211, 130, 1081), (7, 214, 132, 1085), (7, 217, 137, 1089), (7, 220, 138, 1105), (7, 223, 139, 1109), (7, 226, 135, 1093), (7, 229, 134, 1097), (7, 232, 136, 1101), (7, 236, 128, 1049), (7, 239, 129, 1069), (7, 242, 131, 1073), (8, 7, 1, 186), (8, 17, 2, 309), (8, 21, 3, 326), (8, 24, 4, 334), (8, 27, 5, 358), (8, 31, 6, 383), (8, 35, 7, 400), (8, 38, 8, 417), (8, 42, 9, 429), (8, 45, 10, 444), (8, 48, 11, 454), (8, 51, 12, 466), (8, 54, 14, 648), (8, 57, 0, 73), (8, 60, 93, 798), (8, 61, 143, 181), (8, 66, 100, 928), (8, 67, 94, 924), (8, 70, 144, 306), (8, 73, 101, 935), (8, 74, 145, 323), (8, 76, 102, 947), (8, 77, 146, 331), (8, 79, 103, 955), (8, 80, 147, 355), (8, 83, 105, 962), (8, 84, 148, 380), (8, 87, 106, 970), (8, 88, 149, 397), (8, 91, 107, 974), (8, 92, 150, 414), (8, 95, 108, 978), (8, 96, 151, 426), (8, 98, 109, 982), (8, 99, 152, 441), (8, 101, 110, 987), (8, 102, 153, 451), (8, 104, 111, 991), (8, 105, 154, 463), (8, 107, 120, 995), (8, 108, 13, 169), (8, 111, 121, 1037), (8, 112, 155, 645), (8, 114, 140, 1041), (8, 115, 15, 173), (8, 118, 141, 1113), (8, 119, 16, 177), (8, 122, 142, 1117)]
def kChK (q : Nat × Nat × Nat × Nat) : Bool := (if q.2.2.2 = 99999 then decide (Cond.methodLinkNest (kCls q.1) q.2.1 (kNm q.2.2.1) "RelationDesk" ∈ kNst0) && decide (kHh q.2.2.1 = []) else kWat q.2.2.2 (.methodLink (kCls q.1) q.2.1 (kNm q.2.2.1))) && decide (q.2.2.1 ∈ kYs)
theorem kChK_ok : kMpL.all kChK = true := by decide +kernel
theorem kMpL_eq : kMpL.map (fun q => (q.1, q.2.1, q.2.2.1)) = kMthL := by decide +kernel
def kChT (q : Nat × Nat × Nat × Nat × Nat × Nat × String) : Bool := decide (kI q.1 q.2.1 = some (.new q.2.2.2.1, 3)) && decide (kI q.1 (q.2.1 + 3) = some (.dup, 1)) && decide (kI q.1 (q.2.1 + 4) = some (.ldc q.2.2.2.2.1, 2)) && decide (kI q.1 (q.2.1 + 6) = some (.invokespecial q.2.2.2.2.2.1, 3)) && decide (kI q.1 (q.2.1 + 9) = some (.athrow, 1)) &&
  decide (kHh q.1 = []) && decide (kCls (kCn q.1) = "RelationDesk") && (decide (q.2.2.1 = 0 ∧ q.2.2.2.1 = 45 ∧ q.2.2.2.2.2.1 = 49) || decide (q.2.2.1 = 1 ∧ q.2.2.2.1 = 59 ∧ q.2.2.2.2.2.1 = 63))
theorem kChT_ok : kThrL.all kChT = true := by decide +kernel
