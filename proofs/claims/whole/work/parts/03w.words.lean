def wd_FLp : List Nat := [120, 123, 127, 132, 136, 140, 142, 117, 169, 172, 175, 177, 180, 181, 183, 184, 187, 190, 192, 194, 196, 198, 96, 99, 126, 122, 135, 130, 139, 329, 324, 95, 97, 98, 93, 236, 238, 241, 242, 243, 244, 245, 240, 323, 326, 328, 271, 273, 276, 277, 278, 275, 170, 186, 188, 138, 134, 174, 131, 298, 300, 302, 303, 304, 124, 128, 118, 338, 339, 179, 340, 341, 342, 343, 344, 345, 185, 171, 119, 125, 129, 133, 137, 141, 143, 121, 173, 189, 197, 176, 178, 94, 237, 239, 327, 272, 274, 195, 301, 299, 330, 325, 191, 199, 182, 193, 875, 876, 877, 878, 881, 882, 883, 892, 893, 894, 895, 896, 897, 898, 886, 884, 891, 885, 888, 889, 890, 887, 899, 901, 902, 900, 879, 880, 1297, 1296]
def wd_MTp : List (Nat × Nat × Nat × Nat) := [(572, 64, 570, 571), (558, 64, 556, 557), (562, 64, 560, 561), (576, 64, 574, 575), (566, 64, 564, 565), (582, 65, 581, 0), (579, 65, 578, 0), (587, 65, 586, 0), (388, 62, 387, 0), (115, 56, 114, 0), (381, 56, 379, 380), (688, 56, 686, 687), (385, 56, 383, 384), (422, 56, 420, 421), (519, 56, 517, 518), (514, 56, 512, 513), (405, 56, 403, 404), (409, 56, 408, 1), (82, 54, 81, 0), (841, 54, 839, 840), (396, 54, 394, 395), (401, 54, 399, 400), (413, 54, 411, 412), (418, 54, 417, 2), (433, 54, 431, 432), (459, 54, 457, 458), (463, 54, 461, 462), (467, 54, 465, 466), (864, 54, 862, 863), (699, 54, 697, 698), (506, 54, 504, 505), (510, 54, 508, 509), (527, 54, 525, 526), (749, 54, 747, 748), (91, 55, 90, 0), (164, 55, 162, 163), (168, 55, 166, 167), (666, 55, 664, 665), (426, 55, 424, 425), (429, 55, 428, 0), (233, 57, 232, 0), (540, 57, 538, 539), (545, 57, 544, 3), (657, 57, 656, 0), (549, 57, 548, 4), (653, 57, 652, 9), (640, 57, 639, 6), (554, 57, 553, 5), (644, 57, 643, 7), (648, 57, 647, 8), (321, 60, 320, 0), (807, 60, 805, 806), (816, 60, 814, 815), (824, 60, 822, 823), (267, 58, 266, 0), (684, 58, 682, 683), (707, 58, 705, 706), (712, 58, 710, 711), (721, 58, 719, 720), (724, 58, 723, 0), (728, 58, 727, 10), (741, 58, 739, 740), (757, 58, 755, 756), (745, 58, 744, 11), (770, 58, 768, 769), (296, 59, 295, 0), (784, 59, 782, 783), (787, 59, 786, 0), (795, 59, 794, 12), (74, 53, 73, 0), (366, 53, 364, 365), (392, 53, 390, 391), (448, 53, 446, 447), (455, 53, 453, 454), (472, 53, 470, 471), (476, 53, 474, 475), (485, 53, 483, 484), (489, 53, 487, 488), (493, 53, 491, 492), (497, 53, 495, 496), (502, 53, 500, 501), (523, 53, 521, 522), (532, 53, 530, 531), (536, 53, 534, 535), (674, 53, 672, 673), (680, 53, 678, 679), (695, 53, 693, 694), (703, 53, 701, 702), (717, 53, 715, 716), (734, 53, 732, 733), (753, 53, 751, 752), (762, 53, 760, 761), (766, 53, 764, 765), (776, 53, 774, 775), (780, 53, 778, 779), (799, 53, 797, 798), (803, 53, 801, 802), (812, 53, 810, 811), (820, 53, 818, 819), (829, 53, 827, 828), (833, 53, 831, 832), (837, 53, 835, 836), (848, 53, 846, 847), (852, 53, 850, 851), (856, 53, 854, 855), (860, 53, 858, 859), (868, 53, 866, 867), (376, 53, 375, 0), (372, 53, 371, 0), (451, 53, 450, 0), (737, 53, 736, 0), (369, 53, 368, 0), (479, 53, 478, 0), (437, 53, 436, 0), (873, 61, 872, 0), (966, 61, 965, 0), (971, 61, 970, 13), (1016, 61, 1015, 0), (1157, 61, 1156, 41), (989, 61, 988, 16), (1074, 61, 1073, 0), (997, 61, 996, 18), (977, 61, 976, 14), (963, 61, 961, 962), (981, 61, 980, 15), (1009, 61, 1008, 21), (1001, 61, 1000, 19), (993, 61, 992, 17), (1131, 61, 1130, 39), (1005, 61, 1004, 20), (1067, 61, 1066, 34), (985, 61, 983, 984), (1071, 61, 1069, 1070), (1082, 61, 1081, 35), (1078, 61, 1076, 1077), (1086, 61, 1084, 1085), (1093, 61, 1092, 0), (1090, 61, 1088, 1089), (1098, 61, 1096, 1097), (1102, 61, 1100, 1101), (1106, 61, 1104, 1105), (1110, 61, 1108, 1109), (1127, 61, 1126, 38), (1118, 61, 1117, 36), (1123, 61, 1122, 37), (1114, 61, 1112, 1113), (1139, 61, 1138, 40), (1135, 61, 1133, 1134), (1048, 61, 1047, 30), (1051, 61, 1050, 0), (1063, 61, 1062, 33), (1055, 61, 1054, 31), (1059, 61, 1058, 32), (1044, 61, 1043, 29), (1040, 61, 1039, 28), (1036, 61, 1035, 27), (1032, 61, 1031, 26), (1028, 61, 1027, 25), (1024, 61, 1023, 24), (1020, 61, 1019, 23), (1013, 61, 1012, 22), (1144, 61, 1142, 1143), (1148, 61, 1146, 1147), (1153, 61, 1151, 1152), (1165, 61, 1164, 42), (1161, 61, 1159, 1160), (1174, 61, 1173, 43), (1170, 61, 1168, 1169), (1182, 61, 1181, 44), (1178, 61, 1176, 1177), (1190, 61, 1189, 45), (1186, 61, 1184, 1185), (1197, 61, 1196, 0), (1201, 61, 1200, 46), (1194, 61, 1192, 1193), (1205, 61, 1203, 1204), (1209, 61, 1207, 1208), (1213, 61, 1211, 1212), (1219, 61, 1217, 1218), (1231, 61, 1230, 48), (1227, 61, 1226, 47), (1239, 61, 1238, 50), (1235, 61, 1234, 49), (1243, 61, 1242, 51), (1223, 61, 1221, 1222), (1247, 61, 1245, 1246), (1258, 61, 1257, 0), (1251, 61, 1249, 1250), (1255, 61, 1253, 1254), (1262, 61, 1260, 1261), (1266, 61, 1264, 1265), (1270, 61, 1268, 1269), (1274, 61, 1272, 1273), (1278, 61, 1276, 1277), (1282, 61, 1280, 1281), (1286, 61, 1284, 1285), (1290, 61, 1288, 1289), (1294, 61, 1292, 1293)]
def wd_LKp : List Nat := [116, 382, 689, 386, 515, 516, 406, 83, 89, 113, 161, 165, 842, 843, 844, 397, 402, 414, 415, 419, 423, 434, 435, 468, 511, 92, 667, 668, 427, 234, 541, 542, 546, 655, 551, 641, 645, 637, 555, 650, 322, 808, 268, 270, 685, 690, 691, 708, 709, 722, 725, 730, 742, 758, 746, 297, 785, 788, 792, 75, 80, 231, 265, 294, 319, 367, 370, 373, 378, 393, 398, 410, 430, 444, 449, 456, 460, 464, 477, 498, 503, 507, 524, 537, 663, 675, 676, 681, 696, 704, 713, 718, 735, 738, 754, 767, 781, 804, 813, 821, 825, 438, 441, 838, 861, 874, 964, 968, 974, 978, 994, 998, 990, 1006, 1010, 1002, 986, 1064, 1072, 1079, 1091, 1128, 1124, 1014, 1115, 1120, 1136, 1045, 1049, 1060, 1052, 1056, 1041, 1021, 1037, 1033, 1029, 1025, 1017, 1154, 1162, 1171, 1179, 1187, 1195, 1198, 1228, 1224, 1236, 1232, 1240, 1256, 72, 871, 363, 960, 389, 982, 445, 1068, 452, 1075, 469, 1083, 473, 1087, 482, 1095, 486, 1099, 490, 1103, 494, 1107, 499, 1111, 520, 1132, 529, 1145, 533, 1150, 671, 1141, 677, 1158, 692, 1167, 700, 1175, 714, 1183, 731, 1191, 750, 1202, 759, 1206, 763, 1210, 773, 1216, 777, 1220, 796, 1244, 800, 1248, 809, 1252, 817, 1259, 826, 1263, 830, 1267, 834, 1271, 845, 1275, 849, 1279, 853, 1283, 857, 1287, 865, 1291, 573, 563, 569, 559, 577, 584, 580, 583, 585]
def wd_CLp : List (Nat × Nat × Nat) := [(70, 71, 53), (78, 79, 54), (84, 112, 56), (86, 87, 55), (229, 230, 57), (263, 264, 58), (269, 112, 56), (292, 293, 59), (316, 318, 60), (869, 870, 61)]
def wd_LCp : List Nat := [377, 528, 729, 967, 972, 973, 1094, 1119, 1140, 1166]
def wd_LLp : List Nat := [771, 772, 1149, 1214, 1215, 1295]
def wd_GSp : List Nat := [480, 567, 789, 791]
def wd_LSp : List Nat := [88, 111, 235, 550, 649, 654, 658, 659, 660, 661, 662]
def ab_fd (T : List (Nat × Nat × Nat × Nat)) (o i : Nat) : Option (Nat × Nat) := match T.find? (fun e => e.1 == o && e.2.1 == i) with
  | some e => some e.2.2
  | none => none
def ab_f3 {α : Type} (T : List (Nat × Nat × α)) (o i : Nat) : Option α := match T.find? (fun e => e.1 == o && e.2.1 == i) with
  | some e => some e.2.2
  | none => none
def wd_tbl : List Cond := lw_tbl.filter goodWord
theorem wd_at {w : Cond} (n : Nat) (h : lw_tbl[n]? = some w) (g : goodWord w = true) : w ∈ wd_tbl := List.mem_filter.mpr ⟨List.mem_of_getElem? h, g⟩
theorem wd_an {w : Cond} (n : Nat) (h : lw_tbl[n]? = some w) : w ∈ lw_tbl := List.mem_of_getElem? h
theorem wd_good : ∀ w ∈ wd_tbl, w ∈ lw_tbl ∧ ((w.onTables && w.keeps) = true ∨ ∃ ty, w = .arrayClass ty) := fun w hw => ⟨(List.mem_filter.mp hw).1, good_of_word (List.mem_filter.mp hw).2⟩
theorem wd_zip {α β : Type} {l : List α} {r : List β} {f : α × β → Bool} (h : (l.zip r).all f = true) (hl : l.length ≤ r.length) {a : α} (ha : a ∈ l) : ∃ b, f (a, b) = true := by
  obtain ⟨i, hi⟩ := List.getElem?_of_mem ha
  have h1 := (List.getElem?_eq_some_iff.mp hi).1
  have h2 : i < r.length := by omega
  refine ⟨r[i], List.all_eq_true.mp h _ (List.mem_of_getElem? (i := i) ?_)⟩
  rw [List.getElem?_zip_eq_some]
  exact ⟨hi, List.getElem?_eq_getElem h2⟩
/-- a table's row is found by its class and place -/
theorem ab_fd_mem {T : List (Nat × Nat × Nat × Nat)} {o i : Nat} {r : Nat × Nat} (h : ab_fd T o i = some r) : (o, i, r) ∈ T := by
  unfold ab_fd at h
  split at h
  · rename_i e he
    cases h
    have h1 := List.mem_of_find?_eq_some he
    have h2 := List.find?_some he
    simp only [Bool.and_eq_true, beq_iff_eq] at h2
    obtain ⟨rfl, rfl⟩ := h2
    exact h1
  · cases h
theorem ab_f3_mem {α : Type} {T : List (Nat × Nat × α)} {o i : Nat} {r : α} (h : ab_f3 T o i = some r) : (o, i, r) ∈ T := by
  unfold ab_f3 at h
  split at h
  · rename_i e he
    cases h
    have h1 := List.mem_of_find?_eq_some he
    have h2 := List.find?_some he
    simp only [Bool.and_eq_true, beq_iff_eq] at h2
    obtain ⟨rfl, rfl⟩ := h2
    exact h1
  · cases h
theorem wd_cls : ∀ r ∈ vwCl, ∀ w ∈ u_ws r.1 r.2.1 r.2.2, w ∈ wd_tbl := by decide +kernel
def wd_FLb (q : (Nat × Nat × Nat × Nat) × Nat) : Bool := match ab_cn[q.1.1]? with
  | none => false
  | some own => (match vwCl[q.1.2.2.1]? with
    | some r => decide (q.1.2.2.1 < 9) && (decide (q.1.2.2.2 < r.2.2) && decide (lw_tbl[q.2]? = some (.fieldLink own q.1.2.1 (r.2.1 q.1.2.2.2).1 (r.2.1 q.1.2.2.2).2.1 (r.2.1 q.1.2.2.2).2.2.1)))
    | none => decide (q.1.2.2.1 = 10) && (if q.1.2.2.2 = 0 then decide (lw_tbl[q.2]? = some (.fieldLink own q.1.2.1 RJ0 "value" "[B")) else decide (q.1.2.2.2 = 1 ∧ lw_tbl[q.2]? = some (.fieldLink own q.1.2.1 RJ0 "coder" "B"))))
theorem wd_FLk : (ab_FL.zip wd_FLp).all wd_FLb = true := by decide +kernel
theorem wd_FL {o i c j : Nat} {own : String} (h : ab_fd ab_FL o i = some (c, j)) (ho : ab_cn[o]? = some own) : (∃ r, vwCl[c]? = some r ∧ c < 9 ∧ j < r.2.2 ∧ Cond.fieldLink own i (r.2.1 j).1 (r.2.1 j).2.1 (r.2.1 j).2.2.1 ∈ wd_tbl) ∨ (c = 10 ∧ ((j = 0 ∧ Cond.fieldLink own i RJ0 "value" "[B" ∈ wd_tbl) ∨ (j = 1 ∧ Cond.fieldLink own i RJ0 "coder" "B" ∈ wd_tbl))) := by
  obtain ⟨n, hn⟩ := wd_zip wd_FLk (by decide +kernel) (ab_fd_mem h)
  unfold wd_FLb at hn
  dsimp only at hn
  rw [ho] at hn
  dsimp only at hn
  split at hn
  · rename_i r hr
    simp only [Bool.and_eq_true, decide_eq_true_eq] at hn
    exact Or.inl ⟨r, hr, hn.1, hn.2.1, wd_at n hn.2.2 rfl⟩
  · simp only [Bool.and_eq_true, decide_eq_true_eq] at hn
    obtain ⟨h1, h2⟩ := hn
    refine Or.inr ⟨h1, ?_⟩
    split at h2
    · rename_i h0
      exact Or.inl ⟨h0, wd_at n (of_decide_eq_true h2) rfl⟩
    · have h3 := of_decide_eq_true h2
      exact Or.inr ⟨h3.1, wd_at n h3.2 rfl⟩
def wd_MTb (q : ab_Y × Nat × Nat × Nat × Nat) : Bool := decide (lw_tbl[q.2.1]? = some (.code q.1.1 q.1.2.1 q.1.2.2.1 q.1.2.2.2.1)) && (decide (lw_tbl[q.2.2.1]? = some (.initialized q.1.1.cls)) && ((if q.1.2.2.2.2.2.2 = true then decide (lw_tbl[q.2.2.2.1]? = some (.static q.1.1)) else decide (lw_tbl[q.2.2.2.1]? = some (.instanceMethod q.1.1)) && (decide (q.1.1.name = "<init>") || decide (lw_tbl[q.2.2.2.2]? = some (.selects q.1.1.cls q.1.1 q.1.1)))) && (decide (q.1.1.cls ≠ "java/lang/invoke/MethodHandle") && (decide (q.1.1.cls ≠ "java/lang/invoke/VarHandle") && (decide ((parseMethodDescriptor q.1.1.desc).map (fun d => d.parameters.length) = some q.1.2.2.2.2.2.1) && (plainName q.1.1.cls && (decide (ab_cn[q.1.2.2.2.2.1]? = some q.1.1.cls) && (decide (q.1.2.2.1 ≤ 20) && (decide (q.1.1.name = "<init>" → q.1.2.2.2.1 = none) && decide (q.1.2.2.2.2.1 < 9 ∨ q.1.2.2.2.2.1 = 10 ∨ q.1.2.2.2.2.2.2 = true))))))))))
theorem wd_chunk {α : Type} {l : List α} {f : α → Bool} (k n : Nat) (hk : 0 < k) (h : ∀ i, i < n → ((l.drop (k * i)).take k).all f = true) (hl : l.length ≤ k * n) : l.all f = true := by
  rw [List.all_eq_true]
  intro a ha
  obtain ⟨j, hj⟩ := List.getElem?_of_mem ha
  have h1 := (List.getElem?_eq_some_iff.mp hj).1
  have h2 : j / k < n := Nat.div_lt_of_lt_mul (Nat.lt_of_lt_of_le h1 hl)
  refine List.all_eq_true.mp (h (j / k) h2) a (List.mem_of_getElem? (i := j % k) ?_)
  rw [List.getElem?_take_of_lt (Nat.mod_lt _ hk), List.getElem?_drop, Nat.div_add_mod]
  exact hj
theorem wd_MTk0 : (((ab_MT.zip wd_MTp).drop (12 * 0)).take 12).all wd_MTb = true := by decide +kernel
theorem wd_MTk1 : (((ab_MT.zip wd_MTp).drop (12 * 1)).take 12).all wd_MTb = true := by decide +kernel
theorem wd_MTk2 : (((ab_MT.zip wd_MTp).drop (12 * 2)).take 12).all wd_MTb = true := by decide +kernel
theorem wd_MTk3 : (((ab_MT.zip wd_MTp).drop (12 * 3)).take 12).all wd_MTb = true := by decide +kernel
theorem wd_MTk4 : (((ab_MT.zip wd_MTp).drop (12 * 4)).take 12).all wd_MTb = true := by decide +kernel
theorem wd_MTk5 : (((ab_MT.zip wd_MTp).drop (12 * 5)).take 12).all wd_MTb = true := by decide +kernel
theorem wd_MTk6 : (((ab_MT.zip wd_MTp).drop (12 * 6)).take 12).all wd_MTb = true := by decide +kernel
theorem wd_MTk7 : (((ab_MT.zip wd_MTp).drop (12 * 7)).take 12).all wd_MTb = true := by decide +kernel
theorem wd_MTk8 : (((ab_MT.zip wd_MTp).drop (12 * 8)).take 12).all wd_MTb = true := by decide +kernel
theorem wd_MTk9 : (((ab_MT.zip wd_MTp).drop (12 * 9)).take 12).all wd_MTb = true := by decide +kernel
theorem wd_MTk10 : (((ab_MT.zip wd_MTp).drop (12 * 10)).take 12).all wd_MTb = true := by decide +kernel
theorem wd_MTk11 : (((ab_MT.zip wd_MTp).drop (12 * 11)).take 12).all wd_MTb = true := by decide +kernel
theorem wd_MTk12 : (((ab_MT.zip wd_MTp).drop (12 * 12)).take 12).all wd_MTb = true := by decide +kernel
theorem wd_MTk13 : (((ab_MT.zip wd_MTp).drop (12 * 13)).take 12).all wd_MTb = true := by decide +kernel
theorem wd_MTk14 : (((ab_MT.zip wd_MTp).drop (12 * 14)).take 12).all wd_MTb = true := by decide +kernel
theorem wd_MTk15 : (((ab_MT.zip wd_MTp).drop (12 * 15)).take 12).all wd_MTb = true := by decide +kernel
theorem wd_MTk16 : (((ab_MT.zip wd_MTp).drop (12 * 16)).take 12).all wd_MTb = true := by decide +kernel
theorem wd_MTk : (ab_MT.zip wd_MTp).all wd_MTb = true := wd_chunk 12 17 (by decide) (fun i hi => by
  match i, hi with
  | 0, _ => exact wd_MTk0
  | 1, _ => exact wd_MTk1
  | 2, _ => exact wd_MTk2
  | 3, _ => exact wd_MTk3
  | 4, _ => exact wd_MTk4
  | 5, _ => exact wd_MTk5
  | 6, _ => exact wd_MTk6
  | 7, _ => exact wd_MTk7
  | 8, _ => exact wd_MTk8
  | 9, _ => exact wd_MTk9
  | 10, _ => exact wd_MTk10
  | 11, _ => exact wd_MTk11
  | 12, _ => exact wd_MTk12
  | 13, _ => exact wd_MTk13
  | 14, _ => exact wd_MTk14
  | 15, _ => exact wd_MTk15
  | 16, _ => exact wd_MTk16
  | i + 17, hi => exact absurd hi (by omega)) (by decide +kernel)
theorem wd_MT {e : ab_Y} (h : e ∈ ab_MT) : Cond.code e.1 e.2.1 e.2.2.1 e.2.2.2.1 ∈ wd_tbl ∧ Cond.initialized e.1.cls ∈ wd_tbl ∧ (e.2.2.2.2.2.2 = true → Cond.static e.1 ∈ wd_tbl) ∧ (e.2.2.2.2.2.2 = false → Cond.instanceMethod e.1 ∈ wd_tbl ∧ (e.1.name = "<init>" ∨ Cond.selects e.1.cls e.1 e.1 ∈ wd_tbl)) ∧ (e.1.cls ≠ "java/lang/invoke/MethodHandle" ∧ e.1.cls ≠ "java/lang/invoke/VarHandle") ∧ (parseMethodDescriptor e.1.desc).map (fun d => d.parameters.length) = some e.2.2.2.2.2.1 ∧ plainName e.1.cls = true ∧ ab_cn[e.2.2.2.2.1]? = some e.1.cls ∧ e.2.2.1 ≤ 20 ∧ (e.1.name = "<init>" → e.2.2.2.1 = none) ∧ (e.2.2.2.2.1 < 9 ∨ e.2.2.2.2.1 = 10 ∨ e.2.2.2.2.2.2 = true) := by
  obtain ⟨n, hn⟩ := wd_zip wd_MTk (by decide +kernel) h
  unfold wd_MTb at hn
  simp only [Bool.and_eq_true, decide_eq_true_eq] at hn
  obtain ⟨h1, h2, h3, h4, h5, h6, h7, h8, h9, h10, h11⟩ := hn
  refine ⟨wd_at _ h1 rfl, wd_at _ h2 rfl, fun hs => ?_, fun hs => ?_, ⟨h4, h5⟩, h6, h7, h8, h9, h10, h11⟩
  · rw [if_pos hs] at h3
    exact wd_at _ (of_decide_eq_true h3) rfl
  · rw [if_neg (by rw [hs]; decide)] at h3
    simp only [Bool.and_eq_true, Bool.or_eq_true, decide_eq_true_eq] at h3
    exact ⟨wd_at _ h3.1 rfl, h3.2.elim Or.inl (fun q => Or.inr (wd_at _ q rfl))⟩
def wd_LKb (q : (Nat × Nat × Nat × Nat) × Nat) : Bool := match ab_cn[q.1.1]? with
  | none => false
  | some own => if q.1.2.2.1 = 998 then decide (lw_tbl[q.2]? = some (.methodLink own q.1.2.1 Lib.objectInit)) else if q.1.2.2.1 = 999 then decide (lw_tbl[q.2]? = some (.methodLink own q.1.2.1 arraycopyName)) else if q.1.2.2.1 = 996 then decide (lw_tbl[q.2]? = some (.methodLink own q.1.2.1 Lib.Math.max.name)) else if q.1.2.2.1 = 997 then decide (lw_tbl[q.2]? = some (.methodLink own q.1.2.1 Lib.Math.min.name)) else (match ab_MT[q.1.2.2.1]? with
    | none => false
    | some e => if q.1.2.2.2 = 0 then decide (lw_tbl[q.2]? = some (.methodLink own q.1.2.1 e.1)) else decide (lw_tbl[q.2]? = some (.methodLinkNest own q.1.2.1 e.1 "FieldsTold")))
theorem wd_LKk : (ab_LK.zip wd_LKp).all wd_LKb = true := by decide +kernel
theorem wd_LK {o i k n : Nat} {own : String} (h : ab_fd ab_LK o i = some (k, n)) (ho : ab_cn[o]? = some own) : (k = 998 ∧ Cond.methodLink own i Lib.objectInit ∈ wd_tbl) ∨ (k = 999 ∧ Cond.methodLink own i arraycopyName ∈ wd_tbl) ∨ (k = 996 ∧ Cond.methodLink own i Lib.Math.max.name ∈ wd_tbl) ∨ (k = 997 ∧ Cond.methodLink own i Lib.Math.min.name ∈ wd_tbl) ∨ ((k ≠ 998 ∧ k ≠ 999 ∧ k ≠ 996 ∧ k ≠ 997) ∧ ∃ e, ab_MT[k]? = some e ∧ (Cond.methodLink own i e.1 ∈ wd_tbl ∨ Cond.methodLinkNest own i e.1 "FieldsTold" ∈ lw_tbl)) := by
  obtain ⟨p, hp⟩ := wd_zip wd_LKk (by decide +kernel) (ab_fd_mem h)
  unfold wd_LKb at hp
  dsimp only at hp
  rw [ho] at hp
  dsimp only at hp
  split at hp
  · rename_i h8
    exact Or.inl ⟨h8, wd_at _ (of_decide_eq_true hp) rfl⟩
  · rename_i h8
    split at hp
    · rename_i h9
      exact Or.inr (Or.inl ⟨h9, wd_at _ (of_decide_eq_true hp) rfl⟩)
    · rename_i h9
      split at hp
      · rename_i h6
        exact Or.inr (Or.inr (Or.inl ⟨h6, wd_at _ (of_decide_eq_true hp) rfl⟩))
      · rename_i h6
        split at hp
        · rename_i h7
          exact Or.inr (Or.inr (Or.inr (Or.inl ⟨h7, wd_at _ (of_decide_eq_true hp) rfl⟩)))
        · rename_i h7
          refine Or.inr (Or.inr (Or.inr (Or.inr ⟨⟨h8, h9, h6, h7⟩, ?_⟩)))
          split at hp
          · cases hp
          · rename_i e he
            refine ⟨e, he, ?_⟩
            split at hp
            · exact Or.inl (wd_at _ (of_decide_eq_true hp) rfl)
            · exact Or.inr (wd_an _ (of_decide_eq_true hp))
def wd_CLb (q : (Nat × Nat × Nat) × Nat × Nat × Nat) : Bool := match ab_cn[q.1.1]?, vwCl[q.1.2.2]? with
  | some own, some r => decide (lw_tbl[q.2.1]? = some (.classLink own q.1.2.1 r.1)) && (decide (lw_tbl[q.2.2.1]? = some (.instantiable r.1 r.2.2)) && (decide (lw_tbl[q.2.2.2]? = some (.initialized r.1)) && decide (q.1.2.2 < 9)))
  | _, _ => false
theorem wd_CLk : (ab_CL.zip wd_CLp).all wd_CLb = true := by decide +kernel
theorem wd_CL {o i c : Nat} {own : String} (h : ab_f3 ab_CL o i = some c) (ho : ab_cn[o]? = some own) : ∃ r, vwCl[c]? = some r ∧ c < 9 ∧ Cond.classLink own i r.1 ∈ wd_tbl ∧ Cond.instantiable r.1 r.2.2 ∈ wd_tbl ∧ Cond.initialized r.1 ∈ wd_tbl := by
  obtain ⟨p, hp⟩ := wd_zip wd_CLk (by decide +kernel) (ab_f3_mem h)
  unfold wd_CLb at hp
  dsimp only at hp
  rw [ho] at hp
  split at hp
  · rename_i own' r h1 h2
    cases h1
    simp only [Bool.and_eq_true, decide_eq_true_eq] at hp
    exact ⟨r, h2, hp.2.2.2, wd_at _ hp.1 rfl, wd_at _ hp.2.1 rfl, wd_at _ hp.2.2.1 rfl⟩
  · cases hp
theorem wd_LCk : (ab_LC.zip wd_LCp).all (fun q => match ab_cn[q.1.1]? with | some own => decide (lw_tbl[q.2]? = some (.constant own q.1.2.1 q.1.2.2)) | none => false) = true := by decide +kernel
theorem wd_LC {o i : Nat} {x : Int32} {own : String} (h : ab_f3 ab_LC o i = some x) (ho : ab_cn[o]? = some own) : Cond.constant own i x ∈ wd_tbl := by
  obtain ⟨p, hp⟩ := wd_zip wd_LCk (by decide +kernel) (ab_f3_mem h)
  dsimp only at hp
  rw [ho] at hp
  exact wd_at _ (of_decide_eq_true hp) rfl
theorem wd_LLk : (ab_LL.zip wd_LLp).all (fun q => match ab_cn[q.1.1]? with | some own => decide (lw_tbl[q.2]? = some (.constantLong own q.1.2.1 q.1.2.2)) | none => false) = true := by decide +kernel
theorem wd_LL {o i : Nat} {x : Int64} {own : String} (h : ab_f3 ab_LL o i = some x) (ho : ab_cn[o]? = some own) : Cond.constantLong own i x ∈ wd_tbl := by
  obtain ⟨p, hp⟩ := wd_zip wd_LLk (by decide +kernel) (ab_f3_mem h)
  dsimp only at hp
  rw [ho] at hp
  exact wd_at _ (of_decide_eq_true hp) rfl
def wd_GSb (q : (Nat × Nat × Value × Nat × Nat) × Nat) : Bool := match ab_cn[q.1.1]? with
  | none => false
  | some own => if q.1.2.2.2.1 = 0 then decide (q.1.2.2.1 = .ref 12000) && (if q.1.2.2.2.2 = 0 then decide (lw_tbl[q.2]? = some (.fieldLink own q.1.2.1 RX7 "KIND_ABOVE" "[I")) else decide (lw_tbl[q.2]? = some (.fieldLinkNest own q.1.2.1 RX7 "KIND_ABOVE" "[I" "FieldsTold")))
    else if q.1.2.2.2.1 = 1 then decide (q.1.2.2.1 = .ref 12001) && decide (lw_tbl[q.2]? = some (.fieldLink own q.1.2.1 RX6 "BODIES" "[I")) else decide (q.1.2.2.1 = .int 1) && decide (lw_tbl[q.2]? = some (.fieldLink own q.1.2.1 RJ0 "COMPACT_STRINGS" "Z"))
theorem wd_GSk : (ab_GS.zip wd_GSp).all wd_GSb = true := by decide +kernel
theorem wd_GS {o i : Nat} {x : Value × Nat × Nat} {own : String} (h : ab_f3 ab_GS o i = some x) (ho : ab_cn[o]? = some own) : (x.1 = .ref 12000 ∧ (Cond.fieldLink own i RX7 "KIND_ABOVE" "[I" ∈ wd_tbl ∨ Cond.fieldLinkNest own i RX7 "KIND_ABOVE" "[I" "FieldsTold" ∈ lw_tbl)) ∨ (x.1 = .ref 12001 ∧ Cond.fieldLink own i RX6 "BODIES" "[I" ∈ wd_tbl) ∨ (x.1 = .int 1 ∧ Cond.fieldLink own i RJ0 "COMPACT_STRINGS" "Z" ∈ wd_tbl) := by
  obtain ⟨p, hp⟩ := wd_zip wd_GSk (by decide +kernel) (ab_f3_mem h)
  unfold wd_GSb at hp
  dsimp only at hp
  rw [ho] at hp
  dsimp only at hp
  split at hp
  · simp only [Bool.and_eq_true, decide_eq_true_eq] at hp
    obtain ⟨h1, h2⟩ := hp
    refine Or.inl ⟨h1, ?_⟩
    split at h2
    · exact Or.inl (wd_at _ (of_decide_eq_true h2) rfl)
    · exact Or.inr (wd_an _ (of_decide_eq_true h2))
  · split at hp
    · simp only [Bool.and_eq_true, decide_eq_true_eq] at hp
      exact Or.inr (Or.inl ⟨hp.1, wd_at _ hp.2 rfl⟩)
    · simp only [Bool.and_eq_true, decide_eq_true_eq] at hp
      exact Or.inr (Or.inr ⟨hp.1, wd_at _ hp.2 rfl⟩)

theorem wd_oi_inst : Cond.instanceMethod Lib.objectInit ∈ wd_tbl := wd_at 76 (by decide +kernel) (by decide +kernel)
theorem wd_oi_code : Cond.code Lib.objectInit ⟨#[0xb1]⟩ 1 none ∈ wd_tbl := wd_at 77 (by decide +kernel) (by decide +kernel)
theorem wd_ac_nat : Cond.native arraycopyName ∈ wd_tbl := wd_at 670 (by decide +kernel) (by decide +kernel)
theorem wd_ac_stat : Cond.static arraycopyName ∈ wd_tbl := wd_at 669 (by decide +kernel) (by decide +kernel)
theorem wd_ac_ini : Cond.initialized "java/lang/System" ∈ wd_tbl := wd_at 69 (by decide +kernel) (by decide +kernel)
theorem wd_mm_ini : Cond.initialized "java/lang/Math" ∈ wd_tbl := wd_at 63 (by decide +kernel) (by decide +kernel)
theorem wd_mx_stat : Cond.static Lib.Math.max.name ∈ wd_tbl := wd_at 442 (by decide +kernel) (by decide +kernel)
theorem wd_mi_stat : Cond.static Lib.Math.min.name ∈ wd_tbl := wd_at 439 (by decide +kernel) (by decide +kernel)
theorem wd_mx_code : Cond.code Lib.Math.max.name Lib.Math.max.code 2 (some .int) ∈ wd_tbl := wd_at 443 (by decide +kernel) (by decide +kernel)
theorem wd_mi_code : Cond.code Lib.Math.min.name Lib.Math.min.code 2 (some .int) ∈ wd_tbl := wd_at 440 (by decide +kernel) (by decide +kernel)
theorem wd_arrI : Cond.arrayClass .int ∈ wd_tbl := wd_at 109 (by decide +kernel) (by decide +kernel)
theorem wd_ovF : Cond.arrayOver (.object RX0) ∈ lw_tbl := wd_an 85 (by decide +kernel)
theorem wd_ovS : Cond.arrayOver (.object RX4) ∈ lw_tbl := wd_an 317 (by decide +kernel)
theorem wd_lsK : Cond.laysStatic RX7 "KIND_ABOVE" "[I" ∈ lw_tbl := wd_an 481 (by decide +kernel)
theorem wd_inK : Cond.initialized RX7 ∈ lw_tbl := wd_an 53 (by decide +kernel)
theorem wd_lsB : Cond.laysStatic RX6 "BODIES" "[I" ∈ lw_tbl := wd_an 790 (by decide +kernel)
theorem wd_inB : Cond.initialized RX6 ∈ lw_tbl := wd_an 59 (by decide +kernel)
theorem wd_lsC : Cond.laysStatic RJ0 "COMPACT_STRINGS" "Z" ∈ lw_tbl := wd_an 568 (by decide +kernel)
theorem wd_inC : Cond.initialized RJ0 ∈ lw_tbl := wd_an 64 (by decide +kernel)
theorem wd_LSk : (ab_LS.zip wd_LSp).all (fun q => match ab_cn[q.1.1]?, ab_TX[q.1.2.2]? with | some own, some tx => decide (lw_tbl[q.2]? = some (.stringRef own q.1.2.1 tx)) | _, _ => false) = true := by decide +kernel
