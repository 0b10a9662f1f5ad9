/-! every word that a number of the tables stands for is a word of the claim's: by its place -/
def wsG : List Cond := lw_tbl.filter goodWord
theorem in_G {w : Cond} (k : Nat) (h : (lw_tbl[k]? == some w && goodWord w) = true) : w ∈ wsG := by
  simp only [Bool.and_eq_true, beq_iff_eq] at h
  exact List.mem_filter.mpr ⟨List.mem_of_getElem? h.1, h.2⟩
def pk (l : List Nat) (i : Nat) : Nat := l.getD i 9999
def isW (k : Nat) (w : Cond) : Bool := lw_tbl[k]? == some w && goodWord w
def isT (k : Nat) (w : Cond) : Bool := lw_tbl[k]? == some w
def pcod : List Nat := [153, 831, 843, 835, 847, 210, 816, 361, 598, 350, 401, 405, 353, 365, 614, 369, 374, 390, 634, 622, 618, 712, 602, 178, 429, 518, 585, 590, 378, 382, 386, 627, 122, 661, 684, 704, 692, 697, 681, 666, 657, 677, 701, 724, 741, 729, 745, 753, 761, 757, 296, 808, 871, 879, 102, 417, 425, 433, 506, 510, 514, 501, 437, 449, 523, 94, 343, 357, 397, 409, 413, 421, 594, 606, 639, 643, 648, 653, 708, 716, 720, 733, 737, 749, 766, 770, 774, 780, 789, 793, 797, 801, 812, 823, 827, 851, 855, 863, 867, 875, 883, 887, 346, 804, 610, 858, 784, 893, 1117, 1125, 1113, 1121, 1129, 1133, 1157, 1153, 1165, 1161, 1173, 1169, 1189, 1193, 1197, 1185, 1181, 1177, 1149, 1145, 1141, 1137, 1217, 1221, 1241, 1245, 1229, 1225, 1213, 1209, 1205, 1253, 1261, 1257, 1269, 1237, 1201, 1233, 1265, 1249, 1273, 1277, 1281, 1301, 1293, 1297, 1289, 1285, 1305, 1309, 1317, 1313, 1321, 1325, 1337, 1333, 1329, 1341, 1345, 1349, 1362, 1358, 1353, 1366, 1370, 1374, 1378, 1386, 1390, 1402, 1406, 1398, 1418, 1414, 1410, 1426, 1422, 1394, 1430, 1434, 1438, 1382, 1442, 1450, 1446, 1454, 1458, 453, 463, 527, 531, 457, 467, 473, 470, 538, 535, 545, 478, 393, 542, 630, 669, 441]
def pins : List Nat := [152, 829, 842, 834, 846, 209, 814, 359, 596, 348, 399, 403, 352, 363, 612, 367, 372, 389, 632, 620, 616, 710, 600, 177, 427, 516, 583, 588, 376, 381, 385, 625, 121, 660, 683, 703, 691, 696, 680, 665, 655, 676, 699, 722, 739, 728, 743, 751, 759, 756, 295, 806, 869, 877, 101, 415, 423, 432, 505, 509, 513, 500, 436, 448, 522, 93, 341, 355, 395, 407, 411, 419, 592, 604, 637, 641, 646, 651, 706, 714, 718, 731, 735, 747, 764, 768, 772, 778, 787, 791, 795, 799, 810, 821, 825, 849, 853, 861, 865, 873, 881, 885, 345, 803, 609, 857, 783, 892, 1116, 1124, 1111, 1119, 1127, 1131, 1156, 1152, 1164, 1160, 1172, 1168, 1188, 1192, 1196, 1184, 1180, 1176, 1148, 1144, 1140, 1135, 1216, 1220, 1240, 1244, 1228, 1224, 1212, 1208, 1204, 1252, 1260, 1256, 1268, 1236, 1199, 1231, 1264, 1247, 1271, 1275, 1279, 1300, 1292, 1296, 1288, 1283, 1303, 1307, 1316, 1311, 1319, 1323, 1336, 1332, 1327, 1339, 1343, 1347, 1361, 1357, 1351, 1364, 1368, 1372, 1376, 1384, 1388, 1401, 1405, 1397, 1417, 1413, 1409, 1425, 1421, 1392, 1428, 1432, 1436, 1381, 1440, 1449, 1444, 1452, 1456, 451, 461, 525, 529, 455, 465, 472, 469, 537, 534, 544, 477, 392, 541, 629, 668, 440]
def psel : List Nat := [9999, 830, 20, 19, 21, 9999, 815, 360, 597, 349, 400, 404, 9999, 364, 613, 368, 373, 1, 633, 621, 617, 711, 601, 9999, 428, 517, 584, 589, 377, 0, 9999, 626, 9999, 12, 9999, 9999, 15, 16, 14, 9999, 656, 13, 700, 723, 740, 17, 744, 752, 760, 18, 9999, 807, 870, 878, 9999, 416, 424, 2, 7, 8, 9, 6, 3, 5, 10, 9999, 342, 356, 396, 408, 412, 420, 593, 605, 638, 642, 647, 652, 707, 715, 719, 732, 736, 748, 765, 769, 773, 779, 788, 792, 796, 800, 811, 822, 826, 850, 854, 862, 866, 874, 882, 886, 9999, 9999, 11, 9999, 9999, 9999, 22, 23, 1112, 1120, 1128, 1132, 28, 27, 30, 29, 32, 31, 36, 37, 38, 35, 34, 33, 26, 25, 24, 1136, 42, 43, 47, 48, 45, 44, 41, 40, 39, 49, 51, 50, 53, 46, 1200, 1232, 52, 1248, 1272, 1276, 1280, 57, 55, 56, 54, 1284, 1304, 1308, 58, 1312, 1320, 1324, 60, 59, 1328, 1340, 1344, 1348, 62, 61, 1352, 1365, 1369, 1373, 1377, 1385, 1389, 65, 66, 64, 69, 68, 67, 71, 70, 1393, 1429, 1433, 1437, 63, 1441, 72, 1445, 1453, 1457, 452, 462, 526, 530, 456, 466, 9999, 9999, 9999, 9999, 9999, 9999, 9999, 9999, 9999, 9999, 4]
def pini : List Nat := [77, 77, 77, 77, 77, 79, 79, 79, 79, 79, 79, 79, 79, 79, 79, 79, 79, 79, 79, 79, 79, 79, 79, 78, 78, 78, 78, 78, 78, 78, 78, 78, 76, 76, 76, 76, 76, 76, 76, 76, 76, 76, 76, 76, 76, 76, 76, 76, 76, 76, 80, 80, 80, 80, 75, 75, 75, 75, 75, 75, 75, 75, 75, 75, 75, 74, 74, 74, 74, 74, 74, 74, 74, 74, 74, 74, 74, 74, 74, 74, 74, 74, 74, 74, 74, 74, 74, 74, 74, 74, 74, 74, 74, 74, 74, 74, 74, 74, 74, 74, 74, 74, 74, 74, 74, 74, 74, 81, 81, 81, 81, 81, 81, 81, 81, 81, 81, 81, 81, 81, 81, 81, 81, 81, 81, 81, 81, 81, 81, 81, 81, 81, 81, 81, 81, 81, 81, 81, 81, 81, 81, 81, 81, 81, 81, 81, 81, 81, 81, 81, 81, 81, 81, 81, 81, 81, 81, 81, 81, 81, 81, 81, 81, 81, 81, 81, 81, 81, 81, 81, 81, 81, 81, 81, 81, 81, 81, 81, 81, 81, 81, 81, 81, 81, 81, 81, 81, 81, 81, 81, 81, 81, 81, 81, 81, 83, 83, 83, 83, 83, 83, 83, 84, 84, 84, 84, 85, 82, 82, 82, 88, 75]
def okM (i : Nat) : Bool := isW (pk pini i) (.initialized (mY i).cls) && ((mY i).cls == cN (mO i)) && (if mK i = 1 then isW (pk pins i) (.static (mY i)) else isW (pk pins i) (.instanceMethod (mY i))) && (if mK i = 0 then isW (pk psel i) (.selects (cN (mO i)) (mY i) (mY i)) else true) && (if mK i = 2 then (mY i).name == "<init>" && (mR i).isNone else (mY i).name != "<init>") && decide ((mY i).cls ≠ "java/lang/invoke/MethodHandle" ∧ (mY i).cls ≠ "java/lang/invoke/VarHandle" ∧ (parseMethodDescriptor (mY i).desc).map (fun d => d.parameters.length) = some (mN i)) && plainFor (mY i) && decide (mL i ≤ 30)
theorem okM_0 : (List.range' 0 10).all okM = true := by decide +kernel
theorem okM_1 : (List.range' 10 10).all okM = true := by decide +kernel
theorem okM_2 : (List.range' 20 10).all okM = true := by decide +kernel
theorem okM_3 : (List.range' 30 10).all okM = true := by decide +kernel
theorem okM_4 : (List.range' 40 10).all okM = true := by decide +kernel
theorem okM_5 : (List.range' 50 10).all okM = true := by decide +kernel
theorem okM_6 : (List.range' 60 10).all okM = true := by decide +kernel
theorem okM_7 : (List.range' 70 10).all okM = true := by decide +kernel
theorem okM_8 : (List.range' 80 10).all okM = true := by decide +kernel
theorem okM_9 : (List.range' 90 10).all okM = true := by decide +kernel
theorem okM_10 : (List.range' 100 10).all okM = true := by decide +kernel
theorem okM_11 : (List.range' 110 10).all okM = true := by decide +kernel
theorem okM_12 : (List.range' 120 10).all okM = true := by decide +kernel
theorem okM_13 : (List.range' 130 10).all okM = true := by decide +kernel
theorem okM_14 : (List.range' 140 10).all okM = true := by decide +kernel
theorem okM_15 : (List.range' 150 10).all okM = true := by decide +kernel
theorem okM_16 : (List.range' 160 10).all okM = true := by decide +kernel
theorem okM_17 : (List.range' 170 10).all okM = true := by decide +kernel
theorem okM_18 : (List.range' 180 10).all okM = true := by decide +kernel
theorem okM_19 : (List.range' 190 10).all okM = true := by decide +kernel
theorem okM_20 : (List.range' 200 10).all okM = true := by decide +kernel
theorem okM_21 : (List.range' 210 2).all okM = true := by decide +kernel
theorem okM_all {i : Nat} (h : i < 212) : okM i = true := by
  have key : ∀ a n, (List.range' a n).all okM = true → a ≤ i → i < a + n → okM i = true := fun a n q h1 h2 => List.all_eq_true.mp q i (List.mem_range'_1.mpr ⟨h1, h2⟩)
  by_cases h0 : i < 10
  · exact key 0 10 okM_0 (by omega) (by omega)
  by_cases h1 : i < 20
  · exact key 10 10 okM_1 (by omega) (by omega)
  by_cases h2 : i < 30
  · exact key 20 10 okM_2 (by omega) (by omega)
  by_cases h3 : i < 40
  · exact key 30 10 okM_3 (by omega) (by omega)
  by_cases h4 : i < 50
  · exact key 40 10 okM_4 (by omega) (by omega)
  by_cases h5 : i < 60
  · exact key 50 10 okM_5 (by omega) (by omega)
  by_cases h6 : i < 70
  · exact key 60 10 okM_6 (by omega) (by omega)
  by_cases h7 : i < 80
  · exact key 70 10 okM_7 (by omega) (by omega)
  by_cases h8 : i < 90
  · exact key 80 10 okM_8 (by omega) (by omega)
  by_cases h9 : i < 100
  · exact key 90 10 okM_9 (by omega) (by omega)
  by_cases h10 : i < 110
  · exact key 100 10 okM_10 (by omega) (by omega)
  by_cases h11 : i < 120
  · exact key 110 10 okM_11 (by omega) (by omega)
  by_cases h12 : i < 130
  · exact key 120 10 okM_12 (by omega) (by omega)
  by_cases h13 : i < 140
  · exact key 130 10 okM_13 (by omega) (by omega)
  by_cases h14 : i < 150
  · exact key 140 10 okM_14 (by omega) (by omega)
  by_cases h15 : i < 160
  · exact key 150 10 okM_15 (by omega) (by omega)
  by_cases h16 : i < 170
  · exact key 160 10 okM_16 (by omega) (by omega)
  by_cases h17 : i < 180
  · exact key 170 10 okM_17 (by omega) (by omega)
  by_cases h18 : i < 190
  · exact key 180 10 okM_18 (by omega) (by omega)
  by_cases h19 : i < 200
  · exact key 190 10 okM_19 (by omega) (by omega)
  by_cases h20 : i < 210
  · exact key 200 10 okM_20 (by omega) (by omega)
  by_cases h21 : i < 212
  · exact key 210 2 okM_21 (by omega) (by omega)
  omega
theorem in_C {k : Nat} {y : MethodName} {b : ByteArray} {n : Nat} {r : Option FieldType} (h : lw_tbl[k]? = some (.code y b n r)) : Cond.code y b n r ∈ wsG := List.mem_filter.mpr ⟨List.mem_of_getElem? h, rfl⟩
set_option maxRecDepth 100000 in
theorem cw_0 : Cond.code (mY 0) (mC 0) (mL 0) (mR 0) ∈ wsG := in_C (k := 153) rfl
set_option maxRecDepth 100000 in
theorem cw_1 : Cond.code (mY 1) (mC 1) (mL 1) (mR 1) ∈ wsG := in_C (k := 831) rfl
set_option maxRecDepth 100000 in
theorem cw_2 : Cond.code (mY 2) (mC 2) (mL 2) (mR 2) ∈ wsG := in_C (k := 843) rfl
set_option maxRecDepth 100000 in
theorem cw_3 : Cond.code (mY 3) (mC 3) (mL 3) (mR 3) ∈ wsG := in_C (k := 835) rfl
set_option maxRecDepth 100000 in
theorem cw_4 : Cond.code (mY 4) (mC 4) (mL 4) (mR 4) ∈ wsG := in_C (k := 847) rfl
set_option maxRecDepth 100000 in
theorem cw_5 : Cond.code (mY 5) (mC 5) (mL 5) (mR 5) ∈ wsG := in_C (k := 210) rfl
set_option maxRecDepth 100000 in
theorem cw_6 : Cond.code (mY 6) (mC 6) (mL 6) (mR 6) ∈ wsG := in_C (k := 816) rfl
set_option maxRecDepth 100000 in
theorem cw_7 : Cond.code (mY 7) (mC 7) (mL 7) (mR 7) ∈ wsG := in_C (k := 361) rfl
set_option maxRecDepth 100000 in
theorem cw_8 : Cond.code (mY 8) (mC 8) (mL 8) (mR 8) ∈ wsG := in_C (k := 598) rfl
set_option maxRecDepth 100000 in
theorem cw_9 : Cond.code (mY 9) (mC 9) (mL 9) (mR 9) ∈ wsG := in_C (k := 350) rfl
set_option maxRecDepth 100000 in
theorem cw_10 : Cond.code (mY 10) (mC 10) (mL 10) (mR 10) ∈ wsG := in_C (k := 401) rfl
set_option maxRecDepth 100000 in
theorem cw_11 : Cond.code (mY 11) (mC 11) (mL 11) (mR 11) ∈ wsG := in_C (k := 405) rfl
set_option maxRecDepth 100000 in
theorem cw_12 : Cond.code (mY 12) (mC 12) (mL 12) (mR 12) ∈ wsG := in_C (k := 353) rfl
set_option maxRecDepth 100000 in
theorem cw_13 : Cond.code (mY 13) (mC 13) (mL 13) (mR 13) ∈ wsG := in_C (k := 365) rfl
set_option maxRecDepth 100000 in
theorem cw_14 : Cond.code (mY 14) (mC 14) (mL 14) (mR 14) ∈ wsG := in_C (k := 614) rfl
set_option maxRecDepth 100000 in
theorem cw_15 : Cond.code (mY 15) (mC 15) (mL 15) (mR 15) ∈ wsG := in_C (k := 369) rfl
set_option maxRecDepth 100000 in
theorem cw_16 : Cond.code (mY 16) (mC 16) (mL 16) (mR 16) ∈ wsG := in_C (k := 374) rfl
set_option maxRecDepth 100000 in
theorem cw_17 : Cond.code (mY 17) (mC 17) (mL 17) (mR 17) ∈ wsG := in_C (k := 390) rfl
set_option maxRecDepth 100000 in
theorem cw_18 : Cond.code (mY 18) (mC 18) (mL 18) (mR 18) ∈ wsG := in_C (k := 634) rfl
set_option maxRecDepth 100000 in
theorem cw_19 : Cond.code (mY 19) (mC 19) (mL 19) (mR 19) ∈ wsG := in_C (k := 622) rfl
set_option maxRecDepth 100000 in
theorem cw_20 : Cond.code (mY 20) (mC 20) (mL 20) (mR 20) ∈ wsG := in_C (k := 618) rfl
set_option maxRecDepth 100000 in
theorem cw_21 : Cond.code (mY 21) (mC 21) (mL 21) (mR 21) ∈ wsG := in_C (k := 712) rfl
set_option maxRecDepth 100000 in
theorem cw_22 : Cond.code (mY 22) (mC 22) (mL 22) (mR 22) ∈ wsG := in_C (k := 602) rfl
set_option maxRecDepth 100000 in
theorem cw_23 : Cond.code (mY 23) (mC 23) (mL 23) (mR 23) ∈ wsG := in_C (k := 178) rfl
set_option maxRecDepth 100000 in
theorem cw_24 : Cond.code (mY 24) (mC 24) (mL 24) (mR 24) ∈ wsG := in_C (k := 429) rfl
set_option maxRecDepth 100000 in
theorem cw_25 : Cond.code (mY 25) (mC 25) (mL 25) (mR 25) ∈ wsG := in_C (k := 518) rfl
set_option maxRecDepth 100000 in
theorem cw_26 : Cond.code (mY 26) (mC 26) (mL 26) (mR 26) ∈ wsG := in_C (k := 585) rfl
set_option maxRecDepth 100000 in
theorem cw_27 : Cond.code (mY 27) (mC 27) (mL 27) (mR 27) ∈ wsG := in_C (k := 590) rfl
set_option maxRecDepth 100000 in
theorem cw_28 : Cond.code (mY 28) (mC 28) (mL 28) (mR 28) ∈ wsG := in_C (k := 378) rfl
set_option maxRecDepth 100000 in
theorem cw_29 : Cond.code (mY 29) (mC 29) (mL 29) (mR 29) ∈ wsG := in_C (k := 382) rfl
set_option maxRecDepth 100000 in
theorem cw_30 : Cond.code (mY 30) (mC 30) (mL 30) (mR 30) ∈ wsG := in_C (k := 386) rfl
set_option maxRecDepth 100000 in
theorem cw_31 : Cond.code (mY 31) (mC 31) (mL 31) (mR 31) ∈ wsG := in_C (k := 627) rfl
set_option maxRecDepth 100000 in
theorem cw_32 : Cond.code (mY 32) (mC 32) (mL 32) (mR 32) ∈ wsG := in_C (k := 122) rfl
set_option maxRecDepth 100000 in
theorem cw_33 : Cond.code (mY 33) (mC 33) (mL 33) (mR 33) ∈ wsG := in_C (k := 661) rfl
set_option maxRecDepth 100000 in
theorem cw_34 : Cond.code (mY 34) (mC 34) (mL 34) (mR 34) ∈ wsG := in_C (k := 684) rfl
set_option maxRecDepth 100000 in
theorem cw_35 : Cond.code (mY 35) (mC 35) (mL 35) (mR 35) ∈ wsG := in_C (k := 704) rfl
set_option maxRecDepth 100000 in
theorem cw_36 : Cond.code (mY 36) (mC 36) (mL 36) (mR 36) ∈ wsG := in_C (k := 692) rfl
set_option maxRecDepth 100000 in
theorem cw_37 : Cond.code (mY 37) (mC 37) (mL 37) (mR 37) ∈ wsG := in_C (k := 697) rfl
set_option maxRecDepth 100000 in
theorem cw_38 : Cond.code (mY 38) (mC 38) (mL 38) (mR 38) ∈ wsG := in_C (k := 681) rfl
set_option maxRecDepth 100000 in
theorem cw_39 : Cond.code (mY 39) (mC 39) (mL 39) (mR 39) ∈ wsG := in_C (k := 666) rfl
set_option maxRecDepth 100000 in
theorem cw_40 : Cond.code (mY 40) (mC 40) (mL 40) (mR 40) ∈ wsG := in_C (k := 657) rfl
set_option maxRecDepth 100000 in
theorem cw_41 : Cond.code (mY 41) (mC 41) (mL 41) (mR 41) ∈ wsG := in_C (k := 677) rfl
set_option maxRecDepth 100000 in
theorem cw_42 : Cond.code (mY 42) (mC 42) (mL 42) (mR 42) ∈ wsG := in_C (k := 701) rfl
set_option maxRecDepth 100000 in
theorem cw_43 : Cond.code (mY 43) (mC 43) (mL 43) (mR 43) ∈ wsG := in_C (k := 724) rfl
set_option maxRecDepth 100000 in
theorem cw_44 : Cond.code (mY 44) (mC 44) (mL 44) (mR 44) ∈ wsG := in_C (k := 741) rfl
set_option maxRecDepth 100000 in
theorem cw_45 : Cond.code (mY 45) (mC 45) (mL 45) (mR 45) ∈ wsG := in_C (k := 729) rfl
set_option maxRecDepth 100000 in
theorem cw_46 : Cond.code (mY 46) (mC 46) (mL 46) (mR 46) ∈ wsG := in_C (k := 745) rfl
set_option maxRecDepth 100000 in
theorem cw_47 : Cond.code (mY 47) (mC 47) (mL 47) (mR 47) ∈ wsG := in_C (k := 753) rfl
set_option maxRecDepth 100000 in
theorem cw_48 : Cond.code (mY 48) (mC 48) (mL 48) (mR 48) ∈ wsG := in_C (k := 761) rfl
set_option maxRecDepth 100000 in
theorem cw_49 : Cond.code (mY 49) (mC 49) (mL 49) (mR 49) ∈ wsG := in_C (k := 757) rfl
set_option maxRecDepth 100000 in
theorem cw_50 : Cond.code (mY 50) (mC 50) (mL 50) (mR 50) ∈ wsG := in_C (k := 296) rfl
set_option maxRecDepth 100000 in
theorem cw_51 : Cond.code (mY 51) (mC 51) (mL 51) (mR 51) ∈ wsG := in_C (k := 808) rfl
set_option maxRecDepth 100000 in
theorem cw_52 : Cond.code (mY 52) (mC 52) (mL 52) (mR 52) ∈ wsG := in_C (k := 871) rfl
set_option maxRecDepth 100000 in
theorem cw_53 : Cond.code (mY 53) (mC 53) (mL 53) (mR 53) ∈ wsG := in_C (k := 879) rfl
set_option maxRecDepth 100000 in
theorem cw_54 : Cond.code (mY 54) (mC 54) (mL 54) (mR 54) ∈ wsG := in_C (k := 102) rfl
set_option maxRecDepth 100000 in
theorem cw_55 : Cond.code (mY 55) (mC 55) (mL 55) (mR 55) ∈ wsG := in_C (k := 417) rfl
set_option maxRecDepth 100000 in
theorem cw_56 : Cond.code (mY 56) (mC 56) (mL 56) (mR 56) ∈ wsG := in_C (k := 425) rfl
set_option maxRecDepth 100000 in
theorem cw_57 : Cond.code (mY 57) (mC 57) (mL 57) (mR 57) ∈ wsG := in_C (k := 433) rfl
set_option maxRecDepth 100000 in
theorem cw_58 : Cond.code (mY 58) (mC 58) (mL 58) (mR 58) ∈ wsG := in_C (k := 506) rfl
set_option maxRecDepth 100000 in
theorem cw_59 : Cond.code (mY 59) (mC 59) (mL 59) (mR 59) ∈ wsG := in_C (k := 510) rfl
set_option maxRecDepth 100000 in
theorem cw_60 : Cond.code (mY 60) (mC 60) (mL 60) (mR 60) ∈ wsG := in_C (k := 514) rfl
set_option maxRecDepth 100000 in
theorem cw_61 : Cond.code (mY 61) (mC 61) (mL 61) (mR 61) ∈ wsG := in_C (k := 501) rfl
set_option maxRecDepth 100000 in
theorem cw_62 : Cond.code (mY 62) (mC 62) (mL 62) (mR 62) ∈ wsG := in_C (k := 437) rfl
set_option maxRecDepth 100000 in
theorem cw_63 : Cond.code (mY 63) (mC 63) (mL 63) (mR 63) ∈ wsG := in_C (k := 449) rfl
set_option maxRecDepth 100000 in
theorem cw_64 : Cond.code (mY 64) (mC 64) (mL 64) (mR 64) ∈ wsG := in_C (k := 523) rfl
set_option maxRecDepth 100000 in
theorem cw_65 : Cond.code (mY 65) (mC 65) (mL 65) (mR 65) ∈ wsG := in_C (k := 94) rfl
set_option maxRecDepth 100000 in
theorem cw_66 : Cond.code (mY 66) (mC 66) (mL 66) (mR 66) ∈ wsG := in_C (k := 343) rfl
set_option maxRecDepth 100000 in
theorem cw_67 : Cond.code (mY 67) (mC 67) (mL 67) (mR 67) ∈ wsG := in_C (k := 357) rfl
set_option maxRecDepth 100000 in
theorem cw_68 : Cond.code (mY 68) (mC 68) (mL 68) (mR 68) ∈ wsG := in_C (k := 397) rfl
set_option maxRecDepth 100000 in
theorem cw_69 : Cond.code (mY 69) (mC 69) (mL 69) (mR 69) ∈ wsG := in_C (k := 409) rfl
set_option maxRecDepth 100000 in
theorem cw_70 : Cond.code (mY 70) (mC 70) (mL 70) (mR 70) ∈ wsG := in_C (k := 413) rfl
set_option maxRecDepth 100000 in
theorem cw_71 : Cond.code (mY 71) (mC 71) (mL 71) (mR 71) ∈ wsG := in_C (k := 421) rfl
set_option maxRecDepth 100000 in
theorem cw_72 : Cond.code (mY 72) (mC 72) (mL 72) (mR 72) ∈ wsG := in_C (k := 594) rfl
set_option maxRecDepth 100000 in
theorem cw_73 : Cond.code (mY 73) (mC 73) (mL 73) (mR 73) ∈ wsG := in_C (k := 606) rfl
set_option maxRecDepth 100000 in
theorem cw_74 : Cond.code (mY 74) (mC 74) (mL 74) (mR 74) ∈ wsG := in_C (k := 639) rfl
set_option maxRecDepth 100000 in
theorem cw_75 : Cond.code (mY 75) (mC 75) (mL 75) (mR 75) ∈ wsG := in_C (k := 643) rfl
set_option maxRecDepth 100000 in
theorem cw_76 : Cond.code (mY 76) (mC 76) (mL 76) (mR 76) ∈ wsG := in_C (k := 648) rfl
set_option maxRecDepth 100000 in
theorem cw_77 : Cond.code (mY 77) (mC 77) (mL 77) (mR 77) ∈ wsG := in_C (k := 653) rfl
set_option maxRecDepth 100000 in
theorem cw_78 : Cond.code (mY 78) (mC 78) (mL 78) (mR 78) ∈ wsG := in_C (k := 708) rfl
set_option maxRecDepth 100000 in
theorem cw_79 : Cond.code (mY 79) (mC 79) (mL 79) (mR 79) ∈ wsG := in_C (k := 716) rfl
set_option maxRecDepth 100000 in
theorem cw_80 : Cond.code (mY 80) (mC 80) (mL 80) (mR 80) ∈ wsG := in_C (k := 720) rfl
set_option maxRecDepth 100000 in
theorem cw_81 : Cond.code (mY 81) (mC 81) (mL 81) (mR 81) ∈ wsG := in_C (k := 733) rfl
set_option maxRecDepth 100000 in
theorem cw_82 : Cond.code (mY 82) (mC 82) (mL 82) (mR 82) ∈ wsG := in_C (k := 737) rfl
set_option maxRecDepth 100000 in
theorem cw_83 : Cond.code (mY 83) (mC 83) (mL 83) (mR 83) ∈ wsG := in_C (k := 749) rfl
set_option maxRecDepth 100000 in
theorem cw_84 : Cond.code (mY 84) (mC 84) (mL 84) (mR 84) ∈ wsG := in_C (k := 766) rfl
set_option maxRecDepth 100000 in
theorem cw_85 : Cond.code (mY 85) (mC 85) (mL 85) (mR 85) ∈ wsG := in_C (k := 770) rfl
set_option maxRecDepth 100000 in
theorem cw_86 : Cond.code (mY 86) (mC 86) (mL 86) (mR 86) ∈ wsG := in_C (k := 774) rfl
set_option maxRecDepth 100000 in
theorem cw_87 : Cond.code (mY 87) (mC 87) (mL 87) (mR 87) ∈ wsG := in_C (k := 780) rfl
set_option maxRecDepth 100000 in
theorem cw_88 : Cond.code (mY 88) (mC 88) (mL 88) (mR 88) ∈ wsG := in_C (k := 789) rfl
set_option maxRecDepth 100000 in
theorem cw_89 : Cond.code (mY 89) (mC 89) (mL 89) (mR 89) ∈ wsG := in_C (k := 793) rfl
set_option maxRecDepth 100000 in
theorem cw_90 : Cond.code (mY 90) (mC 90) (mL 90) (mR 90) ∈ wsG := in_C (k := 797) rfl
set_option maxRecDepth 100000 in
theorem cw_91 : Cond.code (mY 91) (mC 91) (mL 91) (mR 91) ∈ wsG := in_C (k := 801) rfl
set_option maxRecDepth 100000 in
theorem cw_92 : Cond.code (mY 92) (mC 92) (mL 92) (mR 92) ∈ wsG := in_C (k := 812) rfl
set_option maxRecDepth 100000 in
theorem cw_93 : Cond.code (mY 93) (mC 93) (mL 93) (mR 93) ∈ wsG := in_C (k := 823) rfl
set_option maxRecDepth 100000 in
theorem cw_94 : Cond.code (mY 94) (mC 94) (mL 94) (mR 94) ∈ wsG := in_C (k := 827) rfl
set_option maxRecDepth 100000 in
theorem cw_95 : Cond.code (mY 95) (mC 95) (mL 95) (mR 95) ∈ wsG := in_C (k := 851) rfl
set_option maxRecDepth 100000 in
theorem cw_96 : Cond.code (mY 96) (mC 96) (mL 96) (mR 96) ∈ wsG := in_C (k := 855) rfl
set_option maxRecDepth 100000 in
theorem cw_97 : Cond.code (mY 97) (mC 97) (mL 97) (mR 97) ∈ wsG := in_C (k := 863) rfl
set_option maxRecDepth 100000 in
theorem cw_98 : Cond.code (mY 98) (mC 98) (mL 98) (mR 98) ∈ wsG := in_C (k := 867) rfl
set_option maxRecDepth 100000 in
theorem cw_99 : Cond.code (mY 99) (mC 99) (mL 99) (mR 99) ∈ wsG := in_C (k := 875) rfl
set_option maxRecDepth 100000 in
theorem cw_100 : Cond.code (mY 100) (mC 100) (mL 100) (mR 100) ∈ wsG := in_C (k := 883) rfl
set_option maxRecDepth 100000 in
theorem cw_101 : Cond.code (mY 101) (mC 101) (mL 101) (mR 101) ∈ wsG := in_C (k := 887) rfl
set_option maxRecDepth 100000 in
theorem cw_102 : Cond.code (mY 102) (mC 102) (mL 102) (mR 102) ∈ wsG := in_C (k := 346) rfl
set_option maxRecDepth 100000 in
theorem cw_103 : Cond.code (mY 103) (mC 103) (mL 103) (mR 103) ∈ wsG := in_C (k := 804) rfl
set_option maxRecDepth 100000 in
theorem cw_104 : Cond.code (mY 104) (mC 104) (mL 104) (mR 104) ∈ wsG := in_C (k := 610) rfl
set_option maxRecDepth 100000 in
theorem cw_105 : Cond.code (mY 105) (mC 105) (mL 105) (mR 105) ∈ wsG := in_C (k := 858) rfl
set_option maxRecDepth 100000 in
theorem cw_106 : Cond.code (mY 106) (mC 106) (mL 106) (mR 106) ∈ wsG := in_C (k := 784) rfl
set_option maxRecDepth 100000 in
theorem cw_107 : Cond.code (mY 107) (mC 107) (mL 107) (mR 107) ∈ wsG := in_C (k := 893) rfl
set_option maxRecDepth 100000 in
theorem cw_108 : Cond.code (mY 108) (mC 108) (mL 108) (mR 108) ∈ wsG := in_C (k := 1117) rfl
set_option maxRecDepth 100000 in
theorem cw_109 : Cond.code (mY 109) (mC 109) (mL 109) (mR 109) ∈ wsG := in_C (k := 1125) rfl
set_option maxRecDepth 100000 in
theorem cw_110 : Cond.code (mY 110) (mC 110) (mL 110) (mR 110) ∈ wsG := in_C (k := 1113) rfl
set_option maxRecDepth 100000 in
theorem cw_111 : Cond.code (mY 111) (mC 111) (mL 111) (mR 111) ∈ wsG := in_C (k := 1121) rfl
set_option maxRecDepth 100000 in
theorem cw_112 : Cond.code (mY 112) (mC 112) (mL 112) (mR 112) ∈ wsG := in_C (k := 1129) rfl
set_option maxRecDepth 100000 in
theorem cw_113 : Cond.code (mY 113) (mC 113) (mL 113) (mR 113) ∈ wsG := in_C (k := 1133) rfl
set_option maxRecDepth 100000 in
theorem cw_114 : Cond.code (mY 114) (mC 114) (mL 114) (mR 114) ∈ wsG := in_C (k := 1157) rfl
set_option maxRecDepth 100000 in
theorem cw_115 : Cond.code (mY 115) (mC 115) (mL 115) (mR 115) ∈ wsG := in_C (k := 1153) rfl
set_option maxRecDepth 100000 in
theorem cw_116 : Cond.code (mY 116) (mC 116) (mL 116) (mR 116) ∈ wsG := in_C (k := 1165) rfl
set_option maxRecDepth 100000 in
theorem cw_117 : Cond.code (mY 117) (mC 117) (mL 117) (mR 117) ∈ wsG := in_C (k := 1161) rfl
set_option maxRecDepth 100000 in
theorem cw_118 : Cond.code (mY 118) (mC 118) (mL 118) (mR 118) ∈ wsG := in_C (k := 1173) rfl
set_option maxRecDepth 100000 in
theorem cw_119 : Cond.code (mY 119) (mC 119) (mL 119) (mR 119) ∈ wsG := in_C (k := 1169) rfl
set_option maxRecDepth 100000 in
theorem cw_120 : Cond.code (mY 120) (mC 120) (mL 120) (mR 120) ∈ wsG := in_C (k := 1189) rfl
set_option maxRecDepth 100000 in
theorem cw_121 : Cond.code (mY 121) (mC 121) (mL 121) (mR 121) ∈ wsG := in_C (k := 1193) rfl
set_option maxRecDepth 100000 in
theorem cw_122 : Cond.code (mY 122) (mC 122) (mL 122) (mR 122) ∈ wsG := in_C (k := 1197) rfl
set_option maxRecDepth 100000 in
theorem cw_123 : Cond.code (mY 123) (mC 123) (mL 123) (mR 123) ∈ wsG := in_C (k := 1185) rfl
set_option maxRecDepth 100000 in
theorem cw_124 : Cond.code (mY 124) (mC 124) (mL 124) (mR 124) ∈ wsG := in_C (k := 1181) rfl
set_option maxRecDepth 100000 in
theorem cw_125 : Cond.code (mY 125) (mC 125) (mL 125) (mR 125) ∈ wsG := in_C (k := 1177) rfl
set_option maxRecDepth 100000 in
theorem cw_126 : Cond.code (mY 126) (mC 126) (mL 126) (mR 126) ∈ wsG := in_C (k := 1149) rfl
set_option maxRecDepth 100000 in
theorem cw_127 : Cond.code (mY 127) (mC 127) (mL 127) (mR 127) ∈ wsG := in_C (k := 1145) rfl
set_option maxRecDepth 100000 in
theorem cw_128 : Cond.code (mY 128) (mC 128) (mL 128) (mR 128) ∈ wsG := in_C (k := 1141) rfl
set_option maxRecDepth 100000 in
theorem cw_129 : Cond.code (mY 129) (mC 129) (mL 129) (mR 129) ∈ wsG := in_C (k := 1137) rfl
set_option maxRecDepth 100000 in
theorem cw_130 : Cond.code (mY 130) (mC 130) (mL 130) (mR 130) ∈ wsG := in_C (k := 1217) rfl
set_option maxRecDepth 100000 in
theorem cw_131 : Cond.code (mY 131) (mC 131) (mL 131) (mR 131) ∈ wsG := in_C (k := 1221) rfl
set_option maxRecDepth 100000 in
theorem cw_132 : Cond.code (mY 132) (mC 132) (mL 132) (mR 132) ∈ wsG := in_C (k := 1241) rfl
set_option maxRecDepth 100000 in
theorem cw_133 : Cond.code (mY 133) (mC 133) (mL 133) (mR 133) ∈ wsG := in_C (k := 1245) rfl
set_option maxRecDepth 100000 in
theorem cw_134 : Cond.code (mY 134) (mC 134) (mL 134) (mR 134) ∈ wsG := in_C (k := 1229) rfl
set_option maxRecDepth 100000 in
theorem cw_135 : Cond.code (mY 135) (mC 135) (mL 135) (mR 135) ∈ wsG := in_C (k := 1225) rfl
set_option maxRecDepth 100000 in
theorem cw_136 : Cond.code (mY 136) (mC 136) (mL 136) (mR 136) ∈ wsG := in_C (k := 1213) rfl
set_option maxRecDepth 100000 in
theorem cw_137 : Cond.code (mY 137) (mC 137) (mL 137) (mR 137) ∈ wsG := in_C (k := 1209) rfl
set_option maxRecDepth 100000 in
theorem cw_138 : Cond.code (mY 138) (mC 138) (mL 138) (mR 138) ∈ wsG := in_C (k := 1205) rfl
set_option maxRecDepth 100000 in
theorem cw_139 : Cond.code (mY 139) (mC 139) (mL 139) (mR 139) ∈ wsG := in_C (k := 1253) rfl
set_option maxRecDepth 100000 in
theorem cw_140 : Cond.code (mY 140) (mC 140) (mL 140) (mR 140) ∈ wsG := in_C (k := 1261) rfl
set_option maxRecDepth 100000 in
theorem cw_141 : Cond.code (mY 141) (mC 141) (mL 141) (mR 141) ∈ wsG := in_C (k := 1257) rfl
set_option maxRecDepth 100000 in
theorem cw_142 : Cond.code (mY 142) (mC 142) (mL 142) (mR 142) ∈ wsG := in_C (k := 1269) rfl
set_option maxRecDepth 100000 in
theorem cw_143 : Cond.code (mY 143) (mC 143) (mL 143) (mR 143) ∈ wsG := in_C (k := 1237) rfl
set_option maxRecDepth 100000 in
theorem cw_144 : Cond.code (mY 144) (mC 144) (mL 144) (mR 144) ∈ wsG := in_C (k := 1201) rfl
set_option maxRecDepth 100000 in
theorem cw_145 : Cond.code (mY 145) (mC 145) (mL 145) (mR 145) ∈ wsG := in_C (k := 1233) rfl
set_option maxRecDepth 100000 in
theorem cw_146 : Cond.code (mY 146) (mC 146) (mL 146) (mR 146) ∈ wsG := in_C (k := 1265) rfl
set_option maxRecDepth 100000 in
theorem cw_147 : Cond.code (mY 147) (mC 147) (mL 147) (mR 147) ∈ wsG := in_C (k := 1249) rfl
set_option maxRecDepth 100000 in
theorem cw_148 : Cond.code (mY 148) (mC 148) (mL 148) (mR 148) ∈ wsG := in_C (k := 1273) rfl
set_option maxRecDepth 100000 in
theorem cw_149 : Cond.code (mY 149) (mC 149) (mL 149) (mR 149) ∈ wsG := in_C (k := 1277) rfl
set_option maxRecDepth 100000 in
theorem cw_150 : Cond.code (mY 150) (mC 150) (mL 150) (mR 150) ∈ wsG := in_C (k := 1281) rfl
set_option maxRecDepth 100000 in
theorem cw_151 : Cond.code (mY 151) (mC 151) (mL 151) (mR 151) ∈ wsG := in_C (k := 1301) rfl
set_option maxRecDepth 100000 in
theorem cw_152 : Cond.code (mY 152) (mC 152) (mL 152) (mR 152) ∈ wsG := in_C (k := 1293) rfl
set_option maxRecDepth 100000 in
theorem cw_153 : Cond.code (mY 153) (mC 153) (mL 153) (mR 153) ∈ wsG := in_C (k := 1297) rfl
set_option maxRecDepth 100000 in
theorem cw_154 : Cond.code (mY 154) (mC 154) (mL 154) (mR 154) ∈ wsG := in_C (k := 1289) rfl
set_option maxRecDepth 100000 in
theorem cw_155 : Cond.code (mY 155) (mC 155) (mL 155) (mR 155) ∈ wsG := in_C (k := 1285) rfl
set_option maxRecDepth 100000 in
theorem cw_156 : Cond.code (mY 156) (mC 156) (mL 156) (mR 156) ∈ wsG := in_C (k := 1305) rfl
set_option maxRecDepth 100000 in
theorem cw_157 : Cond.code (mY 157) (mC 157) (mL 157) (mR 157) ∈ wsG := in_C (k := 1309) rfl
set_option maxRecDepth 100000 in
theorem cw_158 : Cond.code (mY 158) (mC 158) (mL 158) (mR 158) ∈ wsG := in_C (k := 1317) rfl
set_option maxRecDepth 100000 in
theorem cw_159 : Cond.code (mY 159) (mC 159) (mL 159) (mR 159) ∈ wsG := in_C (k := 1313) rfl
set_option maxRecDepth 100000 in
theorem cw_160 : Cond.code (mY 160) (mC 160) (mL 160) (mR 160) ∈ wsG := in_C (k := 1321) rfl
set_option maxRecDepth 100000 in
theorem cw_161 : Cond.code (mY 161) (mC 161) (mL 161) (mR 161) ∈ wsG := in_C (k := 1325) rfl
set_option maxRecDepth 100000 in
theorem cw_162 : Cond.code (mY 162) (mC 162) (mL 162) (mR 162) ∈ wsG := in_C (k := 1337) rfl
set_option maxRecDepth 100000 in
theorem cw_163 : Cond.code (mY 163) (mC 163) (mL 163) (mR 163) ∈ wsG := in_C (k := 1333) rfl
set_option maxRecDepth 100000 in
theorem cw_164 : Cond.code (mY 164) (mC 164) (mL 164) (mR 164) ∈ wsG := in_C (k := 1329) rfl
set_option maxRecDepth 100000 in
theorem cw_165 : Cond.code (mY 165) (mC 165) (mL 165) (mR 165) ∈ wsG := in_C (k := 1341) rfl
set_option maxRecDepth 100000 in
theorem cw_166 : Cond.code (mY 166) (mC 166) (mL 166) (mR 166) ∈ wsG := in_C (k := 1345) rfl
set_option maxRecDepth 100000 in
theorem cw_167 : Cond.code (mY 167) (mC 167) (mL 167) (mR 167) ∈ wsG := in_C (k := 1349) rfl
set_option maxRecDepth 100000 in
theorem cw_168 : Cond.code (mY 168) (mC 168) (mL 168) (mR 168) ∈ wsG := in_C (k := 1362) rfl
set_option maxRecDepth 100000 in
theorem cw_169 : Cond.code (mY 169) (mC 169) (mL 169) (mR 169) ∈ wsG := in_C (k := 1358) rfl
set_option maxRecDepth 100000 in
theorem cw_170 : Cond.code (mY 170) (mC 170) (mL 170) (mR 170) ∈ wsG := in_C (k := 1353) rfl
set_option maxRecDepth 100000 in
theorem cw_171 : Cond.code (mY 171) (mC 171) (mL 171) (mR 171) ∈ wsG := in_C (k := 1366) rfl
set_option maxRecDepth 100000 in
theorem cw_172 : Cond.code (mY 172) (mC 172) (mL 172) (mR 172) ∈ wsG := in_C (k := 1370) rfl
set_option maxRecDepth 100000 in
theorem cw_173 : Cond.code (mY 173) (mC 173) (mL 173) (mR 173) ∈ wsG := in_C (k := 1374) rfl
set_option maxRecDepth 100000 in
theorem cw_174 : Cond.code (mY 174) (mC 174) (mL 174) (mR 174) ∈ wsG := in_C (k := 1378) rfl
set_option maxRecDepth 100000 in
theorem cw_175 : Cond.code (mY 175) (mC 175) (mL 175) (mR 175) ∈ wsG := in_C (k := 1386) rfl
set_option maxRecDepth 100000 in
theorem cw_176 : Cond.code (mY 176) (mC 176) (mL 176) (mR 176) ∈ wsG := in_C (k := 1390) rfl
set_option maxRecDepth 100000 in
theorem cw_177 : Cond.code (mY 177) (mC 177) (mL 177) (mR 177) ∈ wsG := in_C (k := 1402) rfl
set_option maxRecDepth 100000 in
theorem cw_178 : Cond.code (mY 178) (mC 178) (mL 178) (mR 178) ∈ wsG := in_C (k := 1406) rfl
set_option maxRecDepth 100000 in
theorem cw_179 : Cond.code (mY 179) (mC 179) (mL 179) (mR 179) ∈ wsG := in_C (k := 1398) rfl
set_option maxRecDepth 100000 in
theorem cw_180 : Cond.code (mY 180) (mC 180) (mL 180) (mR 180) ∈ wsG := in_C (k := 1418) rfl
set_option maxRecDepth 100000 in
theorem cw_181 : Cond.code (mY 181) (mC 181) (mL 181) (mR 181) ∈ wsG := in_C (k := 1414) rfl
set_option maxRecDepth 100000 in
theorem cw_182 : Cond.code (mY 182) (mC 182) (mL 182) (mR 182) ∈ wsG := in_C (k := 1410) rfl
set_option maxRecDepth 100000 in
theorem cw_183 : Cond.code (mY 183) (mC 183) (mL 183) (mR 183) ∈ wsG := in_C (k := 1426) rfl
set_option maxRecDepth 100000 in
theorem cw_184 : Cond.code (mY 184) (mC 184) (mL 184) (mR 184) ∈ wsG := in_C (k := 1422) rfl
set_option maxRecDepth 100000 in
theorem cw_185 : Cond.code (mY 185) (mC 185) (mL 185) (mR 185) ∈ wsG := in_C (k := 1394) rfl
set_option maxRecDepth 100000 in
theorem cw_186 : Cond.code (mY 186) (mC 186) (mL 186) (mR 186) ∈ wsG := in_C (k := 1430) rfl
set_option maxRecDepth 100000 in
theorem cw_187 : Cond.code (mY 187) (mC 187) (mL 187) (mR 187) ∈ wsG := in_C (k := 1434) rfl
set_option maxRecDepth 100000 in
theorem cw_188 : Cond.code (mY 188) (mC 188) (mL 188) (mR 188) ∈ wsG := in_C (k := 1438) rfl
set_option maxRecDepth 100000 in
theorem cw_189 : Cond.code (mY 189) (mC 189) (mL 189) (mR 189) ∈ wsG := in_C (k := 1382) rfl
set_option maxRecDepth 100000 in
theorem cw_190 : Cond.code (mY 190) (mC 190) (mL 190) (mR 190) ∈ wsG := in_C (k := 1442) rfl
set_option maxRecDepth 100000 in
theorem cw_191 : Cond.code (mY 191) (mC 191) (mL 191) (mR 191) ∈ wsG := in_C (k := 1450) rfl
set_option maxRecDepth 100000 in
theorem cw_192 : Cond.code (mY 192) (mC 192) (mL 192) (mR 192) ∈ wsG := in_C (k := 1446) rfl
set_option maxRecDepth 100000 in
theorem cw_193 : Cond.code (mY 193) (mC 193) (mL 193) (mR 193) ∈ wsG := in_C (k := 1454) rfl
set_option maxRecDepth 100000 in
theorem cw_194 : Cond.code (mY 194) (mC 194) (mL 194) (mR 194) ∈ wsG := in_C (k := 1458) rfl
set_option maxRecDepth 100000 in
theorem cw_195 : Cond.code (mY 195) (mC 195) (mL 195) (mR 195) ∈ wsG := in_C (k := 453) rfl
set_option maxRecDepth 100000 in
theorem cw_196 : Cond.code (mY 196) (mC 196) (mL 196) (mR 196) ∈ wsG := in_C (k := 463) rfl
set_option maxRecDepth 100000 in
theorem cw_197 : Cond.code (mY 197) (mC 197) (mL 197) (mR 197) ∈ wsG := in_C (k := 527) rfl
set_option maxRecDepth 100000 in
theorem cw_198 : Cond.code (mY 198) (mC 198) (mL 198) (mR 198) ∈ wsG := in_C (k := 531) rfl
set_option maxRecDepth 100000 in
theorem cw_199 : Cond.code (mY 199) (mC 199) (mL 199) (mR 199) ∈ wsG := in_C (k := 457) rfl
set_option maxRecDepth 100000 in
theorem cw_200 : Cond.code (mY 200) (mC 200) (mL 200) (mR 200) ∈ wsG := in_C (k := 467) rfl
set_option maxRecDepth 100000 in
theorem cw_201 : Cond.code (mY 201) (mC 201) (mL 201) (mR 201) ∈ wsG := in_C (k := 473) rfl
set_option maxRecDepth 100000 in
theorem cw_202 : Cond.code (mY 202) (mC 202) (mL 202) (mR 202) ∈ wsG := in_C (k := 470) rfl
set_option maxRecDepth 100000 in
theorem cw_203 : Cond.code (mY 203) (mC 203) (mL 203) (mR 203) ∈ wsG := in_C (k := 538) rfl
set_option maxRecDepth 100000 in
theorem cw_204 : Cond.code (mY 204) (mC 204) (mL 204) (mR 204) ∈ wsG := in_C (k := 535) rfl
set_option maxRecDepth 100000 in
theorem cw_205 : Cond.code (mY 205) (mC 205) (mL 205) (mR 205) ∈ wsG := in_C (k := 545) rfl
set_option maxRecDepth 100000 in
theorem cw_206 : Cond.code (mY 206) (mC 206) (mL 206) (mR 206) ∈ wsG := in_C (k := 478) rfl
set_option maxRecDepth 100000 in
theorem cw_207 : Cond.code (mY 207) (mC 207) (mL 207) (mR 207) ∈ wsG := in_C (k := 393) rfl
set_option maxRecDepth 100000 in
theorem cw_208 : Cond.code (mY 208) (mC 208) (mL 208) (mR 208) ∈ wsG := in_C (k := 542) rfl
set_option maxRecDepth 100000 in
theorem cw_209 : Cond.code (mY 209) (mC 209) (mL 209) (mR 209) ∈ wsG := in_C (k := 630) rfl
set_option maxRecDepth 100000 in
theorem cw_210 : Cond.code (mY 210) (mC 210) (mL 210) (mR 210) ∈ wsG := in_C (k := 669) rfl
set_option maxRecDepth 100000 in
theorem cw_211 : Cond.code (mY 211) (mC 211) (mL 211) (mR 211) ∈ wsG := in_C (k := 441) rfl
theorem okC_all : ∀ i, i < 212 → Cond.code (mY i) (mC i) (mL i) (mR i) ∈ wsG := by
  intro i h
  by_cases h0_212 : i < 106
  ·
    by_cases h0_106 : i < 53
    ·
      by_cases h0_53 : i < 26
      ·
        by_cases h0_26 : i < 13
        ·
          by_cases h0_13 : i < 6
          ·
            by_cases h0_6 : i < 3
            ·
              by_cases h0_3 : i < 1
              ·
                exact (show i = 0 by omega) ▸ cw_0
              ·
                by_cases h1_3 : i < 2
                ·
                  exact (show i = 1 by omega) ▸ cw_1
                ·
                  exact (show i = 2 by omega) ▸ cw_2
            ·
              by_cases h3_6 : i < 4
              ·
                exact (show i = 3 by omega) ▸ cw_3
              ·
                by_cases h4_6 : i < 5
                ·
                  exact (show i = 4 by omega) ▸ cw_4
                ·
                  exact (show i = 5 by omega) ▸ cw_5
          ·
            by_cases h6_13 : i < 9
            ·
              by_cases h6_9 : i < 7
              ·
                exact (show i = 6 by omega) ▸ cw_6
              ·
                by_cases h7_9 : i < 8
                ·
                  exact (show i = 7 by omega) ▸ cw_7
                ·
                  exact (show i = 8 by omega) ▸ cw_8
            ·
              by_cases h9_13 : i < 11
              ·
                by_cases h9_11 : i < 10
                ·
                  exact (show i = 9 by omega) ▸ cw_9
                ·
                  exact (show i = 10 by omega) ▸ cw_10
              ·
                by_cases h11_13 : i < 12
                ·
                  exact (show i = 11 by omega) ▸ cw_11
                ·
                  exact (show i = 12 by omega) ▸ cw_12
        ·
          by_cases h13_26 : i < 19
          ·
            by_cases h13_19 : i < 16
            ·
              by_cases h13_16 : i < 14
              ·
                exact (show i = 13 by omega) ▸ cw_13
              ·
                by_cases h14_16 : i < 15
                ·
                  exact (show i = 14 by omega) ▸ cw_14
                ·
                  exact (show i = 15 by omega) ▸ cw_15
            ·
              by_cases h16_19 : i < 17
              ·
                exact (show i = 16 by omega) ▸ cw_16
              ·
                by_cases h17_19 : i < 18
                ·
                  exact (show i = 17 by omega) ▸ cw_17
                ·
                  exact (show i = 18 by omega) ▸ cw_18
          ·
            by_cases h19_26 : i < 22
            ·
              by_cases h19_22 : i < 20
              ·
                exact (show i = 19 by omega) ▸ cw_19
              ·
                by_cases h20_22 : i < 21
                ·
                  exact (show i = 20 by omega) ▸ cw_20
                ·
                  exact (show i = 21 by omega) ▸ cw_21
            ·
              by_cases h22_26 : i < 24
              ·
                by_cases h22_24 : i < 23
                ·
                  exact (show i = 22 by omega) ▸ cw_22
                ·
                  exact (show i = 23 by omega) ▸ cw_23
              ·
                by_cases h24_26 : i < 25
                ·
                  exact (show i = 24 by omega) ▸ cw_24
                ·
                  exact (show i = 25 by omega) ▸ cw_25
      ·
        by_cases h26_53 : i < 39
        ·
          by_cases h26_39 : i < 32
          ·
            by_cases h26_32 : i < 29
            ·
              by_cases h26_29 : i < 27
              ·
                exact (show i = 26 by omega) ▸ cw_26
              ·
                by_cases h27_29 : i < 28
                ·
                  exact (show i = 27 by omega) ▸ cw_27
                ·
                  exact (show i = 28 by omega) ▸ cw_28
            ·
              by_cases h29_32 : i < 30
              ·
                exact (show i = 29 by omega) ▸ cw_29
              ·
                by_cases h30_32 : i < 31
                ·
                  exact (show i = 30 by omega) ▸ cw_30
                ·
                  exact (show i = 31 by omega) ▸ cw_31
          ·
            by_cases h32_39 : i < 35
            ·
              by_cases h32_35 : i < 33
              ·
                exact (show i = 32 by omega) ▸ cw_32
              ·
                by_cases h33_35 : i < 34
                ·
                  exact (show i = 33 by omega) ▸ cw_33
                ·
                  exact (show i = 34 by omega) ▸ cw_34
            ·
              by_cases h35_39 : i < 37
              ·
                by_cases h35_37 : i < 36
                ·
                  exact (show i = 35 by omega) ▸ cw_35
                ·
                  exact (show i = 36 by omega) ▸ cw_36
              ·
                by_cases h37_39 : i < 38
                ·
                  exact (show i = 37 by omega) ▸ cw_37
                ·
                  exact (show i = 38 by omega) ▸ cw_38
        ·
          by_cases h39_53 : i < 46
          ·
            by_cases h39_46 : i < 42
            ·
              by_cases h39_42 : i < 40
              ·
                exact (show i = 39 by omega) ▸ cw_39
              ·
                by_cases h40_42 : i < 41
                ·
                  exact (show i = 40 by omega) ▸ cw_40
                ·
                  exact (show i = 41 by omega) ▸ cw_41
            ·
              by_cases h42_46 : i < 44
              ·
                by_cases h42_44 : i < 43
                ·
                  exact (show i = 42 by omega) ▸ cw_42
                ·
                  exact (show i = 43 by omega) ▸ cw_43
              ·
                by_cases h44_46 : i < 45
                ·
                  exact (show i = 44 by omega) ▸ cw_44
                ·
                  exact (show i = 45 by omega) ▸ cw_45
          ·
            by_cases h46_53 : i < 49
            ·
              by_cases h46_49 : i < 47
              ·
                exact (show i = 46 by omega) ▸ cw_46
              ·
                by_cases h47_49 : i < 48
                ·
                  exact (show i = 47 by omega) ▸ cw_47
                ·
                  exact (show i = 48 by omega) ▸ cw_48
            ·
              by_cases h49_53 : i < 51
              ·
                by_cases h49_51 : i < 50
                ·
                  exact (show i = 49 by omega) ▸ cw_49
                ·
                  exact (show i = 50 by omega) ▸ cw_50
              ·
                by_cases h51_53 : i < 52
                ·
                  exact (show i = 51 by omega) ▸ cw_51
                ·
                  exact (show i = 52 by omega) ▸ cw_52
    ·
      by_cases h53_106 : i < 79
      ·
        by_cases h53_79 : i < 66
        ·
          by_cases h53_66 : i < 59
          ·
            by_cases h53_59 : i < 56
            ·
              by_cases h53_56 : i < 54
              ·
                exact (show i = 53 by omega) ▸ cw_53
              ·
                by_cases h54_56 : i < 55
                ·
                  exact (show i = 54 by omega) ▸ cw_54
                ·
                  exact (show i = 55 by omega) ▸ cw_55
            ·
              by_cases h56_59 : i < 57
              ·
                exact (show i = 56 by omega) ▸ cw_56
              ·
                by_cases h57_59 : i < 58
                ·
                  exact (show i = 57 by omega) ▸ cw_57
                ·
                  exact (show i = 58 by omega) ▸ cw_58
          ·
            by_cases h59_66 : i < 62
            ·
              by_cases h59_62 : i < 60
              ·
                exact (show i = 59 by omega) ▸ cw_59
              ·
                by_cases h60_62 : i < 61
                ·
                  exact (show i = 60 by omega) ▸ cw_60
                ·
                  exact (show i = 61 by omega) ▸ cw_61
            ·
              by_cases h62_66 : i < 64
              ·
                by_cases h62_64 : i < 63
                ·
                  exact (show i = 62 by omega) ▸ cw_62
                ·
                  exact (show i = 63 by omega) ▸ cw_63
              ·
                by_cases h64_66 : i < 65
                ·
                  exact (show i = 64 by omega) ▸ cw_64
                ·
                  exact (show i = 65 by omega) ▸ cw_65
        ·
          by_cases h66_79 : i < 72
          ·
            by_cases h66_72 : i < 69
            ·
              by_cases h66_69 : i < 67
              ·
                exact (show i = 66 by omega) ▸ cw_66
              ·
                by_cases h67_69 : i < 68
                ·
                  exact (show i = 67 by omega) ▸ cw_67
                ·
                  exact (show i = 68 by omega) ▸ cw_68
            ·
              by_cases h69_72 : i < 70
              ·
                exact (show i = 69 by omega) ▸ cw_69
              ·
                by_cases h70_72 : i < 71
                ·
                  exact (show i = 70 by omega) ▸ cw_70
                ·
                  exact (show i = 71 by omega) ▸ cw_71
          ·
            by_cases h72_79 : i < 75
            ·
              by_cases h72_75 : i < 73
              ·
                exact (show i = 72 by omega) ▸ cw_72
              ·
                by_cases h73_75 : i < 74
                ·
                  exact (show i = 73 by omega) ▸ cw_73
                ·
                  exact (show i = 74 by omega) ▸ cw_74
            ·
              by_cases h75_79 : i < 77
              ·
                by_cases h75_77 : i < 76
                ·
                  exact (show i = 75 by omega) ▸ cw_75
                ·
                  exact (show i = 76 by omega) ▸ cw_76
              ·
                by_cases h77_79 : i < 78
                ·
                  exact (show i = 77 by omega) ▸ cw_77
                ·
                  exact (show i = 78 by omega) ▸ cw_78
      ·
        by_cases h79_106 : i < 92
        ·
          by_cases h79_92 : i < 85
          ·
            by_cases h79_85 : i < 82
            ·
              by_cases h79_82 : i < 80
              ·
                exact (show i = 79 by omega) ▸ cw_79
              ·
                by_cases h80_82 : i < 81
                ·
                  exact (show i = 80 by omega) ▸ cw_80
                ·
                  exact (show i = 81 by omega) ▸ cw_81
            ·
              by_cases h82_85 : i < 83
              ·
                exact (show i = 82 by omega) ▸ cw_82
              ·
                by_cases h83_85 : i < 84
                ·
                  exact (show i = 83 by omega) ▸ cw_83
                ·
                  exact (show i = 84 by omega) ▸ cw_84
          ·
            by_cases h85_92 : i < 88
            ·
              by_cases h85_88 : i < 86
              ·
                exact (show i = 85 by omega) ▸ cw_85
              ·
                by_cases h86_88 : i < 87
                ·
                  exact (show i = 86 by omega) ▸ cw_86
                ·
                  exact (show i = 87 by omega) ▸ cw_87
            ·
              by_cases h88_92 : i < 90
              ·
                by_cases h88_90 : i < 89
                ·
                  exact (show i = 88 by omega) ▸ cw_88
                ·
                  exact (show i = 89 by omega) ▸ cw_89
              ·
                by_cases h90_92 : i < 91
                ·
                  exact (show i = 90 by omega) ▸ cw_90
                ·
                  exact (show i = 91 by omega) ▸ cw_91
        ·
          by_cases h92_106 : i < 99
          ·
            by_cases h92_99 : i < 95
            ·
              by_cases h92_95 : i < 93
              ·
                exact (show i = 92 by omega) ▸ cw_92
              ·
                by_cases h93_95 : i < 94
                ·
                  exact (show i = 93 by omega) ▸ cw_93
                ·
                  exact (show i = 94 by omega) ▸ cw_94
            ·
              by_cases h95_99 : i < 97
              ·
                by_cases h95_97 : i < 96
                ·
                  exact (show i = 95 by omega) ▸ cw_95
                ·
                  exact (show i = 96 by omega) ▸ cw_96
              ·
                by_cases h97_99 : i < 98
                ·
                  exact (show i = 97 by omega) ▸ cw_97
                ·
                  exact (show i = 98 by omega) ▸ cw_98
          ·
            by_cases h99_106 : i < 102
            ·
              by_cases h99_102 : i < 100
              ·
                exact (show i = 99 by omega) ▸ cw_99
              ·
                by_cases h100_102 : i < 101
                ·
                  exact (show i = 100 by omega) ▸ cw_100
                ·
                  exact (show i = 101 by omega) ▸ cw_101
            ·
              by_cases h102_106 : i < 104
              ·
                by_cases h102_104 : i < 103
                ·
                  exact (show i = 102 by omega) ▸ cw_102
                ·
                  exact (show i = 103 by omega) ▸ cw_103
              ·
                by_cases h104_106 : i < 105
                ·
                  exact (show i = 104 by omega) ▸ cw_104
                ·
                  exact (show i = 105 by omega) ▸ cw_105
  ·
    by_cases h106_212 : i < 159
    ·
      by_cases h106_159 : i < 132
      ·
        by_cases h106_132 : i < 119
        ·
          by_cases h106_119 : i < 112
          ·
            by_cases h106_112 : i < 109
            ·
              by_cases h106_109 : i < 107
              ·
                exact (show i = 106 by omega) ▸ cw_106
              ·
                by_cases h107_109 : i < 108
                ·
                  exact (show i = 107 by omega) ▸ cw_107
                ·
                  exact (show i = 108 by omega) ▸ cw_108
            ·
              by_cases h109_112 : i < 110
              ·
                exact (show i = 109 by omega) ▸ cw_109
              ·
                by_cases h110_112 : i < 111
                ·
                  exact (show i = 110 by omega) ▸ cw_110
                ·
                  exact (show i = 111 by omega) ▸ cw_111
          ·
            by_cases h112_119 : i < 115
            ·
              by_cases h112_115 : i < 113
              ·
                exact (show i = 112 by omega) ▸ cw_112
              ·
                by_cases h113_115 : i < 114
                ·
                  exact (show i = 113 by omega) ▸ cw_113
                ·
                  exact (show i = 114 by omega) ▸ cw_114
            ·
              by_cases h115_119 : i < 117
              ·
                by_cases h115_117 : i < 116
                ·
                  exact (show i = 115 by omega) ▸ cw_115
                ·
                  exact (show i = 116 by omega) ▸ cw_116
              ·
                by_cases h117_119 : i < 118
                ·
                  exact (show i = 117 by omega) ▸ cw_117
                ·
                  exact (show i = 118 by omega) ▸ cw_118
        ·
          by_cases h119_132 : i < 125
          ·
            by_cases h119_125 : i < 122
            ·
              by_cases h119_122 : i < 120
              ·
                exact (show i = 119 by omega) ▸ cw_119
              ·
                by_cases h120_122 : i < 121
                ·
                  exact (show i = 120 by omega) ▸ cw_120
                ·
                  exact (show i = 121 by omega) ▸ cw_121
            ·
              by_cases h122_125 : i < 123
              ·
                exact (show i = 122 by omega) ▸ cw_122
              ·
                by_cases h123_125 : i < 124
                ·
                  exact (show i = 123 by omega) ▸ cw_123
                ·
                  exact (show i = 124 by omega) ▸ cw_124
          ·
            by_cases h125_132 : i < 128
            ·
              by_cases h125_128 : i < 126
              ·
                exact (show i = 125 by omega) ▸ cw_125
              ·
                by_cases h126_128 : i < 127
                ·
                  exact (show i = 126 by omega) ▸ cw_126
                ·
                  exact (show i = 127 by omega) ▸ cw_127
            ·
              by_cases h128_132 : i < 130
              ·
                by_cases h128_130 : i < 129
                ·
                  exact (show i = 128 by omega) ▸ cw_128
                ·
                  exact (show i = 129 by omega) ▸ cw_129
              ·
                by_cases h130_132 : i < 131
                ·
                  exact (show i = 130 by omega) ▸ cw_130
                ·
                  exact (show i = 131 by omega) ▸ cw_131
      ·
        by_cases h132_159 : i < 145
        ·
          by_cases h132_145 : i < 138
          ·
            by_cases h132_138 : i < 135
            ·
              by_cases h132_135 : i < 133
              ·
                exact (show i = 132 by omega) ▸ cw_132
              ·
                by_cases h133_135 : i < 134
                ·
                  exact (show i = 133 by omega) ▸ cw_133
                ·
                  exact (show i = 134 by omega) ▸ cw_134
            ·
              by_cases h135_138 : i < 136
              ·
                exact (show i = 135 by omega) ▸ cw_135
              ·
                by_cases h136_138 : i < 137
                ·
                  exact (show i = 136 by omega) ▸ cw_136
                ·
                  exact (show i = 137 by omega) ▸ cw_137
          ·
            by_cases h138_145 : i < 141
            ·
              by_cases h138_141 : i < 139
              ·
                exact (show i = 138 by omega) ▸ cw_138
              ·
                by_cases h139_141 : i < 140
                ·
                  exact (show i = 139 by omega) ▸ cw_139
                ·
                  exact (show i = 140 by omega) ▸ cw_140
            ·
              by_cases h141_145 : i < 143
              ·
                by_cases h141_143 : i < 142
                ·
                  exact (show i = 141 by omega) ▸ cw_141
                ·
                  exact (show i = 142 by omega) ▸ cw_142
              ·
                by_cases h143_145 : i < 144
                ·
                  exact (show i = 143 by omega) ▸ cw_143
                ·
                  exact (show i = 144 by omega) ▸ cw_144
        ·
          by_cases h145_159 : i < 152
          ·
            by_cases h145_152 : i < 148
            ·
              by_cases h145_148 : i < 146
              ·
                exact (show i = 145 by omega) ▸ cw_145
              ·
                by_cases h146_148 : i < 147
                ·
                  exact (show i = 146 by omega) ▸ cw_146
                ·
                  exact (show i = 147 by omega) ▸ cw_147
            ·
              by_cases h148_152 : i < 150
              ·
                by_cases h148_150 : i < 149
                ·
                  exact (show i = 148 by omega) ▸ cw_148
                ·
                  exact (show i = 149 by omega) ▸ cw_149
              ·
                by_cases h150_152 : i < 151
                ·
                  exact (show i = 150 by omega) ▸ cw_150
                ·
                  exact (show i = 151 by omega) ▸ cw_151
          ·
            by_cases h152_159 : i < 155
            ·
              by_cases h152_155 : i < 153
              ·
                exact (show i = 152 by omega) ▸ cw_152
              ·
                by_cases h153_155 : i < 154
                ·
                  exact (show i = 153 by omega) ▸ cw_153
                ·
                  exact (show i = 154 by omega) ▸ cw_154
            ·
              by_cases h155_159 : i < 157
              ·
                by_cases h155_157 : i < 156
                ·
                  exact (show i = 155 by omega) ▸ cw_155
                ·
                  exact (show i = 156 by omega) ▸ cw_156
              ·
                by_cases h157_159 : i < 158
                ·
                  exact (show i = 157 by omega) ▸ cw_157
                ·
                  exact (show i = 158 by omega) ▸ cw_158
    ·
      by_cases h159_212 : i < 185
      ·
        by_cases h159_185 : i < 172
        ·
          by_cases h159_172 : i < 165
          ·
            by_cases h159_165 : i < 162
            ·
              by_cases h159_162 : i < 160
              ·
                exact (show i = 159 by omega) ▸ cw_159
              ·
                by_cases h160_162 : i < 161
                ·
                  exact (show i = 160 by omega) ▸ cw_160
                ·
                  exact (show i = 161 by omega) ▸ cw_161
            ·
              by_cases h162_165 : i < 163
              ·
                exact (show i = 162 by omega) ▸ cw_162
              ·
                by_cases h163_165 : i < 164
                ·
                  exact (show i = 163 by omega) ▸ cw_163
                ·
                  exact (show i = 164 by omega) ▸ cw_164
          ·
            by_cases h165_172 : i < 168
            ·
              by_cases h165_168 : i < 166
              ·
                exact (show i = 165 by omega) ▸ cw_165
              ·
                by_cases h166_168 : i < 167
                ·
                  exact (show i = 166 by omega) ▸ cw_166
                ·
                  exact (show i = 167 by omega) ▸ cw_167
            ·
              by_cases h168_172 : i < 170
              ·
                by_cases h168_170 : i < 169
                ·
                  exact (show i = 168 by omega) ▸ cw_168
                ·
                  exact (show i = 169 by omega) ▸ cw_169
              ·
                by_cases h170_172 : i < 171
                ·
                  exact (show i = 170 by omega) ▸ cw_170
                ·
                  exact (show i = 171 by omega) ▸ cw_171
        ·
          by_cases h172_185 : i < 178
          ·
            by_cases h172_178 : i < 175
            ·
              by_cases h172_175 : i < 173
              ·
                exact (show i = 172 by omega) ▸ cw_172
              ·
                by_cases h173_175 : i < 174
                ·
                  exact (show i = 173 by omega) ▸ cw_173
                ·
                  exact (show i = 174 by omega) ▸ cw_174
            ·
              by_cases h175_178 : i < 176
              ·
                exact (show i = 175 by omega) ▸ cw_175
              ·
                by_cases h176_178 : i < 177
                ·
                  exact (show i = 176 by omega) ▸ cw_176
                ·
                  exact (show i = 177 by omega) ▸ cw_177
          ·
            by_cases h178_185 : i < 181
            ·
              by_cases h178_181 : i < 179
              ·
                exact (show i = 178 by omega) ▸ cw_178
              ·
                by_cases h179_181 : i < 180
                ·
                  exact (show i = 179 by omega) ▸ cw_179
                ·
                  exact (show i = 180 by omega) ▸ cw_180
            ·
              by_cases h181_185 : i < 183
              ·
                by_cases h181_183 : i < 182
                ·
                  exact (show i = 181 by omega) ▸ cw_181
                ·
                  exact (show i = 182 by omega) ▸ cw_182
              ·
                by_cases h183_185 : i < 184
                ·
                  exact (show i = 183 by omega) ▸ cw_183
                ·
                  exact (show i = 184 by omega) ▸ cw_184
      ·
        by_cases h185_212 : i < 198
        ·
          by_cases h185_198 : i < 191
          ·
            by_cases h185_191 : i < 188
            ·
              by_cases h185_188 : i < 186
              ·
                exact (show i = 185 by omega) ▸ cw_185
              ·
                by_cases h186_188 : i < 187
                ·
                  exact (show i = 186 by omega) ▸ cw_186
                ·
                  exact (show i = 187 by omega) ▸ cw_187
            ·
              by_cases h188_191 : i < 189
              ·
                exact (show i = 188 by omega) ▸ cw_188
              ·
                by_cases h189_191 : i < 190
                ·
                  exact (show i = 189 by omega) ▸ cw_189
                ·
                  exact (show i = 190 by omega) ▸ cw_190
          ·
            by_cases h191_198 : i < 194
            ·
              by_cases h191_194 : i < 192
              ·
                exact (show i = 191 by omega) ▸ cw_191
              ·
                by_cases h192_194 : i < 193
                ·
                  exact (show i = 192 by omega) ▸ cw_192
                ·
                  exact (show i = 193 by omega) ▸ cw_193
            ·
              by_cases h194_198 : i < 196
              ·
                by_cases h194_196 : i < 195
                ·
                  exact (show i = 194 by omega) ▸ cw_194
                ·
                  exact (show i = 195 by omega) ▸ cw_195
              ·
                by_cases h196_198 : i < 197
                ·
                  exact (show i = 196 by omega) ▸ cw_196
                ·
                  exact (show i = 197 by omega) ▸ cw_197
        ·
          by_cases h198_212 : i < 205
          ·
            by_cases h198_205 : i < 201
            ·
              by_cases h198_201 : i < 199
              ·
                exact (show i = 198 by omega) ▸ cw_198
              ·
                by_cases h199_201 : i < 200
                ·
                  exact (show i = 199 by omega) ▸ cw_199
                ·
                  exact (show i = 200 by omega) ▸ cw_200
            ·
              by_cases h201_205 : i < 203
              ·
                by_cases h201_203 : i < 202
                ·
                  exact (show i = 201 by omega) ▸ cw_201
                ·
                  exact (show i = 202 by omega) ▸ cw_202
              ·
                by_cases h203_205 : i < 204
                ·
                  exact (show i = 203 by omega) ▸ cw_203
                ·
                  exact (show i = 204 by omega) ▸ cw_204
          ·
            by_cases h205_212 : i < 208
            ·
              by_cases h205_208 : i < 206
              ·
                exact (show i = 205 by omega) ▸ cw_205
              ·
                by_cases h206_208 : i < 207
                ·
                  exact (show i = 206 by omega) ▸ cw_206
                ·
                  exact (show i = 207 by omega) ▸ cw_207
            ·
              by_cases h208_212 : i < 210
              ·
                by_cases h208_210 : i < 209
                ·
                  exact (show i = 208 by omega) ▸ cw_208
                ·
                  exact (show i = 209 by omega) ▸ cw_209
              ·
                by_cases h210_212 : i < 211
                ·
                  exact (show i = 210 by omega) ▸ cw_210
                ·
                  exact (show i = 211 by omega) ▸ cw_211
def mlCP : List Nat := [832, 840, 844, 351, 370, 371, 375, 387, 391, 623, 624, 619, 631, 635, 586, 379, 384, 628, 662, 689, 682, 667, 693, 658, 663, 664, 673, 674, 678, 694, 702, 725, 726, 754, 762, 426, 430, 438, 434, 446, 498, 503, 587, 507, 515, 511, 520, 582, 502, 450, 460, 524, 208, 344, 347, 358, 362, 366, 398, 402, 414, 422, 595, 599, 607, 611, 615, 644, 649, 654, 698, 709, 721, 738, 742, 750, 758, 775, 776, 782, 802, 805, 813, 828, 856, 868, 876, 785, 1114, 1122, 1154, 1162, 1170, 1186, 1182, 1166, 1190, 1178, 1194, 1150, 1158, 1146, 1174, 1142, 1138, 1214, 1218, 1238, 1226, 1222, 1210, 1206, 1242, 1250, 1202, 1258, 1234, 1254, 1262, 1266, 1290, 1294, 1298, 1286, 1314, 1334, 1330, 1359, 1355, 1379, 1399, 1403, 1395, 1415, 1411, 1407, 1423, 1419, 1447, 454, 464, 468, 532, 528, 533, 476, 471, 540, 536, 539, 543, 92, 891, 340, 1110, 354, 1198, 394, 1118, 406, 1126, 410, 1130, 418, 1134, 591, 1230, 603, 1246, 636, 1270, 640, 1274, 645, 1278, 650, 1282, 705, 1302, 713, 1306, 717, 1310, 730, 1318, 734, 1322, 746, 1326, 763, 1338, 767, 1342, 771, 1346, 777, 1350, 786, 1363, 790, 1367, 794, 1371, 798, 1375, 809, 1383, 820, 1387, 824, 1391, 848, 1427, 852, 1431, 860, 1435, 864, 1439, 872, 1443, 880, 1451, 884, 1455]
theorem mlC_ok : (mlT.zip mlCP).all (fun e => isW e.2 (.methodLink (cN e.1.1) e.1.2.1 (mY e.1.2.2))) = true := by decide +kernel
def mnCP : List Nat := [100, 120, 151, 176, 294]
theorem mnC_ok : (mnT.zip mnCP).all (fun e => isT e.2 (.methodLinkNest (cN e.1.1) e.1.2.1 (mY e.1.2.2) "FetchRope")) = true := by decide +kernel
def fT (ci k : Nat) : String × String × String × Bool := match ci with
  | 0 => TX0 k
  | 1 => TX1 k
  | 2 => TX2 k
  | 3 => TX3 k
  | 4 => TX4 k
  | 5 => TX5 k
  | 6 => TX6 k
  | 7 => TX7 k
  | _ => if k = 0 then ("java/lang/String", "value", "[B", true) else ("java/lang/String", "coder", "B", true)
def flCP : List Nat := [155, 159, 160, 161, 157, 228, 230, 232, 234, 236, 240, 242, 246, 248, 253, 250, 212, 215, 218, 220, 223, 226, 238, 244, 180, 183, 187, 188, 189, 186, 190, 126, 128, 130, 132, 133, 134, 213, 216, 251, 224, 221, 298, 302, 300, 104, 105, 107, 184, 181, 315, 316, 318, 319, 320, 312, 313, 214, 229, 231, 233, 227, 235, 237, 106, 317, 252, 217, 219, 225, 182, 185, 127, 129, 222, 131, 239, 241, 243, 245, 247, 249, 299, 301, 303, 314, 158, 156, 895, 896, 897, 898, 899, 900, 901, 902, 903, 904, 905, 906, 907, 908, 909, 910, 911, 912, 913, 914, 915, 916, 917, 918, 919, 920, 921, 922, 923, 924, 925, 926, 927, 928, 929, 930, 931, 932, 933, 934, 935, 936, 937, 938, 939, 940, 941, 942, 943, 944, 945, 946, 947, 948, 949, 950, 951, 952, 953, 954, 955, 956, 957, 958, 959, 960, 961, 962, 963, 964, 965, 1460, 1461]
theorem flC_ok : (flT.zip flCP).all (fun e => isW e.2 (.fieldLink (cN e.1.1) e.1.2.1 (fT e.1.2.2.1 e.1.2.2.2).1 (fT e.1.2.2.1 e.1.2.2.2).2.1 (fT e.1.2.2.1 e.1.2.2.2).2.2.1)) = true := by decide +kernel
def klCP : List Nat := [98, 116, 118, 149, 173, 206, 90, 889]
theorem klC_ok : (klT.zip klCP).all (fun e => isW e.2 (.classLink (cN e.1.1) e.1.2.1 (cN e.1.2.2))) = true := by decide +kernel
def fT_own : Bool := (List.range 8).all (fun c => (List.range (nfl c)).all (fun k => (fT c k).1 == cN c && parseFieldDescriptor (fT c k).2.2.1 == some (cty c k)))
theorem fT_own_ok : fT_own = true := by decide +kernel
def insP : List Nat := [150, 207, 175, 119, 293, 99, 91, 890]
theorem ins_ok : (List.range 8).all (fun c => isW (pk insP c) (.instantiable (cN c) (nfl c))) = true := by decide +kernel
def layP0 : List Nat := [162, 164, 166, 168, 170]
theorem lay0_ok : ∀ k, k < 5 → isW (pk layP0 k) (u_lay "FetchRope$Acts" TX0 k) = true := by decide +kernel
theorem lay0 : ∀ w ∈ u_ws "FetchRope$Acts" TX0 5, w ∈ wsG := by
  intro w h
  obtain ⟨k, hk, rfl⟩ := List.mem_map.mp h
  exact in_G _ (lay0_ok k (List.mem_range.mp hk))
theorem nmX0 : ∀ a, a < 5 → ∀ b, b < 5 → a ≠ b → (TX0 a).2.1 ≠ (TX0 b).2.1 := by decide +kernel
def layP1 : List Nat := [254, 256, 258, 260, 262, 264, 266, 268, 270, 272, 274, 276, 278, 280, 282, 284, 286, 288, 290]
theorem lay1_ok : ∀ k, k < 19 → isW (pk layP1 k) (u_lay "FetchRope$Day" TX1 k) = true := by decide +kernel
theorem lay1 : ∀ w ∈ u_ws "FetchRope$Day" TX1 19, w ∈ wsG := by
  intro w h
  obtain ⟨k, hk, rfl⟩ := List.mem_map.mp h
  exact in_G _ (lay1_ok k (List.mem_range.mp hk))
theorem nmX1 : ∀ a, a < 19 → ∀ b, b < 19 → a ≠ b → (TX1 a).2.1 ≠ (TX1 b).2.1 := by decide +kernel
def layP2 : List Nat := [191, 193, 195, 197, 199, 201, 203]
theorem lay2_ok : ∀ k, k < 7 → isW (pk layP2 k) (u_lay "FetchRope$Hill" TX2 k) = true := by decide +kernel
theorem lay2 : ∀ w ∈ u_ws "FetchRope$Hill" TX2 7, w ∈ wsG := by
  intro w h
  obtain ⟨k, hk, rfl⟩ := List.mem_map.mp h
  exact in_G _ (lay2_ok k (List.mem_range.mp hk))
theorem nmX2 : ∀ a, a < 7 → ∀ b, b < 7 → a ≠ b → (TX2 a).2.1 ≠ (TX2 b).2.1 := by decide +kernel
def layP3 : List Nat := [135, 137, 139, 141, 143, 145]
theorem lay3_ok : ∀ k, k < 6 → isW (pk layP3 k) (u_lay "FetchRope$Outlook" TX3 k) = true := by decide +kernel
theorem lay3 : ∀ w ∈ u_ws "FetchRope$Outlook" TX3 6, w ∈ wsG := by
  intro w h
  obtain ⟨k, hk, rfl⟩ := List.mem_map.mp h
  exact in_G _ (lay3_ok k (List.mem_range.mp hk))
theorem nmX3 : ∀ a, a < 6 → ∀ b, b < 6 → a ≠ b → (TX3 a).2.1 ≠ (TX3 b).2.1 := by decide +kernel
def layP4 : List Nat := [304, 306, 308]
theorem lay4_ok : ∀ k, k < 3 → isW (pk layP4 k) (u_lay "FetchRope$Tape" TX4 k) = true := by decide +kernel
theorem lay4 : ∀ w ∈ u_ws "FetchRope$Tape" TX4 3, w ∈ wsG := by
  intro w h
  obtain ⟨k, hk, rfl⟩ := List.mem_map.mp h
  exact in_G _ (lay4_ok k (List.mem_range.mp hk))
theorem nmX4 : ∀ a, a < 3 → ∀ b, b < 3 → a ≠ b → (TX4 a).2.1 ≠ (TX4 b).2.1 := by decide +kernel
def layP5 : List Nat := [108, 110, 112]
theorem lay5_ok : ∀ k, k < 3 → isW (pk layP5 k) (u_lay "FetchRope$Text" TX5 k) = true := by decide +kernel
theorem lay5 : ∀ w ∈ u_ws "FetchRope$Text" TX5 3, w ∈ wsG := by
  intro w h
  obtain ⟨k, hk, rfl⟩ := List.mem_map.mp h
  exact in_G _ (lay5_ok k (List.mem_range.mp hk))
theorem nmX5 : ∀ a, a < 3 → ∀ b, b < 3 → a ≠ b → (TX5 a).2.1 ≠ (TX5 b).2.1 := by decide +kernel
def layP6 : List Nat := [321, 323, 325, 327, 329, 331, 333, 335, 337]
theorem lay6_ok : ∀ k, k < 9 → isW (pk layP6 k) (u_lay "FetchRope" TX6 k) = true := by decide +kernel
theorem lay6 : ∀ w ∈ u_ws "FetchRope" TX6 9, w ∈ wsG := by
  intro w h
  obtain ⟨k, hk, rfl⟩ := List.mem_map.mp h
  exact in_G _ (lay6_ok k (List.mem_range.mp hk))
theorem nmX6 : ∀ a, a < 9 → ∀ b, b < 9 → a ≠ b → (TX6 a).2.1 ≠ (TX6 b).2.1 := by decide +kernel
def layP7 : List Nat := [966, 968, 970, 972, 974, 976, 978, 980, 982, 984, 986, 988, 990, 992, 994, 996, 998, 1000, 1002, 1004, 1006, 1008, 1010, 1012, 1014, 1016, 1018, 1020, 1022, 1024, 1026, 1028, 1030, 1032, 1034, 1036, 1038, 1040, 1042, 1044, 1046, 1048, 1050, 1052, 1054, 1056, 1058, 1060, 1062, 1064, 1066, 1068, 1070, 1072, 1074, 1076, 1078, 1080, 1082, 1084, 1086, 1088, 1090, 1092, 1094, 1096, 1098, 1100, 1102, 1104, 1106]
theorem lay7_ok : ∀ k, k < 71 → isW (pk layP7 k) (u_lay "FetchRopeModel" TX7 k) = true := by decide +kernel
theorem lay7 : ∀ w ∈ u_ws "FetchRopeModel" TX7 71, w ∈ wsG := by
  intro w h
  obtain ⟨k, hk, rfl⟩ := List.mem_map.mp h
  exact in_G _ (lay7_ok k (List.mem_range.mp hk))
theorem nmX7 : ∀ a, a < 71 → ∀ b, b < 71 → a ≠ b → (TX7 a).2.1 ≠ (TX7 b).2.1 := by decide +kernel
def lciT : List (Nat × Nat × Int32) := [(11, 265, (1431655765)), (11, 266, (858993459)), (11, 267, (252645135))]
def lclT : List (Nat × Nat × Int64) := [(2, 42, (-2)), (6, 221, (-9223372036854775808)), (7, 357, (-9223372036854775808)), (13, 152, (4294967295))]
def lciCP : List Nat := [670, 671, 672]
theorem lciC_ok : (lciT.zip lciCP).all (fun e => isW e.2 (.constant (cN e.1.1) e.1.2.1 e.1.2.2)) = true := by decide +kernel
def lclCP : List Nat := [383, 781, 1354, 1459]
theorem lclC_ok : (lclT.zip lclCP).all (fun e => isW e.2 (.constantLong (cN e.1.1) e.1.2.1 e.1.2.2)) = true := by decide +kernel
def sdT : List (String × String × String) := [("FetchRope", "ABOVE", "[I"), ("FetchRope$Outlook", "ONE", "[I"), ("FetchRope$Outlook", "OTHER", "[I"), ("FetchRope$Acts", "BODY", "[I"), ("java/lang/String", "COMPACT_STRINGS", "Z"), ("jdk/internal/util/Preconditions", "SIOOBE_FORMATTER", "Ljava/util/function/BiFunction;")]
def sD (i : Nat) : String × String × String := sdT.getD i ("", "", "")
def stCP : List Nat := [836, 685, 687, 859, 458, 474]
theorem stC_ok : (stT.zip stCP).all (fun e => isW e.2 (.fieldLink (cN e.1.1) e.1.2.1 (sD e.1.2.2).1 (sD e.1.2.2).2.1 (sD e.1.2.2).2.2)) = true := by decide +kernel
def snCP : List Nat := [838]
theorem snC_ok : (snT.zip snCP).all (fun e => isT e.2 (.fieldLinkNest (cN e.1.1) e.1.2.1 (sD e.1.2.2).1 (sD e.1.2.2).2.1 (sD e.1.2.2).2.2 "FetchRope")) = true := by decide +kernel
def oiCP : List Nat := [154, 211, 179, 123, 297, 103, 95, 894]
theorem oiC_ok : (oiT.zip oiCP).all (fun e => isW e.2 (.methodLink (cN e.1.1) e.1.2 Lib.objectInit)) = true := by decide +kernel
def acCP : List Nat := [817, 888]
theorem acC_ok : (acT.zip acCP).all (fun e => isW e.2 (.methodLink (cN e.1.1) e.1.2 arraycopyName)) = true := by decide +kernel
theorem wOI : Cond.instanceMethod Lib.objectInit ∈ wsG := in_G 96 (by decide +kernel)
theorem wAN : Cond.native arraycopyName ∈ wsG := in_G 819 (by decide +kernel)
theorem wAS : Cond.static arraycopyName ∈ wsG := in_G 818 (by decide +kernel)
theorem wAI : Cond.initialized "java/lang/System" ∈ wsG := in_G 89 (by decide +kernel)
theorem wT_hill : Jvm.Cond.arrayOver (Jvm.ClassFile.FieldType.object "FetchRope$Hill") ∈ lw_tbl := List.mem_of_getElem? (i := 117) (by decide +kernel)
theorem wT_tape : Jvm.Cond.arrayOver (Jvm.ClassFile.FieldType.object "FetchRope$Tape") ∈ lw_tbl := List.mem_of_getElem? (i := 174) (by decide +kernel)
theorem wT_grid : Jvm.Cond.arrayOver (Jvm.ClassFile.FieldType.array Jvm.ClassFile.FieldType.int) ∈ lw_tbl := List.mem_of_getElem? (i := 125) (by decide +kernel)
def lsP : List Nat := [839, 686, 688, 837, 459, 475]
def liP : List Nat := [74, 76, 76, 77, 83, 85]
theorem ls_ok : (List.range 6).all (fun i => isT (pk lsP i) (.laysStatic (sD i).1 (sD i).2.1 (sD i).2.2) && isT (pk liP i) (.initialized (sD i).1)) = true := by decide +kernel
def srP : List Nat := [442, 443, 444, 445, 519, 581]
def srX : List (Nat × String) := [(37, "lush "), (39, "now "), (41, "rope "), (43, "need "), (75, "skvdlh"), (81, "<=>")]
theorem sr_ok : (List.range 6).all (fun i => isT (pk srP i) (.stringRef "FetchRope$Text" (srX.getD i (0, "")).1 (srX.getD i (0, "")).2)) = true := by decide +kernel
theorem wGrid : Cond.classLink "FetchRope$Outlook" 11 "[[I" ∈ wsG := in_G 124 (by decide +kernel)
theorem wOC : Cond.code Lib.objectInit ⟨#[0xb1]⟩ 1 none ∈ wsG := in_G 97 (by decide +kernel)
theorem wA_int : Cond.arrayClass .int ∈ wsG := in_G 148 (by decide +kernel)
theorem wA_byte : Cond.arrayClass .byte ∈ wsG := in_G 115 (by decide +kernel)
theorem wA_long : Cond.arrayClass .long ∈ wsG := in_G 311 (by decide +kernel)
theorem wA_boolean : Cond.arrayClass .boolean ∈ wsG := in_G 1109 (by decide +kernel)
