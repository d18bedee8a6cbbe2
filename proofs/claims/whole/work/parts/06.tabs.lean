/-! what the tables say of the program: written by wip/whole/tabgen.py -/
def NM : Nat := 198
def TG : List Jvm.Cond := lw_tbl.filter goodWord
theorem tg_in {w : Jvm.Cond} (h : w ∈ lw_tbl) (hg : goodWord w = true) : w ∈ TG := List.mem_filter.mpr ⟨h, hg⟩
theorem tg_good {w : Jvm.Cond} (h : w ∈ TG) : w ∈ TG ∧ ((w.onTables && w.keeps) = true ∨ ∃ ty, w = .arrayClass ty) := ⟨h, good_of_word (List.mem_filter.mp h).2⟩
theorem tg_at {i : Nat} {w : Jvm.Cond} (h : (decide (lw_tbl[i]? = some w) && goodWord w) = true) : w ∈ TG := by
  rw [Bool.and_eq_true, decide_eq_true_eq] at h
  exact tg_in (List.mem_of_getElem? h.1) h.2
def fuL : List (Nat × Nat × Nat × Nat × Nat) := [(209, 0, 14, 0, 0), (211, 0, 20, 0, 1), (213, 0, 26, 0, 2), (216, 0, 33, 0, 3), (226, 0, 51, 0, 6), (228, 0, 55, 0, 7), (111, 0, 65, 8, 2), (108, 0, 68, 8, 1), (131, 0, 76, 6, 1), (155, 0, 83, 2, 2), (147, 0, 89, 2, 0), (151, 0, 92, 2, 1), (170, 1, 9, 1, 0), (172, 1, 15, 1, 1), (174, 1, 18, 1, 2), (176, 1, 25, 1, 3), (144, 2, 9, 2, 0), (149, 2, 15, 2, 1), (153, 2, 24, 2, 2), (329, 3, 14, 3, 1), (330, 3, 20, 3, 2), (331, 3, 24, 3, 3), (328, 3, 27, 3, 0), (334, 3, 31, 3, 5), (338, 3, 35, 3, 7), (287, 3, 42, 7, 2), (291, 3, 55, 7, 4), (336, 3, 58, 3, 6), (283, 3, 61, 7, 0), (285, 3, 71, 7, 1), (146, 3, 75, 2, 0), (303, 3, 84, 7, 10), (221, 3, 90, 0, 4), (178, 3, 96, 1, 3), (224, 3, 105, 0, 5), (296, 3, 109, 7, 6), (129, 3, 118, 6, 0), (340, 3, 139, 3, 8), (342, 3, 155, 3, 9), (332, 3, 160, 3, 4), (195, 4, 9, 4, 0), (196, 4, 15, 4, 1), (197, 4, 18, 4, 2), (198, 4, 21, 4, 3), (374, 5, 9, 5, 0), (376, 5, 15, 5, 1), (378, 5, 25, 5, 2), (126, 6, 9, 6, 0), (130, 6, 15, 6, 1), (282, 7, 12, 7, 0), (284, 7, 21, 7, 1), (286, 7, 28, 7, 2), (288, 7, 32, 7, 3), (290, 7, 36, 7, 4), (293, 7, 39, 7, 5), (295, 7, 42, 7, 6), (301, 7, 45, 7, 9), (300, 7, 48, 7, 8), (298, 7, 52, 7, 7), (214, 7, 55, 0, 2), (217, 7, 64, 0, 3), (220, 7, 71, 0, 4), (177, 7, 75, 1, 3), (171, 7, 81, 1, 0), (173, 7, 84, 1, 1), (175, 7, 87, 1, 2), (302, 7, 94, 7, 10), (154, 7, 101, 2, 2), (145, 7, 102, 2, 0), (127, 7, 114, 6, 0), (150, 7, 123, 2, 1), (132, 7, 132, 6, 1), (270, 7, 139, 9, 0), (272, 7, 142, 9, 1), (274, 7, 145, 9, 2), (107, 8, 9, 8, 1), (105, 8, 21, 8, 0), (109, 8, 25, 8, 2), (269, 9, 9, 9, 0), (271, 9, 21, 9, 1), (273, 9, 25, 9, 2), (387, 10, 10, 10, 0), (388, 10, 21, 10, 1), (389, 10, 30, 10, 2), (390, 10, 36, 10, 3), (391, 10, 41, 10, 4), (392, 10, 45, 10, 5), (110, 10, 57, 8, 2), (106, 10, 62, 8, 0), (227, 10, 72, 0, 6), (229, 10, 75, 0, 7), (215, 10, 78, 0, 2), (128, 10, 82, 6, 0), (218, 10, 88, 0, 3), (156, 10, 92, 2, 2), (148, 10, 97, 2, 0), (152, 10, 100, 2, 1), (222, 10, 109, 0, 4), (179, 10, 113, 1, 3), (377, 10, 120, 5, 1), (379, 10, 127, 5, 2), (375, 10, 128, 5, 0), (297, 10, 135, 7, 6), (299, 10, 145, 7, 7), (292, 10, 148, 7, 4), (294, 10, 151, 7, 5), (289, 10, 154, 7, 3), (304, 10, 157, 7, 10), (335, 10, 170, 3, 5), (339, 10, 173, 3, 7), (337, 10, 179, 3, 6), (225, 10, 188, 0, 5), (199, 10, 192, 4, 3), (341, 10, 214, 3, 8), (343, 10, 218, 3, 9), (210, 10, 252, 0, 0), (212, 10, 256, 0, 1), (333, 10, 323, 3, 4), (853, 11, 7, 11, 0), (854, 11, 13, 11, 1), (855, 11, 16, 11, 2), (856, 11, 19, 11, 3), (858, 11, 22, 11, 5), (859, 11, 25, 11, 6), (860, 11, 28, 11, 7), (861, 11, 31, 11, 8), (863, 11, 34, 11, 10), (865, 11, 37, 11, 12), (870, 11, 40, 11, 17), (871, 11, 43, 11, 18), (872, 11, 46, 11, 19), (873, 11, 49, 11, 20), (874, 11, 52, 11, 21), (875, 11, 55, 11, 22), (876, 11, 58, 11, 23), (878, 11, 61, 11, 25), (879, 11, 64, 11, 26), (881, 11, 67, 11, 28), (867, 11, 70, 11, 14), (857, 11, 80, 11, 4), (862, 11, 120, 11, 9), (864, 11, 149, 11, 11), (866, 11, 161, 11, 13), (868, 11, 193, 11, 15), (869, 11, 196, 11, 16), (877, 11, 263, 11, 24), (880, 11, 303, 11, 27)]
def fuC (q : Nat × Nat × Nat × Nat × Nat) : Jvm.Cond := .fieldLink (rn q.2.1) q.2.2.1 (rn q.2.2.2.1) (tT q.2.2.2.1 q.2.2.2.2).2.1 (tT q.2.2.2.1 q.2.2.2.2).2.2.1
theorem fu_chk : fuL.all (fun q => decide (lw_tbl[q.1]? = some (fuC q)) && goodWord (fuC q)) = true := by decide +kernel
def muL : List (Nat × Nat × Nat × Nat) := [(429, 0, 58, 31), (436, 0, 61, 2), (440, 0, 72, 5), (443, 0, 79, 33), (451, 0, 86, 4), (635, 3, 38, 41), (636, 3, 46, 51), (637, 3, 52, 42), (646, 3, 65, 36), (658, 3, 80, 48), (667, 3, 87, 13), (671, 3, 101, 12), (695, 3, 112, 26), (721, 3, 127, 18), (735, 3, 136, 20), (739, 3, 143, 196), (740, 3, 149, 21), (753, 3, 164, 23), (757, 3, 167, 24), (699, 4, 25, 40), (768, 5, 19, 197), (433, 6, 18, 197), (515, 7, 60, 32), (522, 7, 65, 8), (527, 7, 68, 50), (532, 7, 90, 51), (541, 7, 97, 38), (545, 7, 103, 43), (557, 7, 107, 44), (570, 7, 111, 39), (549, 7, 126, 35), (553, 7, 129, 34), (562, 7, 135, 45), (605, 7, 156, 196), (531, 9, 15, 197), (410, 10, 49, 93), (413, 10, 53, 0), (417, 10, 65, 49), (421, 10, 69, 96), (483, 10, 103, 6), (487, 10, 114, 7), (455, 10, 117, 97), (499, 10, 123, 95), (507, 10, 131, 98), (574, 10, 138, 40), (577, 10, 142, 46), (597, 10, 160, 47), (601, 10, 164, 48), (631, 10, 167, 9), (642, 10, 176, 10), (654, 10, 182, 11), (663, 10, 185, 14), (679, 10, 195, 25), (691, 10, 196, 15), (704, 10, 199, 94), (708, 10, 202, 16), (717, 10, 205, 17), (731, 10, 210, 19), (749, 10, 221, 22), (764, 10, 225, 27), (777, 10, 228, 28), (782, 10, 231, 30), (795, 10, 235, 29), (809, 10, 249, 37), (818, 10, 261, 87), (819, 10, 264, 89), (823, 10, 268, 55), (824, 10, 271, 63), (825, 10, 273, 90), (833, 10, 277, 91), (839, 10, 280, 92), (829, 10, 286, 66), (830, 10, 289, 56), (831, 10, 292, 62), (832, 10, 296, 61), (837, 10, 299, 57), (838, 10, 302, 64), (843, 10, 305, 65), (844, 10, 308, 67), (845, 10, 311, 68), (846, 10, 314, 69), (425, 10, 317, 1), (447, 10, 320, 3), (511, 10, 326, 41), (537, 10, 330, 42), (949, 11, 76, 99), (945, 11, 85, 107), (953, 11, 91, 106), (965, 11, 95, 110), (969, 11, 99, 111), (985, 11, 104, 101), (1009, 11, 109, 118), (1019, 11, 123, 120), (1005, 11, 126, 119), (1015, 11, 130, 121), (1001, 11, 133, 122), (1028, 11, 140, 124), (1032, 11, 143, 127), (1040, 11, 146, 125), (1048, 11, 152, 126), (1052, 11, 155, 130), (1064, 11, 159, 131), (1101, 11, 164, 102), (1089, 11, 168, 136), (1085, 11, 171, 137), (1097, 11, 174, 135), (1104, 11, 177, 134), (1108, 11, 180, 139), (1112, 11, 183, 103), (1081, 11, 186, 138), (1093, 11, 190, 140), (1077, 11, 199, 141), (1073, 11, 202, 142), (1119, 11, 205, 144), (1069, 11, 208, 143), (1115, 11, 211, 145), (1135, 11, 214, 148), (1131, 11, 217, 149), (1147, 11, 220, 151), (1143, 11, 223, 152), (1155, 11, 226, 154), (1163, 11, 229, 156), (1171, 11, 232, 158), (1179, 11, 235, 160), (1187, 11, 238, 162), (1199, 11, 241, 104), (1195, 11, 244, 164), (1206, 11, 247, 166), (1214, 11, 250, 168), (1227, 11, 253, 170), (1223, 11, 258, 171), (1248, 11, 266, 175), (1244, 11, 270, 176), (1264, 11, 273, 178), (1256, 11, 276, 179), (1260, 11, 279, 180), (1276, 11, 282, 182), (1272, 11, 285, 183), (1289, 11, 288, 105), (1285, 11, 294, 185), (1292, 11, 298, 100), (1305, 11, 306, 187), (1301, 11, 311, 188), (1318, 11, 314, 191), (1328, 11, 321, 192), (1329, 11, 324, 193), (1333, 11, 328, 194)]
def muC (q : Nat × Nat × Nat × Nat) : Jvm.Cond := .methodLink (rn q.2.1) q.2.2.1 (my q.2.2.2)
theorem mu_chk : muL.all (fun q => decide (lw_tbl[q.1]? = some (muC q)) && goodWord (muC q)) = true := by decide +kernel
def acL : List (Nat × Nat × Nat) := [(526, 2, 18), (712, 3, 121), (519, 6, 24), (561, 7, 117), (799, 10, 238)]
def acC (q : Nat × Nat × Nat) : Jvm.Cond := .methodLink (rn q.2.1) q.2.2 arraycopyName
theorem ac_chk : acL.all (fun q => decide (lw_tbl[q.1]? = some (acC q)) && goodWord (acC q)) = true := by decide +kernel
def minL : List (Nat × Nat × Nat) := [(566, 7, 148), (536, 9, 28), (804, 10, 244)]
def minC (q : Nat × Nat × Nat) : Jvm.Cond := .methodLink (rn q.2.1) q.2.2 Lib.Math.min.name
theorem min_chk : minL.all (fun q => decide (lw_tbl[q.1]? = some (minC q)) && goodWord (minC q)) = true := by decide +kernel
theorem min_sta : Jvm.Cond.static Lib.Math.min.name ∈ TG := tg_at (i := 103) (by decide +kernel)
theorem min_cod : Jvm.Cond.code Lib.Math.min.name Lib.Math.min.code 2 (some .int) ∈ TG := tg_at (i := 104) (by decide +kernel)
def maxL : List (Nat × Nat × Nat) := [(725, 3, 131), (567, 7, 153)]
def maxC (q : Nat × Nat × Nat) : Jvm.Cond := .methodLink (rn q.2.1) q.2.2 Lib.Math.max.name
theorem max_chk : maxL.all (fun q => decide (lw_tbl[q.1]? = some (maxC q)) && goodWord (maxC q)) = true := by decide +kernel
theorem max_sta : Jvm.Cond.static Lib.Math.max.name ∈ TG := tg_at (i := 568) (by decide +kernel)
theorem max_cod : Jvm.Cond.code Lib.Math.max.name Lib.Math.max.code 2 (some .int) ∈ TG := tg_at (i := 569) (by decide +kernel)
theorem mat_ini : Jvm.Cond.initialized "java/lang/Math" ∈ TG := tg_at (i := 69) (by decide +kernel)
theorem ac_nat : Jvm.Cond.native arraycopyName ∈ TG := tg_at (i := 521) (by decide +kernel)
theorem ac_sta : Jvm.Cond.static arraycopyName ∈ TG := tg_at (i := 520) (by decide +kernel)
theorem ac_ini : Jvm.Cond.initialized "java/lang/System" ∈ TG := tg_at (i := 80) (by decide +kernel)
def nuL : List (Nat × Nat × Nat) := [(1, 21, 93), (5, 28, 93)]
def nuC (q : Nat × Nat × Nat) : Jvm.Cond := .methodLinkNest (rn q.1) q.2.1 (my q.2.2) "IceHouse"
def nuH : List Nat := [486, 781]
theorem nu_in : ∀ q ∈ nuL, nuC q ∈ lw_tbl := by
  intro q hq
  simp only [nuL, List.mem_cons, List.not_mem_nil, or_false] at hq
  rcases hq with rfl | rfl
  · exact List.mem_of_getElem? (i := 486) (by decide +kernel)
  · exact List.mem_of_getElem? (i := 781) (by decide +kernel)
def cuL : List (Nat × Nat × Nat × Nat × Nat) := [(756, 3, 170, 1103515245, 0), (790, 10, 234, 2147483648, 1), (976, 11, 103, 2147483648, 1), (1309, 11, 302, 1103515245, 0), (608, 12, 265, 1431655765, 0), (609, 12, 266, 858993459, 0), (610, 12, 267, 252645135, 0)]
def cuC (q : Nat × Nat × Nat × Nat × Nat) : Jvm.Cond := .constant (rn q.2.1) q.2.2.1 (cI q.2.2.2.1 q.2.2.2.2)
theorem cu_chk : cuL.all (fun q => decide (lw_tbl[q.1]? = some (cuC q)) && goodWord (cuC q)) = true := by decide +kernel
def clL : List (Nat × Nat × Nat × Nat × Nat) := [(743, 3, 153, 16, 0), (744, 3, 158, 2, 0), (730, 10, 208, 9223372036854775806, 1), (817, 10, 259, 17, 0), (822, 10, 284, 31, 0), (1295, 11, 74, 9223372036854775808, 1), (948, 11, 83, 3, 0), (952, 11, 89, 2, 0), (988, 11, 107, 255, 0), (1013, 11, 112, 49, 0), (1014, 11, 114, 57, 0), (1022, 11, 116, 97, 0), (1023, 11, 118, 120, 0), (1031, 11, 136, 5, 0), (1051, 11, 138, 23, 0), (1222, 11, 256, 1, 1), (1235, 11, 261, 6, 0), (1284, 11, 292, 16, 0), (1300, 11, 309, 8, 0), (1327, 11, 317, 31, 0), (1326, 11, 319, 17, 0)]
def clC (q : Nat × Nat × Nat × Nat × Nat) : Jvm.Cond := .constantLong (rn q.2.1) q.2.2.1 (cL q.2.2.2.1 q.2.2.2.2)
theorem cl_chk : clL.all (fun q => decide (lw_tbl[q.1]? = some (clC q)) && goodWord (clC q)) = true := by decide +kernel
def npL : List Nat := [1, 0, 0, 0, 0, 1, 3, 3, 1, 0, 0, 1, 1, 3, 0, 0, 2, 1, 2, 2, 0, 2, 2, 1, 2, 3, 1, 2, 2, 2, 2, 0, 1, 2, 1, 0, 2, 0, 0, 0, 2, 2, 0, 1, 1, 2, 2, 0, 0, 1, 0, 3, 2, 1, 1, 1, 2, 2, 3, 0, 1, 3, 3, 2, 2, 1, 1, 0, 0, 1, 1, 1, 2, 1, 3, 0, 0, 2, 2, 3, 3, 3, 1, 4, 3, 5, 2, 1, 0, 2, 2, 2, 1, 2, 2, 1, 1, 0, 0, 3, 1, 1, 2, 2, 2, 3, 1, 1, 3, 1, 3, 2, 4, 3, 5, 2, 1, 1, 0, 0, 2, 0, 1, 1, 1, 1, 1, 2, 2, 2, 3, 3, 0, 1, 2, 1, 1, 0, 1, 3, 1, 1, 0, 0, 2, 3, 3, 3, 1, 2, 2, 1, 2, 2, 1, 1, 1, 1, 0, 0, 0, 0, 1, 1, 1, 1, 1, 1, 2, 2, 1, 1, 1, 3, 0, 0, 0, 0, 1, 2, 2, 2, 2, 2, 2, 3, 3, 1, 3, 3, 2, 0, 1, 2, 2, 0, 1, 2]
def np (z : Nat) : Nat := npL.getD z 0
def stL : List Nat := [0, 0, 0, 0, 0, 1, 1, 0, 0, 0, 0, 0, 0, 0, 0, 0, 0, 0, 0, 0, 0, 1, 0, 1, 1, 0, 0, 0, 0, 0, 0, 0, 0, 0, 0, 0, 0, 0, 0, 0, 1, 0, 0, 0, 0, 0, 0, 0, 0, 0, 0, 0, 0, 0, 0, 0, 0, 0, 0, 0, 0, 0, 0, 0, 0, 0, 0, 0, 0, 0, 0, 0, 0, 0, 0, 0, 0, 0, 0, 0, 0, 0, 0, 0, 0, 0, 0, 0, 0, 1, 0, 0, 0, 1, 0, 0, 0, 0, 0, 1, 1, 1, 1, 1, 1, 1, 0, 1, 0, 0, 0, 1, 0, 0, 0, 0, 0, 0, 0, 0, 1, 0, 0, 0, 1, 0, 1, 0, 0, 0, 0, 0, 0, 0, 0, 0, 0, 0, 0, 0, 0, 0, 0, 0, 0, 0, 0, 0, 0, 0, 0, 0, 0, 0, 0, 0, 0, 0, 0, 0, 0, 0, 0, 0, 0, 0, 0, 0, 0, 0, 0, 0, 0, 0, 0, 0, 0, 0, 0, 0, 0, 0, 0, 0, 0, 0, 0, 0, 0, 0, 0, 0, 0, 0, 0, 0, 1, 1]
def stc (z : Nat) : Nat := stL.getD z 0
def mhL : List (Nat × Nat × Nat × Nat) := [(416, 414, 415, 67), (428, 426, 427, 67), (439, 438, 1, 67), (450, 448, 449, 67), (454, 453, 2, 67), (442, 441, 0, 67), (485, 484, 0, 72), (490, 488, 489, 72), (525, 523, 524, 71), (634, 632, 633, 74), (645, 643, 644, 74), (657, 655, 656, 74), (674, 673, 10, 74), (670, 669, 9, 74), (666, 664, 665, 74), (694, 692, 693, 74), (711, 709, 710, 74), (720, 718, 719, 74), (724, 723, 12, 74), (734, 732, 733, 74), (738, 737, 13, 74), (742, 741, 0, 74), (752, 750, 751, 74), (755, 754, 0, 74), (759, 758, 0, 74), (682, 680, 681, 73), (698, 696, 697, 73), (767, 765, 766, 77), (780, 778, 779, 77), (798, 796, 797, 77), (785, 783, 784, 77), (432, 430, 431, 70), (518, 516, 517, 70), (446, 444, 445, 70), (556, 554, 555, 70), (552, 550, 551, 70), (649, 647, 648, 70), (812, 810, 811, 70), (544, 542, 543, 70), (573, 571, 572, 70), (576, 575, 0, 75), (514, 512, 513, 75), (540, 538, 539, 75), (548, 547, 6, 75), (560, 559, 7, 75), (565, 564, 8, 75), (580, 578, 579, 75), (600, 598, 599, 75), (604, 602, 603, 75), (420, 418, 419, 68), (530, 528, 529, 76), (535, 533, 534, 76), (409, 407, 408, 66), (462, 460, 461, 66), (466, 464, 465, 66), (470, 468, 469, 66), (474, 472, 473, 66), (478, 476, 477, 66), (482, 480, 481, 66), (494, 492, 493, 66), (498, 496, 497, 66), (506, 504, 505, 66), (584, 582, 583, 66), (588, 586, 587, 66), (592, 590, 591, 66), (596, 594, 595, 66), (614, 612, 613, 66), (618, 616, 617, 66), (622, 620, 621, 66), (626, 624, 625, 66), (630, 628, 629, 66), (641, 639, 640, 66), (653, 651, 652, 66), (662, 660, 661, 66), (678, 676, 677, 66), (686, 684, 685, 66), (690, 688, 689, 66), (703, 701, 702, 66), (716, 714, 715, 66), (729, 727, 728, 66), (748, 746, 747, 66), (763, 761, 762, 66), (772, 770, 771, 66), (776, 774, 775, 66), (789, 787, 788, 66), (794, 792, 793, 66), (803, 801, 802, 66), (808, 806, 807, 66), (816, 814, 815, 66), (821, 820, 0, 66), (828, 827, 14, 66), (836, 835, 15, 66), (842, 841, 16, 66), (412, 411, 0, 66), (707, 706, 11, 66), (502, 501, 4, 66), (424, 423, 0, 66), (458, 457, 3, 66), (510, 509, 5, 66), (951, 950, 0, 78), (1294, 1293, 0, 78), (987, 986, 0, 78), (1103, 1102, 0, 78), (1114, 1113, 0, 78), (1201, 1200, 0, 78), (1291, 1290, 0, 78), (956, 955, 17, 78), (947, 946, 0, 78), (944, 942, 943, 78), (960, 958, 959, 78), (968, 967, 18, 78), (971, 970, 0, 78), (964, 962, 963, 78), (975, 973, 974, 78), (980, 978, 979, 78), (984, 982, 983, 78), (992, 990, 991, 78), (996, 994, 995, 78), (1012, 1011, 21, 78), (1008, 1007, 20, 78), (1021, 1020, 0, 78), (1018, 1017, 22, 78), (1004, 1003, 19, 78), (1000, 998, 999, 78), (1030, 1029, 0, 78), (1043, 1042, 24, 78), (1050, 1049, 0, 78), (1035, 1034, 23, 78), (1027, 1025, 1026, 78), (1039, 1037, 1038, 78), (1055, 1054, 25, 78), (1047, 1045, 1046, 78), (1059, 1057, 1058, 78), (1063, 1061, 1062, 78), (1107, 1106, 34, 78), (1100, 1099, 33, 78), (1092, 1091, 31, 78), (1088, 1087, 30, 78), (1084, 1083, 29, 78), (1111, 1110, 35, 78), (1096, 1095, 32, 78), (1080, 1079, 28, 78), (1076, 1075, 27, 78), (1072, 1071, 26, 78), (1122, 1121, 37, 78), (1118, 1117, 36, 78), (1068, 1066, 1067, 78), (1126, 1124, 1125, 78), (1138, 1137, 39, 78), (1134, 1133, 38, 78), (1130, 1128, 1129, 78), (1150, 1149, 41, 78), (1146, 1145, 40, 78), (1142, 1140, 1141, 78), (1158, 1157, 42, 78), (1154, 1152, 1153, 78), (1166, 1165, 43, 78), (1162, 1160, 1161, 78), (1174, 1173, 44, 78), (1170, 1168, 1169, 78), (1182, 1181, 45, 78), (1178, 1176, 1177, 78), (1190, 1189, 46, 78), (1186, 1184, 1185, 78), (1198, 1197, 47, 78), (1194, 1192, 1193, 78), (1209, 1208, 48, 78), (1205, 1203, 1204, 78), (1217, 1216, 49, 78), (1213, 1211, 1212, 78), (1230, 1229, 51, 78), (1226, 1225, 50, 78), (1221, 1219, 1220, 78), (1234, 1232, 1233, 78), (1239, 1237, 1238, 78), (1251, 1250, 53, 78), (1247, 1246, 52, 78), (1243, 1241, 1242, 78), (1267, 1266, 56, 78), (1259, 1258, 54, 78), (1263, 1262, 55, 78), (1255, 1253, 1254, 78), (1279, 1278, 58, 78), (1275, 1274, 57, 78), (1271, 1269, 1270, 78), (1288, 1287, 59, 78), (1283, 1281, 1282, 78), (1308, 1307, 61, 78), (1304, 1303, 60, 78), (1299, 1297, 1298, 78), (1313, 1311, 1312, 78), (1321, 1320, 62, 78), (1317, 1315, 1316, 78), (1332, 1331, 63, 78), (1336, 1335, 64, 78), (1325, 1323, 1324, 78), (607, 606, 0, 81), (435, 434, 0, 79)]
def mh (z : Nat) : Nat × Nat × Nat × Nat := mhL.getD z (0, 0, 0, 0)
def mb (z : Nat) : ByteArray := match lw_tbl[(mh z).1]? with
  | some (.code _ b _ _) => b
  | _ => ⟨#[]⟩
def cwC (z : Nat) : Bool := match lw_tbl[(mh z).1]? with
  | some (.code y _ l r) => decide (y = my z) && decide (l = mL z) && decide (r = mr z)
  | _ => false
theorem cwC_spec {z : Nat} (h : cwC z = true) : Jvm.Cond.code (my z) (mb z) (mL z) (mr z) ∈ lw_tbl := by
  refine List.mem_of_getElem? (i := (mh z).1) ?_
  unfold cwC at h
  unfold mb
  split at h
  · rename_i y b l r e
    rw [e]
    simp only [Bool.and_eq_true, decide_eq_true_eq] at h
    obtain ⟨⟨rfl, rfl⟩, rfl⟩ := h
    rfl
  · cases h
def mnC (z : Nat) : Bool := decide ((my z).cls = rn (mc z)) && decide (mc z < 14) && plainName (my z).cls && decide ((my z).cls ≠ "java/lang/invoke/MethodHandle") && decide ((my z).cls ≠ "java/lang/invoke/VarHandle") && decide ((parseMethodDescriptor (my z).desc).map (fun d => d.parameters.length) = some (np z)) && decide (lw_tbl[(mh z).2.2.2]? = some (.initialized (my z).cls)) && (if stc z = 0 then decide (lw_tbl[(mh z).2.1]? = some (.instanceMethod (my z))) && decide (lw_tbl[(mh z).2.2.1]? = some (.selects (my z).cls (my z) (my z))) else decide (lw_tbl[(mh z).2.1]? = some (.static (my z))))
theorem mn_0 : ((List.range 25).map (· + 0)).all mnC = true := by decide +kernel
theorem mn_1 : ((List.range 25).map (· + 25)).all mnC = true := by decide +kernel
theorem mn_2 : ((List.range 25).map (· + 50)).all mnC = true := by decide +kernel
theorem mn_3 : ((List.range 25).map (· + 75)).all mnC = true := by decide +kernel
theorem mn_4 : ((List.range 25).map (· + 100)).all mnC = true := by decide +kernel
theorem mn_5 : ((List.range 25).map (· + 125)).all mnC = true := by decide +kernel
theorem mn_6 : ((List.range 25).map (· + 150)).all mnC = true := by decide +kernel
theorem mn_7 : ((List.range 23).map (· + 175)).all mnC = true := by decide +kernel
theorem cw_0 : ((List.range 25).map (· + 0)).all cwC = true := by decide +kernel
theorem cw_1 : ((List.range 25).map (· + 25)).all cwC = true := by decide +kernel
theorem cw_2 : ((List.range 25).map (· + 50)).all cwC = true := by decide +kernel
theorem cw_3 : ((List.range 25).map (· + 75)).all cwC = true := by decide +kernel
theorem cw_4 : ((List.range 25).map (· + 100)).all cwC = true := by decide +kernel
theorem cw_5 : ((List.range 25).map (· + 125)).all cwC = true := by decide +kernel
theorem cw_6 : ((List.range 25).map (· + 150)).all cwC = true := by decide +kernel
theorem cw_7 : ((List.range 23).map (· + 175)).all cwC = true := by decide +kernel
theorem in_rng {P : Nat → Prop} {n k g z : Nat} (h : ∀ z ∈ (List.range n).map (· + g), P z) (h1 : g ≤ z) (h2 : z < g + n) : P z := h z (List.mem_map.mpr ⟨z - g, List.mem_range.mpr (by omega), by omega⟩)
theorem cw_in {z : Nat} (h : z < NM) : Jvm.Cond.code (my z) (mb z) (mL z) (mr z) ∈ lw_tbl := by
  have h : z < 198 := h
  by_cases q0 : z < 25
  · exact cwC_spec (in_rng (k := 0) (P := fun z => cwC z = true) (List.all_eq_true.mp cw_0) (by omega) (by omega))
  by_cases q1 : z < 50
  · exact cwC_spec (in_rng (k := 0) (P := fun z => cwC z = true) (List.all_eq_true.mp cw_1) (by omega) (by omega))
  by_cases q2 : z < 75
  · exact cwC_spec (in_rng (k := 0) (P := fun z => cwC z = true) (List.all_eq_true.mp cw_2) (by omega) (by omega))
  by_cases q3 : z < 100
  · exact cwC_spec (in_rng (k := 0) (P := fun z => cwC z = true) (List.all_eq_true.mp cw_3) (by omega) (by omega))
  by_cases q4 : z < 125
  · exact cwC_spec (in_rng (k := 0) (P := fun z => cwC z = true) (List.all_eq_true.mp cw_4) (by omega) (by omega))
  by_cases q5 : z < 150
  · exact cwC_spec (in_rng (k := 0) (P := fun z => cwC z = true) (List.all_eq_true.mp cw_5) (by omega) (by omega))
  by_cases q6 : z < 175
  · exact cwC_spec (in_rng (k := 0) (P := fun z => cwC z = true) (List.all_eq_true.mp cw_6) (by omega) (by omega))
  exact cwC_spec (in_rng (k := 0) (P := fun z => cwC z = true) (List.all_eq_true.mp cw_7) (by omega) (by omega))

theorem mn_in {z : Nat} (h : z < NM) : mnC z = true := by
  have h : z < 198 := h
  by_cases q0 : z < 25
  · exact in_rng (k := 0) (P := fun z => mnC z = true) (List.all_eq_true.mp mn_0) (by omega) (by omega)
  by_cases q1 : z < 50
  · exact in_rng (k := 0) (P := fun z => mnC z = true) (List.all_eq_true.mp mn_1) (by omega) (by omega)
  by_cases q2 : z < 75
  · exact in_rng (k := 0) (P := fun z => mnC z = true) (List.all_eq_true.mp mn_2) (by omega) (by omega)
  by_cases q3 : z < 100
  · exact in_rng (k := 0) (P := fun z => mnC z = true) (List.all_eq_true.mp mn_3) (by omega) (by omega)
  by_cases q4 : z < 125
  · exact in_rng (k := 0) (P := fun z => mnC z = true) (List.all_eq_true.mp mn_4) (by omega) (by omega)
  by_cases q5 : z < 150
  · exact in_rng (k := 0) (P := fun z => mnC z = true) (List.all_eq_true.mp mn_5) (by omega) (by omega)
  by_cases q6 : z < 175
  · exact in_rng (k := 0) (P := fun z => mnC z = true) (List.all_eq_true.mp mn_6) (by omega) (by omega)
  exact in_rng (k := 0) (P := fun z => mnC z = true) (List.all_eq_true.mp mn_7) (by omega) (by omega)

def tyT (c : Nat) : Nat → FieldType := ([tyX0, tyX1, tyX2, tyX3, tyX4, tyX5, tyX6, tyX7, tyX8, tyX9, tyX10, tyX11] : List (Nat → FieldType)).getD c tyX0
theorem tyT_ok : ∀ c, c < 12 → ∀ k, k < nF c → parseFieldDescriptor (tT c k).2.2.1 = some (tyT c k) := by
  intro c hc
  match c, hc with
  | 0, _ => exact tyX0_ok
  | 1, _ => exact tyX1_ok
  | 2, _ => exact tyX2_ok
  | 3, _ => exact tyX3_ok
  | 4, _ => exact tyX4_ok
  | 5, _ => exact tyX5_ok
  | 6, _ => exact tyX6_ok
  | 7, _ => exact tyX7_ok
  | 8, _ => exact tyX8_ok
  | 9, _ => exact tyX9_ok
  | 10, _ => exact tyX10_ok
  | 11, _ => exact tyX11_ok
theorem nmT_ok : ∀ c, c < 12 → ∀ a, a < nF c → ∀ b, b < nF c → a ≠ b → (tT c a).2.1 ≠ (tT c b).2.1 := by
  intro c hc
  match c, hc with
  | 0, _ => exact nmX0
  | 1, _ => exact nmX1
  | 2, _ => exact nmX2
  | 3, _ => exact nmX3
  | 4, _ => exact nmX4
  | 5, _ => exact nmX5
  | 6, _ => exact nmX6
  | 7, _ => exact nmX7
  | 8, _ => exact nmX8
  | 9, _ => exact nmX9
  | 10, _ => exact nmX10
  | 11, _ => exact nmX11
theorem dcT_ok : (List.range 12).all (fun c => (List.range (nF c)).all (fun k => decide ((tT c k).1 = rn c))) = true := by decide +kernel
theorem lay_0 : ∀ w ∈ u_ws (rn 0) (tT 0) (nF 0), w ∈ TG := by
  have e : u_ws (rn 0) (tT 0) (nF 0) = ([230, 232, 234, 236, 238, 240, 242, 244] : List Nat).filterMap (fun i => lw_tbl[i]?) := by decide +kernel
  have g : (u_ws (rn 0) (tT 0) (nF 0)).all goodWord = true := by decide +kernel
  intro w hw
  have hg := List.all_eq_true.mp g w hw
  rw [e] at hw
  obtain ⟨i, -, hi⟩ := List.mem_filterMap.mp hw
  exact tg_in (List.mem_of_getElem? hi) hg
theorem lay_1 : ∀ w ∈ u_ws (rn 1) (tT 1) (nF 1), w ∈ TG := by
  have e : u_ws (rn 1) (tT 1) (nF 1) = ([180, 182, 184, 186] : List Nat).filterMap (fun i => lw_tbl[i]?) := by decide +kernel
  have g : (u_ws (rn 1) (tT 1) (nF 1)).all goodWord = true := by decide +kernel
  intro w hw
  have hg := List.all_eq_true.mp g w hw
  rw [e] at hw
  obtain ⟨i, -, hi⟩ := List.mem_filterMap.mp hw
  exact tg_in (List.mem_of_getElem? hi) hg
theorem lay_2 : ∀ w ∈ u_ws (rn 2) (tT 2) (nF 2), w ∈ TG := by
  have e : u_ws (rn 2) (tT 2) (nF 2) = ([157, 159, 161] : List Nat).filterMap (fun i => lw_tbl[i]?) := by decide +kernel
  have g : (u_ws (rn 2) (tT 2) (nF 2)).all goodWord = true := by decide +kernel
  intro w hw
  have hg := List.all_eq_true.mp g w hw
  rw [e] at hw
  obtain ⟨i, -, hi⟩ := List.mem_filterMap.mp hw
  exact tg_in (List.mem_of_getElem? hi) hg
theorem lay_3 : ∀ w ∈ u_ws (rn 3) (tT 3) (nF 3), w ∈ TG := by
  have e : u_ws (rn 3) (tT 3) (nF 3) = ([344, 346, 348, 350, 352, 354, 356, 358, 360, 362] : List Nat).filterMap (fun i => lw_tbl[i]?) := by decide +kernel
  have g : (u_ws (rn 3) (tT 3) (nF 3)).all goodWord = true := by decide +kernel
  intro w hw
  have hg := List.all_eq_true.mp g w hw
  rw [e] at hw
  obtain ⟨i, -, hi⟩ := List.mem_filterMap.mp hw
  exact tg_in (List.mem_of_getElem? hi) hg
theorem lay_4 : ∀ w ∈ u_ws (rn 4) (tT 4) (nF 4), w ∈ TG := by
  have e : u_ws (rn 4) (tT 4) (nF 4) = ([200, 202, 204, 206] : List Nat).filterMap (fun i => lw_tbl[i]?) := by decide +kernel
  have g : (u_ws (rn 4) (tT 4) (nF 4)).all goodWord = true := by decide +kernel
  intro w hw
  have hg := List.all_eq_true.mp g w hw
  rw [e] at hw
  obtain ⟨i, -, hi⟩ := List.mem_filterMap.mp hw
  exact tg_in (List.mem_of_getElem? hi) hg
theorem lay_5 : ∀ w ∈ u_ws (rn 5) (tT 5) (nF 5), w ∈ TG := by
  have e : u_ws (rn 5) (tT 5) (nF 5) = ([380, 382, 384] : List Nat).filterMap (fun i => lw_tbl[i]?) := by decide +kernel
  have g : (u_ws (rn 5) (tT 5) (nF 5)).all goodWord = true := by decide +kernel
  intro w hw
  have hg := List.all_eq_true.mp g w hw
  rw [e] at hw
  obtain ⟨i, -, hi⟩ := List.mem_filterMap.mp hw
  exact tg_in (List.mem_of_getElem? hi) hg
theorem lay_6 : ∀ w ∈ u_ws (rn 6) (tT 6) (nF 6), w ∈ TG := by
  have e : u_ws (rn 6) (tT 6) (nF 6) = ([133, 135] : List Nat).filterMap (fun i => lw_tbl[i]?) := by decide +kernel
  have g : (u_ws (rn 6) (tT 6) (nF 6)).all goodWord = true := by decide +kernel
  intro w hw
  have hg := List.all_eq_true.mp g w hw
  rw [e] at hw
  obtain ⟨i, -, hi⟩ := List.mem_filterMap.mp hw
  exact tg_in (List.mem_of_getElem? hi) hg
theorem lay_7 : ∀ w ∈ u_ws (rn 7) (tT 7) (nF 7), w ∈ TG := by
  have e : u_ws (rn 7) (tT 7) (nF 7) = ([305, 307, 309, 311, 313, 315, 317, 319, 321, 323, 325] : List Nat).filterMap (fun i => lw_tbl[i]?) := by decide +kernel
  have g : (u_ws (rn 7) (tT 7) (nF 7)).all goodWord = true := by decide +kernel
  intro w hw
  have hg := List.all_eq_true.mp g w hw
  rw [e] at hw
  obtain ⟨i, -, hi⟩ := List.mem_filterMap.mp hw
  exact tg_in (List.mem_of_getElem? hi) hg
theorem lay_8 : ∀ w ∈ u_ws (rn 8) (tT 8) (nF 8), w ∈ TG := by
  have e : u_ws (rn 8) (tT 8) (nF 8) = ([112, 114, 116] : List Nat).filterMap (fun i => lw_tbl[i]?) := by decide +kernel
  have g : (u_ws (rn 8) (tT 8) (nF 8)).all goodWord = true := by decide +kernel
  intro w hw
  have hg := List.all_eq_true.mp g w hw
  rw [e] at hw
  obtain ⟨i, -, hi⟩ := List.mem_filterMap.mp hw
  exact tg_in (List.mem_of_getElem? hi) hg
theorem lay_9 : ∀ w ∈ u_ws (rn 9) (tT 9) (nF 9), w ∈ TG := by
  have e : u_ws (rn 9) (tT 9) (nF 9) = ([275, 277, 279] : List Nat).filterMap (fun i => lw_tbl[i]?) := by decide +kernel
  have g : (u_ws (rn 9) (tT 9) (nF 9)).all goodWord = true := by decide +kernel
  intro w hw
  have hg := List.all_eq_true.mp g w hw
  rw [e] at hw
  obtain ⟨i, -, hi⟩ := List.mem_filterMap.mp hw
  exact tg_in (List.mem_of_getElem? hi) hg
theorem lay_10 : ∀ w ∈ u_ws (rn 10) (tT 10) (nF 10), w ∈ TG := by
  have e : u_ws (rn 10) (tT 10) (nF 10) = ([393, 395, 397, 399, 401, 403] : List Nat).filterMap (fun i => lw_tbl[i]?) := by decide +kernel
  have g : (u_ws (rn 10) (tT 10) (nF 10)).all goodWord = true := by decide +kernel
  intro w hw
  have hg := List.all_eq_true.mp g w hw
  rw [e] at hw
  obtain ⟨i, -, hi⟩ := List.mem_filterMap.mp hw
  exact tg_in (List.mem_of_getElem? hi) hg
theorem lay_11 : ∀ w ∈ u_ws (rn 11) (tT 11) (nF 11), w ∈ TG := by
  have e : u_ws (rn 11) (tT 11) (nF 11) = ([882, 884, 886, 888, 890, 892, 894, 896, 898, 900, 902, 904, 906, 908, 910, 912, 914, 916, 918, 920, 922, 924, 926, 928, 930, 932, 934, 936, 938] : List Nat).filterMap (fun i => lw_tbl[i]?) := by decide +kernel
  have g : (u_ws (rn 11) (tT 11) (nF 11)).all goodWord = true := by decide +kernel
  intro w hw
  have hg := List.all_eq_true.mp g w hw
  rw [e] at hw
  obtain ⟨i, -, hi⟩ := List.mem_filterMap.mp hw
  exact tg_in (List.mem_of_getElem? hi) hg
theorem layT : ∀ c, c < 12 → ∀ w ∈ u_ws (rn c) (tT c) (nF c), w ∈ TG := by
  intro c hc
  match c, hc with
  | 0, _ => exact lay_0
  | 1, _ => exact lay_1
  | 2, _ => exact lay_2
  | 3, _ => exact lay_3
  | 4, _ => exact lay_4
  | 5, _ => exact lay_5
  | 6, _ => exact lay_6
  | 7, _ => exact lay_7
  | 8, _ => exact lay_8
  | 9, _ => exact lay_9
  | 10, _ => exact lay_10
  | 11, _ => exact lay_11
theorem clsT : ∀ c, c < 12 → cls_[c]? = some (rn c, tT c, nF c) := by
  intro c hc
  match c, hc with
  | 0, _ => rfl
  | 1, _ => rfl
  | 2, _ => rfl
  | 3, _ => rfl
  | 4, _ => rfl
  | 5, _ => rfl
  | 6, _ => rfl
  | 7, _ => rfl
  | 8, _ => rfl
  | 9, _ => rfl
  | 10, _ => rfl
  | 11, _ => rfl
