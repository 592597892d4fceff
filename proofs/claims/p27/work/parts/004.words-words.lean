/-! the words that the tables of the Statement hold of the numbers in the pools -/
def lw_good : List Cond := lw_tbl.filter goodWord
theorem lw_good_in {w : Cond} (h : w ∈ lw_good) : w ∈ lw_tbl := (List.mem_filter.mp h).1
theorem lw_good_ok {w : Cond} (h : w ∈ lw_good) : goodWord w = true := (List.mem_filter.mp h).2
def m_cl (i : Nat) : vw_C := vwCl.getD i (RX0, TX0, 8)
def m_ty (i : Nat) : Nat → FieldType := [tyX0, tyX1, tyX2, tyX3, tyX4, tyX5, tyX6, tyX7, tyX8, tyX9, tyX10].getD i tyX0
def m_fd (c k : Nat) : String × String × String × Bool := (m_cl c).2.1 k
def m_host : String := "WayBoxes"
def m_sn (j : Nat) : String := if j = 1 then "BODIES" else "ABOVE"
def m_ps : List (Nat × Nat × Nat) := [(9, 244, 2)]
def m_psN : List (Nat × Nat × Nat) := [(7, 44, 1), (7, 47, 2)]
def m_nw : List Cond := m_pfN.map (fun e => .fieldLinkNest (m_cn e.1) e.2.1 (m_fd e.2.2.1 e.2.2.2).1 (m_fd e.2.2.1 e.2.2.2).2.1 (m_fd e.2.2.1 e.2.2.2).2.2.1 m_host)
  ++ m_psN.map (fun e => .fieldLinkNest (m_cn e.1) e.2.1 m_host (m_sn e.2.2) "[I" m_host)
  ++ m_pmSN.map (fun e => .methodLinkNest (m_cn e.1) e.2.1 (m_y e.2.2) m_host)
  ++ m_pmIN.map (fun e => .methodLinkNest (m_cn e.1) e.2.1 (m_y e.2.2) m_host)
def m_has (w : Cond) : Bool := decide (w ∈ lw_good)
theorem m_has_in {w : Cond} (h : m_has w = true) : w ∈ lw_good := of_decide_eq_true h
/-- a word by its place -/
def m_hi (i : Nat) (w : Cond) : Bool := decide (m_nth lw_tbl i = some w) && goodWord w
theorem m_hi_in {i : Nat} {w : Cond} (h : m_hi i w = true) : w ∈ lw_good := by
  simp only [m_hi, Bool.and_eq_true, decide_eq_true_eq] at h
  rw [m_nth_eq] at h
  exact List.mem_filter.mpr ⟨List.mem_of_getElem? h.1, h.2⟩
def m_pfi : List Nat := [152, 155, 157, 139, 142, 145, 148, 150, 135, 514, 518, 521, 524, 239, 240, 241, 243, 364, 370, 358, 360, 362, 367, 289, 290, 291, 292, 299, 295, 296, 297, 298, 294, 176, 180, 184, 188, 192, 198, 202, 179, 182, 186, 190, 194, 196, 200, 153, 516, 147, 359, 361, 363, 365, 368, 373, 356, 369, 371, 523, 517, 520, 526, 105, 107, 143, 109, 140, 110, 111, 273, 274, 275, 270, 271, 272, 515, 522, 519, 525, 322, 323, 325, 326, 178, 177, 183, 181, 357, 366, 374, 372, 187, 185, 146, 156, 149, 191, 189, 197, 195, 193, 154, 141, 158, 151, 201, 199, 300, 293, 203, 108, 106, 144, 324, 820, 821, 823, 824, 825, 826, 827, 834, 835, 843, 844, 845, 847, 848, 849, 850, 851, 852, 853, 854, 855, 858, 829, 830, 831, 828, 833, 832, 841, 836, 837, 838, 839, 840, 842, 846, 856, 857, 859, 861, 860, 862, 822]
def m_pmVi : List Nat := [486, 800, 540, 562, 570, 633, 634, 394, 401, 405, 413, 445, 461, 409, 417, 437, 421, 425, 429, 433, 441, 449, 453, 457, 709, 720, 713, 718, 719, 724, 729, 717, 753, 795, 801, 598, 610, 611, 612, 544, 548, 566, 574, 578, 558, 765, 773, 733, 737, 346, 469, 481, 495, 536, 585, 594, 606, 621, 625, 629, 657, 661, 669, 694, 698, 702, 749, 761, 790, 969, 997, 985, 973, 977, 989, 993, 1001, 981, 1010, 1006, 965, 1018, 1067, 1063, 1075, 1059, 1071, 1055, 1037, 1047, 1051, 1092, 1100, 1109, 1113, 1160, 1164, 1168, 1156, 1172, 1152, 1180, 1188, 1200, 1204, 1196, 1212, 1208, 1223, 1219, 338, 953, 342, 961, 465, 1014, 473, 1022, 477, 1029, 491, 1033, 579, 1079, 586, 1084, 590, 1088, 602, 1096, 613, 1104, 635, 1117, 639, 1121, 649, 1128, 653, 1132, 665, 1136, 676, 1140, 680, 1144, 684, 1148, 741, 1176, 745, 1184, 757, 1192, 777, 1227, 781, 1231, 786, 1235, 806, 1239, 810, 1243]
def m_pmSi : List Nat := [485, 490, 706, 398, 552, 499, 502, 584, 617, 643, 688, 505, 691, 957, 1026, 1044, 1041, 1125, 1216]
def m_pmIi : List Nat := [89, 255, 510, 81, 816]
def m_coi : List Nat := [127, 484, 798, 539, 628, 601, 133, 489, 672, 561, 573, 569, 632, 660, 664, 512, 237, 349, 464, 404, 416, 420, 424, 432, 448, 452, 456, 436, 412, 428, 408, 257, 697, 701, 705, 708, 723, 712, 716, 752, 756, 91, 793, 472, 498, 624, 597, 609, 354, 397, 440, 460, 551, 444, 543, 547, 565, 577, 554, 103, 804, 764, 768, 776, 268, 727, 732, 736, 740, 83, 341, 345, 468, 476, 480, 494, 582, 589, 593, 605, 616, 638, 642, 652, 656, 668, 679, 683, 687, 744, 748, 760, 780, 784, 789, 809, 813, 501, 504, 619, 507, 690, 693, 557, 818, 959, 1021, 1040, 1046, 1028, 1127, 956, 972, 992, 976, 1004, 1000, 996, 988, 984, 980, 1013, 1009, 968, 964, 1017, 1025, 1070, 1066, 1078, 1062, 1074, 1058, 1050, 1054, 1043, 1032, 1036, 1082, 1087, 1116, 1095, 1091, 1103, 1099, 1112, 1107, 1120, 1124, 1131, 1135, 1139, 1143, 1147, 1163, 1167, 1171, 1159, 1175, 1155, 1151, 1183, 1179, 1191, 1187, 1203, 1218, 1207, 1199, 1215, 1211, 1226, 1222, 1195, 1230, 1234, 1238, 1242, 1246, 645, 400, 0]
def m_ini : List Nat := [68, 68, 68, 68, 68, 68, 69, 69, 69, 69, 69, 69, 69, 69, 69, 76, 70, 70, 70, 70, 70, 70, 70, 70, 70, 70, 70, 70, 70, 70, 70, 71, 71, 71, 71, 71, 71, 71, 71, 71, 71, 66, 66, 66, 66, 66, 66, 66, 74, 74, 74, 74, 74, 74, 74, 74, 74, 74, 74, 67, 67, 67, 67, 67, 72, 72, 72, 72, 72, 65, 65, 65, 65, 65, 65, 65, 65, 65, 65, 65, 65, 65, 65, 65, 65, 65, 65, 65, 65, 65, 65, 65, 65, 65, 65, 65, 65, 65, 65, 65, 65, 65, 65, 65, 73, 73, 73, 73, 73, 73, 73, 73, 73, 73, 73, 73, 73, 73, 73, 73, 73, 73, 73, 73, 73, 73, 73, 73, 73, 73, 73, 73, 73, 73, 73, 73, 73, 73, 73, 73, 73, 73, 73, 73, 73, 73, 73, 73, 73, 73, 73, 73, 73, 73, 73, 73, 73, 73, 73, 73, 73, 73, 73, 73, 73, 73, 73, 73, 73, 73, 73, 73, 73, 73, 73, 73, 73, 73, 73, 77, 75, 64]
def m_imi : List Nat := [126, 482, 796, 537, 626, 599, 132, 487, 670, 559, 571, 567, 630, 658, 662, 511, 236, 347, 463, 403, 415, 419, 423, 431, 447, 451, 455, 435, 411, 427, 407, 256, 695, 699, 703, 0, 722, 711, 715, 750, 755, 90, 791, 470, 496, 622, 595, 607, 353, 395, 438, 458, 549, 442, 541, 546, 563, 576, 0, 102, 802, 762, 767, 775, 267, 725, 730, 735, 739, 82, 339, 343, 466, 474, 478, 492, 580, 587, 591, 603, 614, 636, 640, 650, 654, 666, 677, 681, 685, 742, 746, 758, 778, 782, 787, 807, 811, 0, 0, 0, 0, 0, 0, 0, 817, 0, 1020, 1039, 0, 0, 0, 954, 971, 991, 975, 1003, 999, 995, 987, 983, 979, 1012, 1008, 967, 962, 1015, 1023, 1069, 1065, 1077, 1061, 1073, 1057, 1049, 1053, 0, 1030, 1034, 1080, 1085, 1115, 1094, 1089, 1102, 1097, 1111, 1105, 1118, 1122, 1129, 1133, 1137, 1141, 1145, 1162, 1166, 1170, 1158, 1174, 1154, 1149, 1182, 1177, 1190, 1185, 1202, 0, 1206, 1198, 1214, 1210, 1225, 1221, 1193, 1228, 1232, 1236, 1240, 1244, 0, 0, 0]
def m_sei : List Nat := [0, 483, 797, 538, 627, 600, 0, 488, 671, 560, 572, 568, 631, 659, 663, 0, 0, 348, 12, 0, 3, 4, 5, 7, 9, 10, 11, 8, 2, 6, 1, 0, 696, 700, 704, 0, 17, 15, 16, 751, 20, 0, 792, 471, 497, 623, 596, 608, 0, 396, 439, 459, 550, 443, 542, 13, 564, 14, 0, 0, 803, 763, 21, 22, 0, 726, 731, 18, 19, 0, 340, 344, 467, 475, 479, 493, 581, 588, 592, 604, 615, 637, 641, 651, 655, 667, 678, 682, 686, 743, 747, 759, 779, 783, 788, 808, 812, 0, 0, 0, 0, 0, 0, 0, 0, 0, 35, 36, 0, 0, 0, 955, 24, 29, 25, 32, 31, 30, 28, 27, 26, 34, 33, 23, 963, 1016, 1024, 42, 41, 44, 40, 43, 39, 37, 38, 0, 1031, 1035, 1081, 1086, 48, 45, 1090, 46, 1098, 47, 1106, 1119, 1123, 1130, 1134, 1138, 1142, 1146, 51, 52, 53, 50, 54, 49, 1150, 55, 1178, 56, 1186, 58, 0, 59, 57, 61, 60, 63, 62, 1194, 1229, 1233, 1237, 1241, 1245, 0, 0, 0]
def m_sti : List Nat := [0, 0, 0, 0, 0, 0, 0, 0, 0, 0, 0, 0, 0, 0, 0, 0, 0, 0, 0, 0, 0, 0, 0, 0, 0, 0, 0, 0, 0, 0, 0, 0, 0, 0, 0, 707, 0, 0, 0, 0, 0, 0, 0, 0, 0, 0, 0, 0, 0, 0, 0, 0, 0, 0, 0, 0, 0, 0, 553, 0, 0, 0, 0, 0, 0, 0, 0, 0, 0, 0, 0, 0, 0, 0, 0, 0, 0, 0, 0, 0, 0, 0, 0, 0, 0, 0, 0, 0, 0, 0, 0, 0, 0, 0, 0, 0, 0, 500, 503, 618, 506, 689, 692, 556, 0, 958, 0, 0, 1045, 1027, 1126, 0, 0, 0, 0, 0, 0, 0, 0, 0, 0, 0, 0, 0, 0, 0, 0, 0, 0, 0, 0, 0, 0, 0, 0, 1042, 0, 0, 0, 0, 0, 0, 0, 0, 0, 0, 0, 0, 0, 0, 0, 0, 0, 0, 0, 0, 0, 0, 0, 0, 0, 0, 0, 0, 0, 0, 1217, 0, 0, 0, 0, 0, 0, 0, 0, 0, 0, 0, 0, 644, 399, 0]
def m_lyi : List (List Nat) := [[159, 161, 163, 165, 167, 169, 171, 173], [136], [527, 529, 531, 533], [244, 246, 248, 250], [301, 303, 305, 307, 309, 311, 313, 315, 317, 319], [204, 206, 208, 210, 212, 214, 216, 218, 220, 222, 224, 226, 228, 230], [375, 377, 379, 381, 383, 385, 387, 389, 391], [112, 114, 116, 118, 120], [276, 278, 280, 282, 284, 286], [327, 329, 331, 333, 335], [863, 865, 867, 869, 871, 873, 875, 877, 879, 881, 883, 885, 887, 889, 891, 893, 895, 897, 899, 901, 903, 905, 907, 909, 911, 913, 915, 917, 919, 921, 923, 925, 927, 929, 931, 933, 935, 937, 939, 941, 943, 945, 947, 949]]
def m_pci : List Nat := [129, 350, 259, 261, 263, 93, 95, 97, 99, 87, 233, 253, 508, 79, 814]
def m_cii : List Nat := [68, 69, 76, 70, 71, 66, 74, 67, 72, 65, 73]
def m_cni : List Nat := [124, 130, 509, 234, 254, 88, 351, 100, 265, 80, 815]
set_option maxRecDepth 100000 in
theorem m_nw_ok : m_nw.all (fun w => decide (w ∈ lw_tbl)) = true := by decide +kernel
set_option maxRecDepth 100000 in
theorem m_pf_ok : (m_pf.zip m_pfi).all (fun (e, i) => m_hi i (.fieldLink (m_cn e.1) e.2.1 (m_fd e.2.2.1 e.2.2.2).1 (m_fd e.2.2.1 e.2.2.2).2.1 (m_fd e.2.2.1 e.2.2.2).2.2.1) && (decide (e.2.2.1 < 11) && decide (e.2.2.2 < (m_cl e.2.2.1).2.2))) = true := by decide +kernel
theorem m_pf_ln : m_pf.length = m_pfi.length := by decide +kernel
set_option maxRecDepth 100000 in
theorem m_pfN_ok : m_pfN.all (fun e => decide (e.2.2.1 < 11) && decide (e.2.2.2 < (m_cl e.2.2.1).2.2)) = true := by decide +kernel
set_option maxRecDepth 100000 in
theorem m_ps_ok : m_ps.all (fun e => m_has (.fieldLink (m_cn e.1) e.2.1 m_host (m_sn e.2.2) "[I")) = true := by decide +kernel
/-- a called method: its code, its class, its arguments -/
def m_calls (i : Nat) : Bool := (m_hi (m_ini.getD i 0) (.initialized (m_y i).cls) && (decide ((m_y i).cls = m_cn (m_oc i)) && (decide ((parseMethodDescriptor (m_y i).desc).map (fun d => d.parameters.length) = some (m_na i)) && (decide (m_nl i ≤ 40) && plainName (m_y i).cls)))) && decide (i < 182 ∧ ¬ i = 181)
def m_callV (i : Nat) : Bool := m_hi (m_imi.getD i 0) (.instanceMethod (m_y i)) && (m_hi (m_sei.getD i 0) (.selects (m_cn (m_oc i)) (m_y i) (m_y i)) && (m_calls i && decide (m_oc i < 11)))
def m_callS (i : Nat) : Bool := m_hi (m_sti.getD i 0) (.static (m_y i)) && m_calls i
def m_inits (i : Nat) : Bool := m_hi (m_imi.getD i 0) (.instanceMethod (m_y i)) && (decide ((m_y i).name = "<init>") && (m_calls i && decide (m_rt i = none)))
set_option maxRecDepth 100000 in
theorem m_po_ok : m_po.all (fun e => m_has (.methodLink (m_cn e.1) e.2 objectInit) && (m_has (.instanceMethod objectInit) && m_has (.code objectInit ⟨#[0xb1]⟩ 1 none))) = true := by decide +kernel
set_option maxRecDepth 100000 in
theorem m_pa_ok : m_pa.all (fun e => m_has (.methodLink (m_cn e.1) e.2 arraycopyName) && (m_has (.native arraycopyName) && (m_has (.static arraycopyName) && m_has (.initialized "java/lang/System")))) = true := by decide +kernel
set_option maxRecDepth 100000 in
theorem m_pc_ok : (m_pc.zip m_pci).all (fun (e, i) => m_hi i (.classLink (m_cn e.1) e.2.1 (m_cl e.2.2).1) && (m_hi (m_cni.getD e.2.2 0) (.instantiable (m_cl e.2.2).1 (m_cl e.2.2).2.2) && (m_hi (m_cii.getD e.2.2 0) (.initialized (m_cl e.2.2).1) && decide (e.2.2 < 11)))) = true := by decide +kernel
set_option maxRecDepth 100000 in
theorem m_pk_ok : m_pk.all (fun e => m_has (.constant (m_cn e.1) e.2.1 (Int32.ofInt e.2.2))) = true := by decide +kernel
set_option maxRecDepth 100000 in
theorem m_pl_ok : m_pl.all (fun e => m_has (.constantLong (m_cn e.1) e.2.1 (Int64.ofInt e.2.2))) = true := by decide +kernel
set_option maxRecDepth 100000 in
theorem m_arr_ok : m_has (.arrayClass .int) = true ∧ m_has (.arrayClass .boolean) = true := by decide +kernel
def m_ao : List String := ["WayBoxes$Text", "WayBoxes$Box", "WayBoxes$Packet", "WayBoxes$Memory", "WayBoxes$Watch"]
set_option maxRecDepth 100000 in
theorem m_ao_ok : m_ao.all (fun C => decide (Cond.arrayOver (.object C) ∈ lw_tbl)) = true := by decide +kernel
/-- a class: its fields are laid as the tables say -/
theorem m_pc_ln : m_pc.length = m_pci.length := by decide +kernel
def m_lays (i : Nat) : Bool := decide ((u_ws (m_cl i).1 (m_cl i).2.1 (m_cl i).2.2).length = (m_lyi.getD i []).length) && ((u_ws (m_cl i).1 (m_cl i).2.1 (m_cl i).2.2).zip (m_lyi.getD i [])).all (fun (w, k) => m_hi k w)
set_option maxRecDepth 100000 in
theorem m_lays_ok : (List.range 11).all m_lays = true := by decide +kernel
theorem m_cl_at {i : Nat} (h : i < 11) : vwCl[i]? = some ((m_cl i).1, (m_cl i).2.1, (m_cl i).2.2) := by
  have : i = 0 ∨ i = 1 ∨ i = 2 ∨ i = 3 ∨ i = 4 ∨ i = 5 ∨ i = 6 ∨ i = 7 ∨ i = 8 ∨ i = 9 ∨ i = 10 := by omega
  rcases this with rfl | rfl | rfl | rfl | rfl | rfl | rfl | rfl | rfl | rfl | rfl <;> rfl
theorem m_ty_ok {i : Nat} (h : i < 11) : ∀ k, k < (m_cl i).2.2 → parseFieldDescriptor ((m_cl i).2.1 k).2.2.1 = some (m_ty i k) := by
  have : i = 0 ∨ i = 1 ∨ i = 2 ∨ i = 3 ∨ i = 4 ∨ i = 5 ∨ i = 6 ∨ i = 7 ∨ i = 8 ∨ i = 9 ∨ i = 10 := by omega
  rcases this with rfl | rfl | rfl | rfl | rfl | rfl | rfl | rfl | rfl | rfl | rfl
  · exact tyX0_ok
  · exact tyX1_ok
  · exact tyX2_ok
  · exact tyX3_ok
  · exact tyX4_ok
  · exact tyX5_ok
  · exact tyX6_ok
  · exact tyX7_ok
  · exact tyX8_ok
  · exact tyX9_ok
  · exact tyX10_ok
theorem m_nm_ok {i : Nat} (h : i < 11) : ∀ a, a < (m_cl i).2.2 → ∀ b, b < (m_cl i).2.2 → a ≠ b → ((m_cl i).2.1 a).2.1 ≠ ((m_cl i).2.1 b).2.1 := by
  have : i = 0 ∨ i = 1 ∨ i = 2 ∨ i = 3 ∨ i = 4 ∨ i = 5 ∨ i = 6 ∨ i = 7 ∨ i = 8 ∨ i = 9 ∨ i = 10 := by omega
  rcases this with rfl | rfl | rfl | rfl | rfl | rfl | rfl | rfl | rfl | rfl | rfl
  · exact nmX0
  · exact nmX1
  · exact nmX2
  · exact nmX3
  · exact nmX4
  · exact nmX5
  · exact nmX6
  · exact nmX7
  · exact nmX8
  · exact nmX9
  · exact nmX10
/-- a list's elements beside their places -/
theorem m_zip {α : Type} {l : List α} {is : List Nat} {f : α × Nat → Bool} (hl : l.length = is.length) (h : (l.zip is).all f = true) {x : α} (hx : x ∈ l) : ∃ i, f (x, i) = true := by
  obtain ⟨k, hk⟩ := List.getElem?_of_mem hx
  have h1 : k < is.length := hl ▸ (List.getElem?_eq_some_iff.mp hk).1
  refine ⟨is[k], List.all_eq_true.mp h _ (List.mem_of_getElem? (i := k) ?_)⟩
  rw [List.getElem?_zip_eq_some]
  exact ⟨hk, List.getElem?_eq_getElem h1⟩
theorem m_in_ok {i : Nat} (h : i < 11) : ∀ w ∈ u_ws (m_cl i).1 (m_cl i).2.1 (m_cl i).2.2, w ∈ lw_good := by
  intro w hw
  have h1 := List.all_eq_true.mp m_lays_ok i (List.mem_range.mpr h)
  simp only [m_lays, Bool.and_eq_true, decide_eq_true_eq] at h1
  obtain ⟨k, hk⟩ := m_zip h1.1 h1.2 hw
  exact m_hi_in hk
