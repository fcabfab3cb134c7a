def ax_G : List Cond := lw_tbl.filter goodWord
def ax_isN : Cond → Bool
  | .fieldLinkNest _ _ _ _ _ _ => true
  | .methodLinkNest _ _ _ _ => true
  | _ => false
def ax_N : List Cond := lw_tbl.filter ax_isN
theorem ax_inG {w : Cond} (h : w ∈ tables_1) (hg : goodWord w = true) : w ∈ ax_G := List.mem_filter.mpr ⟨List.mem_append_right _ h, hg⟩
theorem ax_inN {w : Cond} (h : w ∈ tables_1) (hg : ax_isN w = true) : w ∈ ax_N := List.mem_filter.mpr ⟨List.mem_append_right _ h, hg⟩
theorem ax_in1 {w : Cond} (i : Nat) (h : tables_1_1[i]? = some w) : w ∈ tables_1 := List.mem_append_left _ (List.mem_of_getElem? h)
theorem ax_in2 {w : Cond} (i : Nat) (h : tables_1_2[i]? = some w) : w ∈ tables_1 := List.mem_append_right _ (List.mem_append_left _ (List.mem_of_getElem? h))
theorem ax_in3 {w : Cond} (i : Nat) (h : tables_1_3[i]? = some w) : w ∈ tables_1 := List.mem_append_right _ (List.mem_append_right _ (List.mem_append_left _ (List.mem_of_getElem? h)))
theorem ax_in4 {w : Cond} (i : Nat) (h : tables_1_4[i]? = some w) : w ∈ tables_1 := List.mem_append_right _ (List.mem_append_right _ (List.mem_append_right _ (List.mem_append_left _ (List.mem_of_getElem? h))))
theorem ax_in5 {w : Cond} (i : Nat) (h : tables_1_5[i]? = some w) : w ∈ tables_1 := List.mem_append_right _ (List.mem_append_right _ (List.mem_append_right _ (List.mem_append_right _ (List.mem_append_left _ (List.mem_of_getElem? h)))))
theorem ax_in6 {w : Cond} (i : Nat) (h : tables_1_6[i]? = some w) : w ∈ tables_1 := List.mem_append_right _ (List.mem_append_right _ (List.mem_append_right _ (List.mem_append_right _ (List.mem_append_right _ (List.mem_of_getElem? h)))))
def ax_isW (i : Nat) (w : Cond) : Bool := decide (tables_1[i]? = some w)
theorem ax_isW_mem {i : Nat} {w : Cond} (h : ax_isW i w = true) : w ∈ tables_1 := List.mem_of_getElem? (of_decide_eq_true h)
def ax_cn (c : Nat) : String := ax_cns.getD c ""
def ax_TT (ci : Nat) : u_T := (vwCl.getD ci (RX0, TX0, 7)).2.1
def ax_NN (ci : Nat) : Nat := (vwCl.getD ci (RX0, TX0, 7)).2.2
def ax_fd (ci j : Nat) : String × String × String × Bool := if ci = 12 then (if j = 0 then ("java/lang/String", "value", "[B", true) else ("java/lang/String", "coder", "B", true)) else ax_TT ci j
def ax_fw (q : Nat × Nat × Nat × Nat × Bool × Nat) : Cond := if q.2.2.2.2.1 then .fieldLinkNest (ax_cn q.1) q.2.1 (ax_fd q.2.2.1 q.2.2.2.1).1 (ax_fd q.2.2.1 q.2.2.2.1).2.1 (ax_fd q.2.2.1 q.2.2.2.1).2.2.1 "DinnerPleas" else .fieldLink (ax_cn q.1) q.2.1 (ax_fd q.2.2.1 q.2.2.2.1).1 (ax_fd q.2.2.1 q.2.2.2.1).2.1 (ax_fd q.2.2.1 q.2.2.2.1).2.2.1
def ax_mn (z : Nat) : MethodName := if z = 900 then objectInit else if z = 901 then arraycopyName else if z = 902 then Lib.Math.max.name else if z = 903 then Lib.Math.min.name else if z = 904 then Lib.Math.abs.name else ax_nm z
def ax_mw (q : Nat × Nat × Nat × Bool × Nat) : Cond := if q.2.2.2.1 then .methodLinkNest (ax_cn q.1) q.2.1 (ax_mn q.2.2.1) "DinnerPleas" else .methodLink (ax_cn q.1) q.2.1 (ax_mn q.2.2.1)
def ax_sw (q : Nat × Nat × Value × String × String × String × Bool × Nat) : Cond := if q.2.2.2.2.2.2.1 then .fieldLinkNest (ax_cn q.1) q.2.1 q.2.2.2.1 q.2.2.2.2.1 q.2.2.2.2.2.1 "DinnerPleas" else .fieldLink (ax_cn q.1) q.2.1 q.2.2.2.1 q.2.2.2.2.1 q.2.2.2.2.2.1
theorem ax_fw_ok : ∀ q ∈ ax_flds, ax_isW q.2.2.2.2.2 (ax_fw q) = true ∧ (q.2.2.1 = 12 ∨ (q.2.2.1 < 11 ∧ q.2.2.2.1 < ax_NN q.2.2.1)) := by decide +kernel
theorem ax_mw_ok : ∀ q ∈ ax_mths, ax_isW q.2.2.2.2 (ax_mw q) = true := by decide +kernel
theorem ax_sw_ok : ∀ q ∈ ax_stas, ax_isW q.2.2.2.2.2.2.2 (ax_sw q) = true := by decide +kernel
theorem ax_ci_ok : ∀ q ∈ ax_csis, ax_isW q.2.2.2 (.constant (ax_cn q.1) q.2.1 q.2.2.1) = true := by decide +kernel
theorem ax_cl_ok : ∀ q ∈ ax_csls, ax_isW q.2.2.2 (.constantLong (ax_cn q.1) q.2.1 q.2.2.1) = true := by decide +kernel
theorem ax_nw_ok : ∀ q ∈ ax_clss, ax_isW q.2.2.2 (.classLink (ax_cn q.1) q.2.1 (ax_cn q.2.2.1)) = true ∧ q.2.2.1 < 11 := by decide +kernel
def ax_insi : List Nat := [28, 138, 94, 197, 181, 111, 34, 218, 158, 20, 925]
def ax_inii : List Nat := [2, 7, 5, 10, 9, 6, 3, 11, 8, 1, 12, 0, 13, 14, 18, 4, 15]
theorem ax_ins_ok : ∀ ci, ci < 11 → ax_isW (ax_insi.getD ci 0) (.instantiable (ax_cn ci) (ax_NN ci)) = true := by decide +kernel
theorem ax_ini_ok : ∀ c, c < 17 → ax_isW (ax_inii.getD c 0) (.initialized (ax_cn c)) = true := by decide +kernel
theorem ax_vw : ∀ ci, ci < 11 → (vwCl[ci]? = some (ax_cn ci, ax_TT ci, ax_NN ci)) := by
  intro ci h
  match ci, h with
  | 0, _ => rfl
  | 1, _ => rfl
  | 2, _ => rfl
  | 3, _ => rfl
  | 4, _ => rfl
  | 5, _ => rfl
  | 6, _ => rfl
  | 7, _ => rfl
  | 8, _ => rfl
  | 9, _ => rfl
  | 10, _ => rfl
def ax_lays : List (List Nat) := [[78, 80, 82, 84, 86, 88, 90], [148, 150, 152, 154], [103, 105], [208, 210, 212, 214], [189, 191, 193], [124, 126, 128, 130, 132, 134], [46, 48, 50, 52], [225, 227], [171, 173, 175, 177], [265, 267, 269, 271, 273, 275, 277, 279, 281, 283, 285, 287, 289, 291, 293, 295], [964, 966, 968, 970, 972, 974, 976, 978, 980, 982, 984, 986, 988, 990, 992, 994, 996, 998, 1000, 1002, 1004, 1006, 1008, 1010, 1012, 1014, 1016, 1018, 1020, 1022, 1024]]
theorem ax_lay_ok : ∀ ci, ci < 11 → ∀ j, j < ax_NN ci → ax_isW ((ax_lays.getD ci []).getD j 0) (u_lay (ax_cn ci) (ax_TT ci) j) = true := by decide +kernel
theorem ax_fty_ok : ∀ ci, ci < 11 → ∀ j, j < ax_NN ci → parseFieldDescriptor (ax_TT ci j).2.2.1 = some (ax_fty ci j) ∧ (ax_TT ci j).2.2.2 = ax_fin ci j ∧ (ax_TT ci j).1 = ax_cn ci := by decide +kernel
theorem ax_fnm_ok : ∀ ci, ci < 11 → ∀ a, a < ax_NN ci → ∀ b, b < ax_NN ci → a ≠ b → (ax_TT ci a).2.1 ≠ (ax_TT ci b).2.1 := by decide +kernel
theorem ax_new_ok : ∀ ci, ci < 11 → ∀ j, j < ax_NN ci → defaultValue (ax_fty ci j) = vp_V (ax_news.getD ci []) j ∧ (ax_news.getD ci []).length = ax_NN ci := by decide +kernel
theorem ax_newl_ok : ∀ ci, ci < 11 → (ax_news.getD ci []).length = ax_NN ci ∧ ax_NN ci ≤ 400 ∧ ∀ v ∈ ax_news.getD ci [], (v = .null ∨ v = .int 0 ∨ v = .long 0) := by decide +kernel
def ax_mks : List (Nat × Nat × Nat) := [(30, 0, 0), (231, 1, 232), (458, 1, 459), (474, 1, 475), (567, 1, 568), (483, 1, 484), (513, 1, 514), (521, 1, 522), (495, 1, 496), (491, 1, 492), (517, 1, 518), (508, 1, 509), (537, 1, 538), (747, 1, 748), (140, 0, 0), (592, 1, 593), (771, 1, 772), (603, 1, 604), (735, 1, 736), (715, 1, 716), (730, 1, 731), (852, 1, 853), (720, 2, 16), (96, 0, 0), (884, 1, 885), (875, 1, 876), (888, 1, 889), (199, 0, 0), (699, 1, 700), (703, 1, 704), (707, 1, 708), (674, 1, 675), (683, 2, 14), (690, 2, 15), (183, 0, 0), (657, 1, 658), (666, 1, 667), (630, 1, 631), (654, 2, 13), (639, 2, 10), (650, 2, 12), (645, 2, 11), (113, 0, 0), (355, 1, 356), (369, 2, 2), (426, 2, 4), (443, 2, 6), (450, 2, 7), (434, 2, 5), (374, 2, 3), (361, 2, 1), (365, 0, 0), (36, 0, 0), (310, 1, 311), (334, 1, 335), (246, 1, 247), (242, 1, 243), (235, 1, 236), (462, 1, 463), (914, 1, 915), (918, 1, 919), (220, 0, 0), (763, 1, 764), (793, 1, 794), (789, 1, 790), (775, 1, 776), (805, 1, 806), (780, 2, 18), (785, 2, 19), (160, 0, 0), (814, 1, 815), (619, 1, 620), (611, 1, 612), (579, 1, 580), (801, 1, 802), (767, 1, 768), (822, 1, 823), (828, 2, 20), (584, 2, 8), (599, 2, 9), (22, 0, 0), (299, 1, 300), (314, 1, 315), (327, 1, 328), (338, 1, 339), (342, 1, 343), (346, 1, 347), (351, 1, 352), (470, 1, 471), (533, 1, 534), (541, 1, 542), (548, 1, 549), (552, 1, 553), (556, 1, 557), (563, 1, 564), (571, 1, 572), (575, 1, 576), (615, 1, 616), (626, 1, 627), (662, 1, 663), (670, 1, 671), (711, 1, 712), (726, 1, 727), (740, 1, 741), (751, 1, 752), (755, 1, 756), (797, 1, 798), (810, 1, 811), (818, 1, 819), (847, 1, 848), (863, 1, 864), (867, 1, 868), (880, 1, 881), (892, 1, 893), (896, 1, 897), (905, 1, 906), (307, 2, 0), (901, 2, 23), (872, 2, 22), (760, 2, 17), (841, 2, 21), (303, 0, 0), (480, 0, 0), (331, 0, 0), (744, 0, 0), (318, 0, 0), (560, 0, 0), (525, 0, 0), (530, 0, 0), (499, 0, 0), (488, 0, 0), (910, 0, 0), (835, 0, 0), (844, 0, 0), (927, 0, 0), (1034, 0, 0), (1038, 2, 24), (1110, 2, 34), (1056, 2, 26), (931, 0, 0), (1042, 2, 25), (1079, 2, 27), (1082, 0, 0), (1050, 0, 0), (1106, 2, 33), (1029, 1, 1030), (1059, 0, 0), (1045, 1, 1046), (1062, 1, 1063), (1068, 1, 1069), (1090, 2, 29), (1086, 2, 28), (1130, 2, 39), (1126, 2, 38), (1122, 2, 37), (1118, 2, 36), (1114, 2, 35), (1098, 2, 31), (1102, 2, 32), (1094, 2, 30), (1154, 0, 0), (1074, 1, 1075), (1133, 1, 1134), (1137, 1, 1138), (1142, 1, 1143), (1146, 1, 1147), (1150, 1, 1151), (1157, 1, 1158), (1161, 1, 1162), (1174, 2, 41), (1170, 2, 40), (1165, 1, 1166), (1177, 1, 1178), (1190, 2, 43), (1195, 2, 44), (1199, 2, 45), (1186, 2, 42), (1181, 1, 1182), (1202, 1, 1203), (1215, 2, 47), (1219, 2, 48), (1211, 2, 46), (1206, 1, 1207), (1227, 2, 49), (1222, 1, 1223), (1230, 1, 1231), (1235, 1, 1236), (1239, 1, 1240), (1252, 2, 51), (1248, 2, 50), (1256, 2, 52), (1243, 1, 1244), (1259, 1, 1260), (1263, 1, 1264), (1273, 2, 53), (1267, 1, 1268), (1276, 1, 1277), (1286, 1, 1287), (1291, 1, 1292), (1303, 0, 0), (1308, 0, 0), (1300, 2, 54), (1322, 2, 57), (1318, 2, 56), (1326, 2, 58), (1314, 2, 55), (1334, 2, 60), (1338, 2, 61), (1330, 2, 59), (1295, 1, 1296), (1341, 1, 1342), (1345, 1, 1346), (1349, 1, 1350), (1353, 1, 1354), (1362, 2, 62), (1357, 1, 1358), (1372, 2, 63), (1365, 1, 1366), (502, 0, 0), (377, 1, 378), (387, 1, 388), (381, 1, 382), (391, 1, 392), (398, 0, 0), (395, 0, 0), (403, 0, 0)]
def ax_kw (z : Nat) : Cond := if ax_sc z then .static (ax_nm z) else .instanceMethod (ax_nm z)
theorem ax_mk1 : ∀ z, z < 226 → ax_isW (ax_mks.getD z (0, 0, 0)).1 (ax_kw z) = true := by decide +kernel
theorem ax_mk2 : ∀ z, z < 226 → (ax_nm z).cls = ax_cn (ax_cl z) ∧ ax_cl z < 17 ∧ ax_ml z ≤ 40 := by decide +kernel
theorem ax_mk3 : ∀ z, z < 226 → (parseMethodDescriptor (ax_nm z).desc).map (fun d => d.parameters.length) = some (ax_np z) := by decide +kernel
theorem ax_mk4 : ∀ z, z < 226 → _root_.Jvm.plainName (ax_nm z).cls = true := by decide +kernel
def ax_mkS (z : Nat) : Bool := match ax_mks.getD z (0, 0, 0) with
  | (_, b, e) => (if b = 0 then (ax_sc z || ax_ini z) else if b = 1 then ax_isW e (.selects (ax_nm z).cls (ax_nm z) (ax_nm z)) else decide ((k2_sels lw_privs)[e]? = some (Cond.selects (ax_nm z).cls (ax_nm z) (ax_nm z))))
theorem ax_mk5 : ∀ z, z < 226 → ax_mkS z = true := by decide +kernel
theorem ax_k0 : Cond.code yX0_init cX0_init 1 none ∈ tables_1 := ax_in1 31 rfl
theorem ax_k1 : Cond.code yX0_startAnew cX0_startAnew 3 none ∈ tables_1 := ax_in1 233 rfl
theorem ax_k2 : Cond.code yX0_takeFrom cX0_takeFrom 2 none ∈ tables_1 := ax_in2 220 rfl
theorem ax_k3 : Cond.code yX0_hasDish cX0_hasDish 2 (some .boolean) ∈ tables_1 := ax_in2 236 rfl
theorem ax_k4 : Cond.code yX0_isOnMenu cX0_isOnMenu 3 (some .boolean) ∈ tables_1 := ax_in3 89 rfl
theorem ax_k5 : Cond.code yX0_servedSet cX0_servedSet 3 (some .int) ∈ tables_1 := ax_in3 5 rfl
theorem ax_k6 : Cond.code yX0_lastDish cX0_lastDish 2 (some .int) ∈ tables_1 := ax_in3 35 rfl
theorem ax_k7 : Cond.code yX0_hungerBehind cX0_hungerBehind 2 (some .int) ∈ tables_1 := ax_in3 43 rfl
theorem ax_k8 : Cond.code yX0_isFree cX0_isFree 3 (some .boolean) ∈ tables_1 := ax_in3 17 rfl
theorem ax_k9 : Cond.code yX0_mayServe cX0_mayServe 5 (some .boolean) ∈ tables_1 := ax_in3 13 rfl
theorem ax_k10 : Cond.code yX0_does cX0_does 12 (some .int) ∈ tables_1 := ax_in3 39 rfl
theorem ax_k11 : Cond.code yX0_addCourse cX0_addCourse 5 (some .int) ∈ tables_1 := ax_in3 30 rfl
theorem ax_k12 : Cond.code yX0_dropCourse cX0_dropCourse 2 none ∈ tables_1 := ax_in3 59 rfl
theorem ax_k13 : Cond.code yX0_addReading cX0_addReading 5 (some .boolean) ∈ tables_1 := ax_in4 29 rfl
theorem ax_k14 : Cond.code yX1_init cX1_init 2 none ∈ tables_1 := ax_in1 141 rfl
theorem ax_k15 : Cond.code yX1_beginNow cX1_beginNow 1 none ∈ tables_1 := ax_in3 114 rfl
theorem ax_k16 : Cond.code yX1_beginFromNothing cX1_beginFromNothing 1 none ∈ tables_1 := ax_in4 53 rfl
theorem ax_k17 : Cond.code yX1_serveBy cX1_serveBy 4 (some .int) ∈ tables_1 := ax_in3 125 rfl
theorem ax_k18 : Cond.code yX1_verdictNow cX1_verdictNow 1 (some .int) ∈ tables_1 := ax_in4 17 rfl
theorem ax_k19 : Cond.code yX1_cancels cX1_cancels 3 (some .boolean) ∈ tables_1 := ax_in3 237 rfl
theorem ax_k20 : Cond.code yX1_overturns cX1_overturns 4 (some .boolean) ∈ tables_1 := ax_in4 12 rfl
theorem ax_k21 : Cond.code yX1_dineBy cX1_dineBy 6 (some .long) ∈ tables_1 := ax_in4 134 rfl
theorem ax_k22 : Cond.code yX1_staysBehind cX1_staysBehind 4 (some .boolean) ∈ tables_1 := ax_in4 1 rfl
theorem ax_k23 : Cond.code yX2_init cX2_init 1 none ∈ tables_1 := ax_in1 97 rfl
theorem ax_k24 : Cond.code yX2_isKept cX2_isKept 1 (some .boolean) ∈ tables_1 := ax_in4 166 rfl
theorem ax_k25 : Cond.code yX2_keep cX2_keep 2 none ∈ tables_1 := ax_in4 157 rfl
theorem ax_k26 : Cond.code yX2_giveTo cX2_giveTo 2 none ∈ tables_1 := ax_in4 170 rfl
theorem ax_k27 : Cond.code yX3_init cX3_init 2 none ∈ tables_1 := ax_in1 200 rfl
theorem ax_k28 : Cond.code yX3_spent cX3_spent 1 (some .int) ∈ tables_1 := ax_in3 221 rfl
theorem ax_k29 : Cond.code yX3_many cX3_many 1 (some .int) ∈ tables_1 := ax_in3 225 rfl
theorem ax_k30 : Cond.code yX3_dishAt cX3_dishAt 2 (some .int) ∈ tables_1 := ax_in3 229 rfl
theorem ax_k31 : Cond.code yX3_seek cX3_seek 2 none ∈ tables_1 := ax_in3 196 rfl
theorem ax_k32 : Cond.code yX3_tryBehind cX3_tryBehind 10 none ∈ tables_1 := ax_in3 204 rfl
theorem ax_k33 : Cond.code yX3_isBetter cX3_isBetter 3 (some .boolean) ∈ tables_1 := ax_in3 211 rfl
theorem ax_k34 : Cond.code yX4_init cX4_init 2 none ∈ tables_1 := ax_in1 184 rfl
theorem ax_k35 : Cond.code yX4_gain cX4_gain 1 (some .int) ∈ tables_1 := ax_in3 179 rfl
theorem ax_k36 : Cond.code yX4_opening cX4_opening 1 (some .int) ∈ tables_1 := ax_in3 188 rfl
theorem ax_k37 : Cond.code yX4_solve cX4_solve 6 none ∈ tables_1 := ax_in3 152 rfl
theorem ax_k38 : Cond.code yX4_takeIfBetter cX4_takeIfBetter 3 none ∈ tables_1 := ax_in3 175 rfl
theorem ax_k39 : Cond.code yX4_ifServed cX4_ifServed 9 (some .int) ∈ tables_1 := ax_in3 160 rfl
theorem ax_k40 : Cond.code yX4_ifNone cX4_ifNone 7 (some .int) ∈ tables_1 := ax_in3 171 rfl
theorem ax_k41 : Cond.code yX4_gains cX4_gains 9 (some .int) ∈ tables_1 := ax_in3 166 rfl
theorem ax_k42 : Cond.code yX5_init cX5_init 2 none ∈ tables_1 := ax_in1 114 rfl
theorem ax_k43 : Cond.code yX5_readInto cX5_readInto 3 (some .int) ∈ tables_1 := ax_in2 117 rfl
theorem ax_k44 : Cond.code yX5_takesItem cX5_takesItem 3 (some .boolean) ∈ tables_1 := ax_in2 130 rfl
theorem ax_k45 : Cond.code yX5_takesCourt cX5_takesCourt 2 (some .boolean) ∈ tables_1 := ax_in2 187 rfl
theorem ax_k46 : Cond.code yX5_takesDish cX5_takesDish 4 (some .boolean) ∈ tables_1 := ax_in2 204 rfl
theorem ax_k47 : Cond.code yX5_takesFollows cX5_takesFollows 3 (some .boolean) ∈ tables_1 := ax_in2 211 rfl
theorem ax_k48 : Cond.code yX5_takesNumbers cX5_takesNumbers 4 (some .boolean) ∈ tables_1 := ax_in2 195 rfl
theorem ax_k49 : Cond.code yX5_isWord cX5_isWord 3 (some .boolean) ∈ tables_1 := ax_in2 135 rfl
theorem ax_k50 : Cond.code yX5_next cX5_next 2 none ∈ tables_1 := ax_in2 122 rfl
theorem ax_k51 : Cond.code yX5_sortOf cX5_sortOf 1 (some .int) ∈ tables_1 := ax_in2 126 rfl
theorem ax_k52 : Cond.code yX6_init cX6_init 3 none ∈ tables_1 := ax_in1 37 rfl
theorem ax_k53 : Cond.code yX6_many cX6_many 1 (some .int) ∈ tables_1 := ax_in2 72 rfl
theorem ax_k54 : Cond.code yX6_cell cX6_cell 4 (some .int) ∈ tables_1 := ax_in2 96 rfl
theorem ax_k55 : Cond.code yX6_put cX6_put 4 none ∈ tables_1 := ax_in2 8 rfl
theorem ax_k56 : Cond.code yX6_grow cX6_grow 2 (some .int) ∈ tables_1 := ax_in2 4 rfl
theorem ax_k57 : Cond.code yX6_cut cX6_cut 2 none ∈ tables_1 := ax_in1 237 rfl
theorem ax_k58 : Cond.code yX6_takeFrom cX6_takeFrom 2 none ∈ tables_1 := ax_in2 224 rfl
theorem ax_k59 : Cond.code yX6_mixInto cX6_mixInto 5 (some .long) ∈ tables_1 := ax_in4 196 rfl
theorem ax_k60 : Cond.code yX6_mixRowInto cX6_mixRowInto 6 (some .long) ∈ tables_1 := ax_in4 200 rfl
theorem ax_k61 : Cond.code yX7_init cX7_init 1 none ∈ tables_1 := ax_in1 221 rfl
theorem ax_k62 : Cond.code yX7_widen cX7_widen 1 none ∈ tables_1 := ax_in4 45 rfl
theorem ax_k63 : Cond.code yX7_least cX7_least 1 (some .int) ∈ tables_1 := ax_in4 75 rfl
theorem ax_k64 : Cond.code yX7_size cX7_size 1 (some .int) ∈ tables_1 := ax_in4 71 rfl
theorem ax_k65 : Cond.code yX7_narrow cX7_narrow 3 none ∈ tables_1 := ax_in4 57 rfl
theorem ax_k66 : Cond.code yX7_left cX7_left 3 (some .int) ∈ tables_1 := ax_in4 87 rfl
theorem ax_k67 : Cond.code yX7_leastFor cX7_leastFor 3 (some .int) ∈ tables_1 := ax_in4 61 rfl
theorem ax_k68 : Cond.code yX7_mostFor cX7_mostFor 3 (some .int) ∈ tables_1 := ax_in4 66 rfl
theorem ax_k69 : Cond.code yX8_init cX8_init 2 none ∈ tables_1 := ax_in1 161 rfl
theorem ax_k70 : Cond.code yX8_many cX8_many 1 (some .int) ∈ tables_1 := ax_in4 96 rfl
theorem ax_k71 : Cond.code yX8_pull cX8_pull 2 (some .int) ∈ tables_1 := ax_in3 141 rfl
theorem ax_k72 : Cond.code yX8_pulled cX8_pulled 1 (some .int) ∈ tables_1 := ax_in3 133 rfl
theorem ax_k73 : Cond.code yX8_menuFromNow cX8_menuFromNow 2 none ∈ tables_1 := ax_in3 101 rfl
theorem ax_k74 : Cond.code yX8_menuFromNothing cX8_menuFromNothing 2 none ∈ tables_1 := ax_in4 83 rfl
theorem ax_k75 : Cond.code yX8_readingFromNothing cX8_readingFromNothing 3 none ∈ tables_1 := ax_in4 49 rfl
theorem ax_k76 : Cond.code yX8_waysTo cX8_waysTo 7 (some .long) ∈ tables_1 := ax_in4 104 rfl
theorem ax_k77 : Cond.code yX8_pullOf cX8_pullOf 4 (some .int) ∈ tables_1 := ax_in4 109 rfl
theorem ax_k78 : Cond.code yX8_takeMenu cX8_takeMenu 2 none ∈ tables_1 := ax_in3 105 rfl
theorem ax_k79 : Cond.code yX8_serveAll cX8_serveAll 6 none ∈ tables_1 := ax_in3 120 rfl
theorem ax_k80 : Cond.code yX9_init cX9_init 1 none ∈ tables_1 := ax_in1 23 rfl
theorem ax_k81 : Cond.code yX9_court cX9_court 3 (some .int) ∈ tables_1 := ax_in2 61 rfl
theorem ax_k82 : Cond.code yX9_dish cX9_dish 7 (some .int) ∈ tables_1 := ax_in2 76 rfl
theorem ax_k83 : Cond.code yX9_book cX9_book 5 (some .int) ∈ tables_1 := ax_in2 89 rfl
theorem ax_k84 : Cond.code yX9_lean cX9_lean 3 (some .int) ∈ tables_1 := ax_in2 100 rfl
theorem ax_k85 : Cond.code yX9_type cX9_type 3 (some .int) ∈ tables_1 := ax_in2 104 rfl
theorem ax_k86 : Cond.code yX9_clear cX9_clear 2 (some .int) ∈ tables_1 := ax_in2 108 rfl
theorem ax_k87 : Cond.code yX9_read cX9_read 2 (some .int) ∈ tables_1 := ax_in2 113 rfl
theorem ax_k88 : Cond.code yX9_serve cX9_serve 3 (some .int) ∈ tables_1 := ax_in2 232 rfl
theorem ax_k89 : Cond.code yX9_undo cX9_undo 1 (some .int) ∈ tables_1 := ax_in3 55 rfl
theorem ax_k90 : Cond.code yX9_of cX9_of 3 (some .int) ∈ tables_1 := ax_in3 63 rfl
theorem ax_k91 : Cond.code yX9_course cX9_course 3 (some .int) ∈ tables_1 := ax_in3 70 rfl
theorem ax_k92 : Cond.code yX9_leans cX9_leans 1 (some .int) ∈ tables_1 := ax_in3 74 rfl
theorem ax_k93 : Cond.code yX9_verdict cX9_verdict 1 (some .int) ∈ tables_1 := ax_in3 78 rfl
theorem ax_k94 : Cond.code yX9_menu cX9_menu 2 (some .int) ∈ tables_1 := ax_in3 85 rfl
theorem ax_k95 : Cond.code yX9_wipe cX9_wipe 2 (some .int) ∈ tables_1 := ax_in3 93 rfl
theorem ax_k96 : Cond.code yX9_comes cX9_comes 2 (some .int) ∈ tables_1 := ax_in3 97 rfl
theorem ax_k97 : Cond.code yX9_did cX9_did 3 (some .int) ∈ tables_1 := ax_in3 137 rfl
theorem ax_k98 : Cond.code yX9_play cX9_play 3 (some .int) ∈ tables_1 := ax_in3 148 rfl
theorem ax_k99 : Cond.code yX9_first cX9_first 3 (some .int) ∈ tables_1 := ax_in3 184 rfl
theorem ax_k100 : Cond.code yX9_pardon cX9_pardon 3 (some .int) ∈ tables_1 := ax_in3 192 rfl
theorem ax_k101 : Cond.code yX9_cancel cX9_cancel 5 (some .int) ∈ tables_1 := ax_in3 233 rfl
theorem ax_k102 : Cond.code yX9_undoes cX9_undoes 4 (some .int) ∈ tables_1 := ax_in4 8 rfl
theorem ax_k103 : Cond.code yX9_reading cX9_reading 3 (some .int) ∈ tables_1 := ax_in4 22 rfl
theorem ax_k104 : Cond.code yX9_forget cX9_forget 2 (some .int) ∈ tables_1 := ax_in4 33 rfl
theorem ax_k105 : Cond.code yX9_before cX9_before 2 (some .int) ∈ tables_1 := ax_in4 37 rfl
theorem ax_k106 : Cond.code yX9_tells cX9_tells 4 (some .int) ∈ tables_1 := ax_in4 79 rfl
theorem ax_k107 : Cond.code yX9_sure cX9_sure 4 (some .int) ∈ tables_1 := ax_in4 92 rfl
theorem ax_k108 : Cond.code yX9_burnt cX9_burnt 4 (some .int) ∈ tables_1 := ax_in4 100 rfl
theorem ax_k109 : Cond.code yX9_dinners cX9_dinners 7 (some .int) ∈ tables_1 := ax_in4 129 rfl
theorem ax_k110 : Cond.code yX9_part cX9_part 2 (some .long) ∈ tables_1 := ax_in4 145 rfl
theorem ax_k111 : Cond.code yX9_image cX9_image 2 (some .int) ∈ tables_1 := ax_in4 149 rfl
theorem ax_k112 : Cond.code yX9_from cX9_from 2 (some .int) ∈ tables_1 := ax_in4 162 rfl
theorem ax_k113 : Cond.code yX9_status cX9_status 2 (some .int) ∈ tables_1 := ax_in4 174 rfl
theorem ax_k114 : Cond.code yX9_count cX9_count 2 (some .int) ∈ tables_1 := ax_in4 178 rfl
theorem ax_k115 : Cond.code yX9_digest cX9_digest 4 (some .long) ∈ tables_1 := ax_in4 187 rfl
theorem ax_k116 : Cond.code yX9_refuse cX9_refuse 3 (some .int) ∈ tables_1 := ax_in2 68 rfl
theorem ax_k117 : Cond.code yX9_howMany cX9_howMany 2 (some .int) ∈ tables_1 := ax_in4 182 rfl
theorem ax_k118 : Cond.code yX9_imageAt cX9_imageAt 2 (some (.object "DinnerPleas$Image")) ∈ tables_1 := ax_in4 153 rfl
theorem ax_k119 : Cond.code yX9_fitReadings cX9_fitReadings 2 none ∈ tables_1 := ax_in4 41 rfl
theorem ax_k120 : Cond.code yX9_setFraction cX9_setFraction 7 none ∈ tables_1 := ax_in4 122 rfl
theorem ax_k121 : Cond.code yX9_isWithin cX9_isWithin 3 (some .boolean) ∈ tables_1 := ax_in2 64 rfl
theorem ax_k122 : Cond.code yX9_isSide cX9_isSide 1 (some .boolean) ∈ tables_1 := ax_in3 1 rfl
theorem ax_k123 : Cond.code yX9_isTaste cX9_isTaste 1 (some .boolean) ∈ tables_1 := ax_in2 92 rfl
theorem ax_k124 : Cond.code yX9_isVerdict cX9_isVerdict 1 (some .boolean) ∈ tables_1 := ax_in4 25 rfl
theorem ax_k125 : Cond.code yX9_fitsDish cX9_fitsDish 2 (some .boolean) ∈ tables_1 := ax_in2 79 rfl
theorem ax_k126 : Cond.code yX9_verdictOf cX9_verdictOf 1 (some .int) ∈ tables_1 := ax_in3 81 rfl
theorem ax_k127 : Cond.code yX9_power cX9_power 8 (some .int) ∈ tables_1 := ax_in3 46 rfl
theorem ax_k128 : Cond.code yX9_toSide cX9_toSide 2 (some .int) ∈ tables_1 := ax_in3 51 rfl
theorem ax_k129 : Cond.code yX9_holds cX9_holds 2 (some .boolean) ∈ tables_1 := ax_in3 20 rfl
theorem ax_k130 : Cond.code yX9_with cX9_with 2 (some .int) ∈ tables_1 := ax_in3 9 rfl
theorem ax_k131 : Cond.code yX9_mix cX9_mix 4 (some .long) ∈ tables_1 := ax_in4 191 rfl
theorem ax_k132 : Cond.code yX9_toPower cX9_toPower 6 (some .long) ∈ tables_1 := ax_in4 116 rfl
theorem ax_k133 : Cond.code yX9_commonDivisor cX9_commonDivisor 7 (some .long) ∈ tables_1 := ax_in4 125 rfl
theorem ax_k134 : Cond.code yX10_init cX10_init 1 none ∈ tables_1 := ax_in4 208 rfl
theorem ax_k135 : Cond.code yX10_in cX10_in 6 (some .boolean) ∈ tables_1 := ax_in5 75 rfl
theorem ax_k136 : Cond.code yX10_bad cX10_bad 2 (some .int) ∈ tables_1 := ax_in5 79 rfl
theorem ax_k137 : Cond.code yX10_no cX10_no 1 (some .int) ∈ tables_1 := ax_in5 151 rfl
theorem ax_k138 : Cond.code yX10_full cX10_full 1 (some .int) ∈ tables_1 := ax_in5 97 rfl
theorem ax_k139 : Cond.code yX10_begin cX10_begin 3 none ∈ tables_1 := ax_in4 212 rfl
theorem ax_k140 : Cond.code yX10_dishes cX10_dishes 1 (some .int) ∈ tables_1 := ax_in5 83 rfl
theorem ax_k141 : Cond.code yX10_isDish cX10_isDish 2 (some .boolean) ∈ tables_1 := ax_in5 120 rfl
theorem ax_k142 : Cond.code yX10_isSide cX10_isSide 1 (some .boolean) ∈ tables_1 := ax_in5 123 rfl
theorem ax_k143 : Cond.code yX10_isTaste cX10_isTaste 1 (some .boolean) ∈ tables_1 := ax_in5 91 rfl
theorem ax_k144 : Cond.code yX10_get cX10_get 3 (some .int) ∈ tables_1 := ax_in5 147 rfl
theorem ax_k145 : Cond.code yX10_court cX10_court 3 (some .int) ∈ tables_1 := ax_in5 71 rfl
theorem ax_k146 : Cond.code yX10_layDish cX10_layDish 7 none ∈ tables_1 := ax_in5 100 rfl
theorem ax_k147 : Cond.code yX10_dish cX10_dish 6 (some .int) ∈ tables_1 := ax_in5 87 rfl
theorem ax_k148 : Cond.code yX10_book cX10_book 5 (some .int) ∈ tables_1 := ax_in5 104 rfl
theorem ax_k149 : Cond.code yX10_lean cX10_lean 3 (some .int) ∈ tables_1 := ax_in5 110 rfl
theorem ax_k150 : Cond.code yX10_layEmpty cX10_layEmpty 1 none ∈ tables_1 := ax_in5 131 rfl
theorem ax_k151 : Cond.code yX10_layHand cX10_layHand 2 none ∈ tables_1 := ax_in5 127 rfl
theorem ax_k152 : Cond.code yX10_hungry cX10_hungry 1 (some .int) ∈ tables_1 := ax_in5 171 rfl
theorem ax_k153 : Cond.code yX10_sauce cX10_sauce 2 (some .int) ∈ tables_1 := ax_in5 167 rfl
theorem ax_k154 : Cond.code yX10_power cX10_power 2 (some .int) ∈ tables_1 := ax_in5 163 rfl
theorem ax_k155 : Cond.code yX10_does cX10_does 3 (some .int) ∈ tables_1 := ax_in5 159 rfl
theorem ax_k156 : Cond.code yX10_comesOn cX10_comesOn 5 (some .int) ∈ tables_1 := ax_in5 155 rfl
theorem ax_k157 : Cond.code yX10_wasServed cX10_wasServed 2 (some .boolean) ∈ tables_1 := ax_in5 139 rfl
theorem ax_k158 : Cond.code yX10_isOf cX10_isOf 3 (some .boolean) ∈ tables_1 := ax_in5 143 rfl
theorem ax_k159 : Cond.code yX10_mayServe cX10_mayServe 3 (some .boolean) ∈ tables_1 := ax_in5 135 rfl
theorem ax_k160 : Cond.code yX10_verdictOf cX10_verdictOf 1 (some .int) ∈ tables_1 := ax_in5 195 rfl
theorem ax_k161 : Cond.code yX10_serve cX10_serve 5 (some .int) ∈ tables_1 := ax_in5 116 rfl
theorem ax_k162 : Cond.code yX10_undo cX10_undo 1 (some .int) ∈ tables_1 := ax_in5 175 rfl
theorem ax_k163 : Cond.code yX10_of cX10_of 3 (some .int) ∈ tables_1 := ax_in5 179 rfl
theorem ax_k164 : Cond.code yX10_course cX10_course 3 (some .int) ∈ tables_1 := ax_in5 184 rfl
theorem ax_k165 : Cond.code yX10_leans cX10_leans 1 (some .int) ∈ tables_1 := ax_in5 188 rfl
theorem ax_k166 : Cond.code yX10_verdict cX10_verdict 1 (some .int) ∈ tables_1 := ax_in5 192 rfl
theorem ax_k167 : Cond.code yX10_menu cX10_menu 3 (some .int) ∈ tables_1 := ax_in5 199 rfl
theorem ax_k168 : Cond.code yX10_wipe cX10_wipe 2 (some .int) ∈ tables_1 := ax_in5 203 rfl
theorem ax_k169 : Cond.code yX10_goMenu cX10_goMenu 8 none ∈ tables_1 := ax_in5 215 rfl
theorem ax_k170 : Cond.code yX10_goNow cX10_goNow 3 none ∈ tables_1 := ax_in5 211 rfl
theorem ax_k171 : Cond.code yX10_comes cX10_comes 2 (some .int) ∈ tables_1 := ax_in5 207 rfl
theorem ax_k172 : Cond.code yX10_did cX10_did 3 (some .int) ∈ tables_1 := ax_in5 219 rfl
theorem ax_k173 : Cond.code yX10_layTurn cX10_layTurn 2 none ∈ tables_1 := ax_in5 231 rfl
theorem ax_k174 : Cond.code yX10_backTo cX10_backTo 2 none ∈ tables_1 := ax_in5 236 rfl
theorem ax_k175 : Cond.code yX10_judge cX10_judge 5 none ∈ tables_1 := ax_in6 0 rfl
theorem ax_k176 : Cond.code yX10_layPlay cX10_layPlay 6 (some .int) ∈ tables_1 := ax_in5 227 rfl
theorem ax_k177 : Cond.code yX10_play cX10_play 3 (some .int) ∈ tables_1 := ax_in5 223 rfl
theorem ax_k178 : Cond.code yX10_first cX10_first 4 (some .int) ∈ tables_1 := ax_in6 4 rfl
theorem ax_k179 : Cond.code yX10_judgeRow cX10_judgeRow 5 none ∈ tables_1 := ax_in6 16 rfl
theorem ax_k180 : Cond.code yX10_butterOf cX10_butterOf 4 (some .int) ∈ tables_1 := ax_in6 20 rfl
theorem ax_k181 : Cond.code yX10_layPardon cX10_layPardon 5 none ∈ tables_1 := ax_in6 12 rfl
theorem ax_k182 : Cond.code yX10_pardon cX10_pardon 3 (some .int) ∈ tables_1 := ax_in6 8 rfl
theorem ax_k183 : Cond.code yX10_cancels cX10_cancels 6 (some .boolean) ∈ tables_1 := ax_in6 28 rfl
theorem ax_k184 : Cond.code yX10_cancel cX10_cancel 7 (some .int) ∈ tables_1 := ax_in6 24 rfl
theorem ax_k185 : Cond.code yX10_undoes cX10_undoes 6 (some .int) ∈ tables_1 := ax_in6 32 rfl
theorem ax_k186 : Cond.code yX10_reading cX10_reading 5 (some .int) ∈ tables_1 := ax_in6 37 rfl
theorem ax_k187 : Cond.code yX10_forget cX10_forget 2 (some .int) ∈ tables_1 := ax_in6 41 rfl
theorem ax_k188 : Cond.code yX10_turnsBy cX10_turnsBy 4 (some .int) ∈ tables_1 := ax_in6 53 rfl
theorem ax_k189 : Cond.code yX10_layTurns cX10_layTurns 3 none ∈ tables_1 := ax_in6 49 rfl
theorem ax_k190 : Cond.code yX10_canBe cX10_canBe 4 (some .boolean) ∈ tables_1 := ax_in6 57 rfl
theorem ax_k191 : Cond.code yX10_before cX10_before 5 (some .int) ∈ tables_1 := ax_in6 45 rfl
theorem ax_k192 : Cond.code yX10_tells cX10_tells 5 (some .int) ∈ tables_1 := ax_in6 61 rfl
theorem ax_k193 : Cond.code yX10_sure cX10_sure 5 (some .int) ∈ tables_1 := ax_in6 65 rfl
theorem ax_k194 : Cond.code yX10_fraction cX10_fraction 11 none ∈ tables_1 := ax_in6 74 rfl
theorem ax_k195 : Cond.code yX10_burnt cX10_burnt 12 (some .int) ∈ tables_1 := ax_in6 69 rfl
theorem ax_k196 : Cond.code yX10_dinners cX10_dinners 11 (some .int) ∈ tables_1 := ax_in6 78 rfl
theorem ax_k197 : Cond.code yX10_type cX10_type 2 (some .int) ∈ tables_1 := ax_in6 88 rfl
theorem ax_k198 : Cond.code yX10_clear cX10_clear 2 (some .int) ∈ tables_1 := ax_in6 93 rfl
theorem ax_k199 : Cond.code yX10_isSmall cX10_isSmall 1 (some .boolean) ∈ tables_1 := ax_in6 104 rfl
theorem ax_k200 : Cond.code yX10_isFigure cX10_isFigure 1 (some .boolean) ∈ tables_1 := ax_in6 109 rfl
theorem ax_k201 : Cond.code yX10_lookAt cX10_lookAt 5 none ∈ tables_1 := ax_in6 101 rfl
theorem ax_k202 : Cond.code yX10_goBehind cX10_goBehind 1 none ∈ tables_1 := ax_in6 123 rfl
theorem ax_k203 : Cond.code yX10_isWord cX10_isWord 9 (some .boolean) ∈ tables_1 := ax_in6 119 rfl
theorem ax_k204 : Cond.code yX10_takes cX10_takes 4 (some .boolean) ∈ tables_1 := ax_in6 127 rfl
theorem ax_k205 : Cond.code yX10_takesFirst cX10_takesFirst 1 (some .boolean) ∈ tables_1 := ax_in6 115 rfl
theorem ax_k206 : Cond.code yX10_takesDish cX10_takesDish 1 (some .boolean) ∈ tables_1 := ax_in6 135 rfl
theorem ax_k207 : Cond.code yX10_takesBook cX10_takesBook 2 (some .boolean) ∈ tables_1 := ax_in6 139 rfl
theorem ax_k208 : Cond.code yX10_takesItem cX10_takesItem 1 (some .boolean) ∈ tables_1 := ax_in6 131 rfl
theorem ax_k209 : Cond.code yX10_read cX10_read 3 (some .int) ∈ tables_1 := ax_in6 97 rfl
theorem ax_k210 : Cond.code yX10_part cX10_part 2 (some .long) ∈ tables_1 := ax_in6 143 rfl
theorem ax_k211 : Cond.code yX10_image cX10_image 3 (some .int) ∈ tables_1 := ax_in6 147 rfl
theorem ax_k212 : Cond.code yX10_from cX10_from 3 (some .int) ∈ tables_1 := ax_in6 151 rfl
theorem ax_k213 : Cond.code yX10_status cX10_status 2 (some .int) ∈ tables_1 := ax_in6 155 rfl
theorem ax_k214 : Cond.code yX10_counted cX10_counted 2 (some .int) ∈ tables_1 := ax_in6 163 rfl
theorem ax_k215 : Cond.code yX10_count cX10_count 2 (some .int) ∈ tables_1 := ax_in6 159 rfl
theorem ax_k216 : Cond.code yX10_sums cX10_sums 8 (some .long) ∈ tables_1 := ax_in6 173 rfl
theorem ax_k217 : Cond.code yX10_digest cX10_digest 4 (some .long) ∈ tables_1 := ax_in6 167 rfl
theorem ax_k218 : Cond.code yJ6_bitCount_0f7a4 cJ6_bitCount_0f7a4 1 (some .int) ∈ tables_1 := ax_in3 23 rfl
theorem ax_k219 : Cond.code yJ0_length_8abf5 cJ0_length_8abf5 1 (some .int) ∈ tables_1 := ax_in2 139 rfl
theorem ax_k220 : Cond.code yJ0_charAt_5068e cJ0_charAt_5068e 2 (some .char) ∈ tables_1 := ax_in2 149 rfl
theorem ax_k221 : Cond.code yJ0_coder_7d493 cJ0_coder_7d493 1 (some .byte) ∈ tables_1 := ax_in2 143 rfl
theorem ax_k222 : Cond.code yJ0_isLatin1_aae02 cJ0_isLatin1_aae02 1 (some .boolean) ∈ tables_1 := ax_in2 153 rfl
theorem ax_k223 : Cond.code yJ0_checkIndex_df160 cJ0_checkIndex_df160 2 none ∈ tables_1 := ax_in2 159 rfl
theorem ax_k224 : Cond.code yJ1_charAt_3b067 cJ1_charAt_3b067 2 (some .char) ∈ tables_1 := ax_in2 156 rfl
theorem ax_k225 : Cond.code yJ3_checkIndex_8e157 cJ3_checkIndex_8e157 3 (some .int) ∈ tables_1 := ax_in2 164 rfl
