section
-- ===== PART A: goes FIRST, ahead of the names: the tables' words, and 'selects' of the private methods out of them =====
/-- a private method of a class that the tables say can be made, by its rows of tables_1 -/
def lw_okq (q : MethodName × Nat) : Prop := (q.1.cls ≠ "java/lang/invoke/MethodHandle" ∧ q.1.cls ≠ "java/lang/invoke/VarHandle") ∧ Cond.instantiable q.1.cls q.2 ∈ tables_1 ∧ Cond.privateMethod q.1 ∈ tables_1 ∧ Cond.instanceMethod q.1 ∈ tables_1
theorem lw_p0 : lw_okq (⟨"DinnerPleas", "refuse", "(II)I"⟩, 16) := ⟨⟨by decide +kernel, by decide +kernel⟩, List.mem_of_getElem? (i := 20) (by decide +kernel), List.mem_of_getElem? (i := 306) (by decide +kernel), List.mem_of_getElem? (i := 307) (by decide +kernel)⟩
theorem lw_p1 : lw_okq (⟨"DinnerPleas$Reader", "next", "()V"⟩, 6) := ⟨⟨by decide +kernel, by decide +kernel⟩, List.mem_of_getElem? (i := 111) (by decide +kernel), List.mem_of_getElem? (i := 360) (by decide +kernel), List.mem_of_getElem? (i := 361) (by decide +kernel)⟩
theorem lw_p2 : lw_okq (⟨"DinnerPleas$Reader", "takesItem", "(LDinnerPleas$Court;Z)Z"⟩, 6) := ⟨⟨by decide +kernel, by decide +kernel⟩, List.mem_of_getElem? (i := 111) (by decide +kernel), List.mem_of_getElem? (i := 368) (by decide +kernel), List.mem_of_getElem? (i := 369) (by decide +kernel)⟩
theorem lw_p3 : lw_okq (⟨"DinnerPleas$Reader", "isWord", "(Ljava/lang/String;)Z"⟩, 6) := ⟨⟨by decide +kernel, by decide +kernel⟩, List.mem_of_getElem? (i := 111) (by decide +kernel), List.mem_of_getElem? (i := 373) (by decide +kernel), List.mem_of_getElem? (i := 374) (by decide +kernel)⟩
theorem lw_p4 : lw_okq (⟨"DinnerPleas$Reader", "takesCourt", "(LDinnerPleas$Court;)Z"⟩, 6) := ⟨⟨by decide +kernel, by decide +kernel⟩, List.mem_of_getElem? (i := 111) (by decide +kernel), List.mem_of_getElem? (i := 425) (by decide +kernel), List.mem_of_getElem? (i := 426) (by decide +kernel)⟩
theorem lw_p5 : lw_okq (⟨"DinnerPleas$Reader", "takesNumbers", "([I[I)Z"⟩, 6) := ⟨⟨by decide +kernel, by decide +kernel⟩, List.mem_of_getElem? (i := 111) (by decide +kernel), List.mem_of_getElem? (i := 433) (by decide +kernel), List.mem_of_getElem? (i := 434) (by decide +kernel)⟩
theorem lw_p6 : lw_okq (⟨"DinnerPleas$Reader", "takesDish", "(LDinnerPleas$Court;)Z"⟩, 6) := ⟨⟨by decide +kernel, by decide +kernel⟩, List.mem_of_getElem? (i := 111) (by decide +kernel), List.mem_of_getElem? (i := 442) (by decide +kernel), List.mem_of_getElem? (i := 443) (by decide +kernel)⟩
theorem lw_p7 : lw_okq (⟨"DinnerPleas$Reader", "takesFollows", "(LDinnerPleas$Court;I)Z"⟩, 6) := ⟨⟨by decide +kernel, by decide +kernel⟩, List.mem_of_getElem? (i := 111) (by decide +kernel), List.mem_of_getElem? (i := 449) (by decide +kernel), List.mem_of_getElem? (i := 450) (by decide +kernel)⟩
theorem lw_p8 : lw_okq (⟨"DinnerPleas$Tasting", "takeMenu", "()V"⟩, 4) := ⟨⟨by decide +kernel, by decide +kernel⟩, List.mem_of_getElem? (i := 158) (by decide +kernel), List.mem_of_getElem? (i := 583) (by decide +kernel), List.mem_of_getElem? (i := 584) (by decide +kernel)⟩
theorem lw_p9 : lw_okq (⟨"DinnerPleas$Tasting", "serveAll", "(I)V"⟩, 4) := ⟨⟨by decide +kernel, by decide +kernel⟩, List.mem_of_getElem? (i := 158) (by decide +kernel), List.mem_of_getElem? (i := 598) (by decide +kernel), List.mem_of_getElem? (i := 599) (by decide +kernel)⟩
theorem lw_p10 : lw_okq (⟨"DinnerPleas$Play", "ifServed", "(IIIIIII)I"⟩, 3) := ⟨⟨by decide +kernel, by decide +kernel⟩, List.mem_of_getElem? (i := 181) (by decide +kernel), List.mem_of_getElem? (i := 638) (by decide +kernel), List.mem_of_getElem? (i := 639) (by decide +kernel)⟩
theorem lw_p11 : lw_okq (⟨"DinnerPleas$Play", "gains", "(IIIIII)I"⟩, 3) := ⟨⟨by decide +kernel, by decide +kernel⟩, List.mem_of_getElem? (i := 181) (by decide +kernel), List.mem_of_getElem? (i := 644) (by decide +kernel), List.mem_of_getElem? (i := 645) (by decide +kernel)⟩
theorem lw_p12 : lw_okq (⟨"DinnerPleas$Play", "ifNone", "(IIIIII)I"⟩, 3) := ⟨⟨by decide +kernel, by decide +kernel⟩, List.mem_of_getElem? (i := 181) (by decide +kernel), List.mem_of_getElem? (i := 649) (by decide +kernel), List.mem_of_getElem? (i := 650) (by decide +kernel)⟩
theorem lw_p13 : lw_okq (⟨"DinnerPleas$Play", "takeIfBetter", "(II)V"⟩, 3) := ⟨⟨by decide +kernel, by decide +kernel⟩, List.mem_of_getElem? (i := 181) (by decide +kernel), List.mem_of_getElem? (i := 653) (by decide +kernel), List.mem_of_getElem? (i := 654) (by decide +kernel)⟩
theorem lw_p14 : lw_okq (⟨"DinnerPleas$Pardon", "tryBehind", "(IIIIII)V"⟩, 4) := ⟨⟨by decide +kernel, by decide +kernel⟩, List.mem_of_getElem? (i := 197) (by decide +kernel), List.mem_of_getElem? (i := 682) (by decide +kernel), List.mem_of_getElem? (i := 683) (by decide +kernel)⟩
theorem lw_p15 : lw_okq (⟨"DinnerPleas$Pardon", "isBetter", "(II)Z"⟩, 4) := ⟨⟨by decide +kernel, by decide +kernel⟩, List.mem_of_getElem? (i := 197) (by decide +kernel), List.mem_of_getElem? (i := 689) (by decide +kernel), List.mem_of_getElem? (i := 690) (by decide +kernel)⟩
def lw_privs_1 : List (MethodName × Nat) := [(⟨"DinnerPleas", "refuse", "(II)I"⟩, 16), (⟨"DinnerPleas$Reader", "next", "()V"⟩, 6), (⟨"DinnerPleas$Reader", "takesItem", "(LDinnerPleas$Court;Z)Z"⟩, 6), (⟨"DinnerPleas$Reader", "isWord", "(Ljava/lang/String;)Z"⟩, 6), (⟨"DinnerPleas$Reader", "takesCourt", "(LDinnerPleas$Court;)Z"⟩, 6), (⟨"DinnerPleas$Reader", "takesNumbers", "([I[I)Z"⟩, 6), (⟨"DinnerPleas$Reader", "takesDish", "(LDinnerPleas$Court;)Z"⟩, 6), (⟨"DinnerPleas$Reader", "takesFollows", "(LDinnerPleas$Court;I)Z"⟩, 6), (⟨"DinnerPleas$Tasting", "takeMenu", "()V"⟩, 4), (⟨"DinnerPleas$Tasting", "serveAll", "(I)V"⟩, 4), (⟨"DinnerPleas$Play", "ifServed", "(IIIIIII)I"⟩, 3), (⟨"DinnerPleas$Play", "gains", "(IIIIII)I"⟩, 3), (⟨"DinnerPleas$Play", "ifNone", "(IIIIII)I"⟩, 3), (⟨"DinnerPleas$Play", "takeIfBetter", "(II)V"⟩, 3), (⟨"DinnerPleas$Pardon", "tryBehind", "(IIIIII)V"⟩, 4), (⟨"DinnerPleas$Pardon", "isBetter", "(II)Z"⟩, 4)]
theorem lw_r1 : ∀ q ∈ lw_privs_1, lw_okq q := List.forall_mem_cons.mpr ⟨lw_p0, List.forall_mem_cons.mpr ⟨lw_p1, List.forall_mem_cons.mpr ⟨lw_p2, List.forall_mem_cons.mpr ⟨lw_p3, List.forall_mem_cons.mpr ⟨lw_p4, List.forall_mem_cons.mpr ⟨lw_p5, List.forall_mem_cons.mpr ⟨lw_p6, List.forall_mem_cons.mpr ⟨lw_p7, List.forall_mem_cons.mpr ⟨lw_p8, List.forall_mem_cons.mpr ⟨lw_p9, List.forall_mem_cons.mpr ⟨lw_p10, List.forall_mem_cons.mpr ⟨lw_p11, List.forall_mem_cons.mpr ⟨lw_p12, List.forall_mem_cons.mpr ⟨lw_p13, List.forall_mem_cons.mpr ⟨lw_p14, List.forall_mem_cons.mpr ⟨lw_p15, fun _ h => absurd h List.not_mem_nil⟩⟩⟩⟩⟩⟩⟩⟩⟩⟩⟩⟩⟩⟩⟩⟩
theorem lw_p16 : lw_okq (⟨"DinnerPleas$Evening", "staysBehind", "(III)Z"⟩, 4) := ⟨⟨by decide +kernel, by decide +kernel⟩, List.mem_of_getElem? (i := 138) (by decide +kernel), List.mem_of_getElem? (i := 719) (by decide +kernel), List.mem_of_getElem? (i := 720) (by decide +kernel)⟩
theorem lw_p17 : lw_okq (⟨"DinnerPleas", "fitReadings", "()V"⟩, 16) := ⟨⟨by decide +kernel, by decide +kernel⟩, List.mem_of_getElem? (i := 20) (by decide +kernel), List.mem_of_getElem? (i := 759) (by decide +kernel), List.mem_of_getElem? (i := 760) (by decide +kernel)⟩
theorem lw_p18 : lw_okq (⟨"DinnerPleas$Span", "leastFor", "(II)I"⟩, 2) := ⟨⟨by decide +kernel, by decide +kernel⟩, List.mem_of_getElem? (i := 218) (by decide +kernel), List.mem_of_getElem? (i := 779) (by decide +kernel), List.mem_of_getElem? (i := 780) (by decide +kernel)⟩
theorem lw_p19 : lw_okq (⟨"DinnerPleas$Span", "mostFor", "(II)I"⟩, 2) := ⟨⟨by decide +kernel, by decide +kernel⟩, List.mem_of_getElem? (i := 218) (by decide +kernel), List.mem_of_getElem? (i := 784) (by decide +kernel), List.mem_of_getElem? (i := 785) (by decide +kernel)⟩
theorem lw_p20 : lw_okq (⟨"DinnerPleas$Tasting", "pullOf", "(I)I"⟩, 4) := ⟨⟨by decide +kernel, by decide +kernel⟩, List.mem_of_getElem? (i := 158) (by decide +kernel), List.mem_of_getElem? (i := 827) (by decide +kernel), List.mem_of_getElem? (i := 828) (by decide +kernel)⟩
theorem lw_p21 : lw_okq (⟨"DinnerPleas", "setFraction", "(JJ)V"⟩, 16) := ⟨⟨by decide +kernel, by decide +kernel⟩, List.mem_of_getElem? (i := 20) (by decide +kernel), List.mem_of_getElem? (i := 840) (by decide +kernel), List.mem_of_getElem? (i := 841) (by decide +kernel)⟩
theorem lw_p22 : lw_okq (⟨"DinnerPleas", "imageAt", "(I)LDinnerPleas$Image;"⟩, 16) := ⟨⟨by decide +kernel, by decide +kernel⟩, List.mem_of_getElem? (i := 20) (by decide +kernel), List.mem_of_getElem? (i := 871) (by decide +kernel), List.mem_of_getElem? (i := 872) (by decide +kernel)⟩
theorem lw_p23 : lw_okq (⟨"DinnerPleas", "howMany", "(I)I"⟩, 16) := ⟨⟨by decide +kernel, by decide +kernel⟩, List.mem_of_getElem? (i := 20) (by decide +kernel), List.mem_of_getElem? (i := 900) (by decide +kernel), List.mem_of_getElem? (i := 901) (by decide +kernel)⟩
theorem lw_p24 : lw_okq (⟨"DinnerPleasModel", "bad", "(I)I"⟩, 31) := ⟨⟨by decide +kernel, by decide +kernel⟩, List.mem_of_getElem? (i := 925) (by decide +kernel), List.mem_of_getElem? (i := 1037) (by decide +kernel), List.mem_of_getElem? (i := 1038) (by decide +kernel)⟩
theorem lw_p25 : lw_okq (⟨"DinnerPleasModel", "dishes", "()I"⟩, 31) := ⟨⟨by decide +kernel, by decide +kernel⟩, List.mem_of_getElem? (i := 925) (by decide +kernel), List.mem_of_getElem? (i := 1041) (by decide +kernel), List.mem_of_getElem? (i := 1042) (by decide +kernel)⟩
theorem lw_p26 : lw_okq (⟨"DinnerPleasModel", "full", "()I"⟩, 31) := ⟨⟨by decide +kernel, by decide +kernel⟩, List.mem_of_getElem? (i := 925) (by decide +kernel), List.mem_of_getElem? (i := 1055) (by decide +kernel), List.mem_of_getElem? (i := 1056) (by decide +kernel)⟩
theorem lw_p27 : lw_okq (⟨"DinnerPleasModel", "isDish", "(I)Z"⟩, 31) := ⟨⟨by decide +kernel, by decide +kernel⟩, List.mem_of_getElem? (i := 925) (by decide +kernel), List.mem_of_getElem? (i := 1078) (by decide +kernel), List.mem_of_getElem? (i := 1079) (by decide +kernel)⟩
theorem lw_p28 : lw_okq (⟨"DinnerPleasModel", "layHand", "()V"⟩, 31) := ⟨⟨by decide +kernel, by decide +kernel⟩, List.mem_of_getElem? (i := 925) (by decide +kernel), List.mem_of_getElem? (i := 1085) (by decide +kernel), List.mem_of_getElem? (i := 1086) (by decide +kernel)⟩
theorem lw_p29 : lw_okq (⟨"DinnerPleasModel", "layEmpty", "()V"⟩, 31) := ⟨⟨by decide +kernel, by decide +kernel⟩, List.mem_of_getElem? (i := 925) (by decide +kernel), List.mem_of_getElem? (i := 1089) (by decide +kernel), List.mem_of_getElem? (i := 1090) (by decide +kernel)⟩
theorem lw_p30 : lw_okq (⟨"DinnerPleasModel", "mayServe", "(II)Z"⟩, 31) := ⟨⟨by decide +kernel, by decide +kernel⟩, List.mem_of_getElem? (i := 925) (by decide +kernel), List.mem_of_getElem? (i := 1093) (by decide +kernel), List.mem_of_getElem? (i := 1094) (by decide +kernel)⟩
theorem lw_p31 : lw_okq (⟨"DinnerPleasModel", "wasServed", "(I)Z"⟩, 31) := ⟨⟨by decide +kernel, by decide +kernel⟩, List.mem_of_getElem? (i := 925) (by decide +kernel), List.mem_of_getElem? (i := 1097) (by decide +kernel), List.mem_of_getElem? (i := 1098) (by decide +kernel)⟩
def lw_privs_2 : List (MethodName × Nat) := [(⟨"DinnerPleas$Evening", "staysBehind", "(III)Z"⟩, 4), (⟨"DinnerPleas", "fitReadings", "()V"⟩, 16), (⟨"DinnerPleas$Span", "leastFor", "(II)I"⟩, 2), (⟨"DinnerPleas$Span", "mostFor", "(II)I"⟩, 2), (⟨"DinnerPleas$Tasting", "pullOf", "(I)I"⟩, 4), (⟨"DinnerPleas", "setFraction", "(JJ)V"⟩, 16), (⟨"DinnerPleas", "imageAt", "(I)LDinnerPleas$Image;"⟩, 16), (⟨"DinnerPleas", "howMany", "(I)I"⟩, 16), (⟨"DinnerPleasModel", "bad", "(I)I"⟩, 31), (⟨"DinnerPleasModel", "dishes", "()I"⟩, 31), (⟨"DinnerPleasModel", "full", "()I"⟩, 31), (⟨"DinnerPleasModel", "isDish", "(I)Z"⟩, 31), (⟨"DinnerPleasModel", "layHand", "()V"⟩, 31), (⟨"DinnerPleasModel", "layEmpty", "()V"⟩, 31), (⟨"DinnerPleasModel", "mayServe", "(II)Z"⟩, 31), (⟨"DinnerPleasModel", "wasServed", "(I)Z"⟩, 31)]
theorem lw_r2 : ∀ q ∈ lw_privs_2, lw_okq q := List.forall_mem_cons.mpr ⟨lw_p16, List.forall_mem_cons.mpr ⟨lw_p17, List.forall_mem_cons.mpr ⟨lw_p18, List.forall_mem_cons.mpr ⟨lw_p19, List.forall_mem_cons.mpr ⟨lw_p20, List.forall_mem_cons.mpr ⟨lw_p21, List.forall_mem_cons.mpr ⟨lw_p22, List.forall_mem_cons.mpr ⟨lw_p23, List.forall_mem_cons.mpr ⟨lw_p24, List.forall_mem_cons.mpr ⟨lw_p25, List.forall_mem_cons.mpr ⟨lw_p26, List.forall_mem_cons.mpr ⟨lw_p27, List.forall_mem_cons.mpr ⟨lw_p28, List.forall_mem_cons.mpr ⟨lw_p29, List.forall_mem_cons.mpr ⟨lw_p30, List.forall_mem_cons.mpr ⟨lw_p31, fun _ h => absurd h List.not_mem_nil⟩⟩⟩⟩⟩⟩⟩⟩⟩⟩⟩⟩⟩⟩⟩⟩
theorem lw_p32 : lw_okq (⟨"DinnerPleasModel", "isOf", "(II)Z"⟩, 31) := ⟨⟨by decide +kernel, by decide +kernel⟩, List.mem_of_getElem? (i := 925) (by decide +kernel), List.mem_of_getElem? (i := 1101) (by decide +kernel), List.mem_of_getElem? (i := 1102) (by decide +kernel)⟩
theorem lw_p33 : lw_okq (⟨"DinnerPleasModel", "get", "(II)I"⟩, 31) := ⟨⟨by decide +kernel, by decide +kernel⟩, List.mem_of_getElem? (i := 925) (by decide +kernel), List.mem_of_getElem? (i := 1105) (by decide +kernel), List.mem_of_getElem? (i := 1106) (by decide +kernel)⟩
theorem lw_p34 : lw_okq (⟨"DinnerPleasModel", "no", "()I"⟩, 31) := ⟨⟨by decide +kernel, by decide +kernel⟩, List.mem_of_getElem? (i := 925) (by decide +kernel), List.mem_of_getElem? (i := 1109) (by decide +kernel), List.mem_of_getElem? (i := 1110) (by decide +kernel)⟩
theorem lw_p35 : lw_okq (⟨"DinnerPleasModel", "comesOn", "(III)I"⟩, 31) := ⟨⟨by decide +kernel, by decide +kernel⟩, List.mem_of_getElem? (i := 925) (by decide +kernel), List.mem_of_getElem? (i := 1113) (by decide +kernel), List.mem_of_getElem? (i := 1114) (by decide +kernel)⟩
theorem lw_p36 : lw_okq (⟨"DinnerPleasModel", "does", "(I)I"⟩, 31) := ⟨⟨by decide +kernel, by decide +kernel⟩, List.mem_of_getElem? (i := 925) (by decide +kernel), List.mem_of_getElem? (i := 1117) (by decide +kernel), List.mem_of_getElem? (i := 1118) (by decide +kernel)⟩
theorem lw_p37 : lw_okq (⟨"DinnerPleasModel", "power", "(I)I"⟩, 31) := ⟨⟨by decide +kernel, by decide +kernel⟩, List.mem_of_getElem? (i := 925) (by decide +kernel), List.mem_of_getElem? (i := 1121) (by decide +kernel), List.mem_of_getElem? (i := 1122) (by decide +kernel)⟩
theorem lw_p38 : lw_okq (⟨"DinnerPleasModel", "sauce", "(I)I"⟩, 31) := ⟨⟨by decide +kernel, by decide +kernel⟩, List.mem_of_getElem? (i := 925) (by decide +kernel), List.mem_of_getElem? (i := 1125) (by decide +kernel), List.mem_of_getElem? (i := 1126) (by decide +kernel)⟩
theorem lw_p39 : lw_okq (⟨"DinnerPleasModel", "hungry", "()I"⟩, 31) := ⟨⟨by decide +kernel, by decide +kernel⟩, List.mem_of_getElem? (i := 925) (by decide +kernel), List.mem_of_getElem? (i := 1129) (by decide +kernel), List.mem_of_getElem? (i := 1130) (by decide +kernel)⟩
theorem lw_p40 : lw_okq (⟨"DinnerPleasModel", "goNow", "(II)V"⟩, 31) := ⟨⟨by decide +kernel, by decide +kernel⟩, List.mem_of_getElem? (i := 925) (by decide +kernel), List.mem_of_getElem? (i := 1169) (by decide +kernel), List.mem_of_getElem? (i := 1170) (by decide +kernel)⟩
theorem lw_p41 : lw_okq (⟨"DinnerPleasModel", "goMenu", "(IIII)V"⟩, 31) := ⟨⟨by decide +kernel, by decide +kernel⟩, List.mem_of_getElem? (i := 925) (by decide +kernel), List.mem_of_getElem? (i := 1173) (by decide +kernel), List.mem_of_getElem? (i := 1174) (by decide +kernel)⟩
theorem lw_p42 : lw_okq (⟨"DinnerPleasModel", "layPlay", "(II)I"⟩, 31) := ⟨⟨by decide +kernel, by decide +kernel⟩, List.mem_of_getElem? (i := 925) (by decide +kernel), List.mem_of_getElem? (i := 1185) (by decide +kernel), List.mem_of_getElem? (i := 1186) (by decide +kernel)⟩
theorem lw_p43 : lw_okq (⟨"DinnerPleasModel", "layTurn", "(I)V"⟩, 31) := ⟨⟨by decide +kernel, by decide +kernel⟩, List.mem_of_getElem? (i := 925) (by decide +kernel), List.mem_of_getElem? (i := 1189) (by decide +kernel), List.mem_of_getElem? (i := 1190) (by decide +kernel)⟩
theorem lw_p44 : lw_okq (⟨"DinnerPleasModel", "backTo", "(I)V"⟩, 31) := ⟨⟨by decide +kernel, by decide +kernel⟩, List.mem_of_getElem? (i := 925) (by decide +kernel), List.mem_of_getElem? (i := 1194) (by decide +kernel), List.mem_of_getElem? (i := 1195) (by decide +kernel)⟩
theorem lw_p45 : lw_okq (⟨"DinnerPleasModel", "judge", "(III)V"⟩, 31) := ⟨⟨by decide +kernel, by decide +kernel⟩, List.mem_of_getElem? (i := 925) (by decide +kernel), List.mem_of_getElem? (i := 1198) (by decide +kernel), List.mem_of_getElem? (i := 1199) (by decide +kernel)⟩
theorem lw_p46 : lw_okq (⟨"DinnerPleasModel", "layPardon", "(I)V"⟩, 31) := ⟨⟨by decide +kernel, by decide +kernel⟩, List.mem_of_getElem? (i := 925) (by decide +kernel), List.mem_of_getElem? (i := 1210) (by decide +kernel), List.mem_of_getElem? (i := 1211) (by decide +kernel)⟩
theorem lw_p47 : lw_okq (⟨"DinnerPleasModel", "judgeRow", "(III)V"⟩, 31) := ⟨⟨by decide +kernel, by decide +kernel⟩, List.mem_of_getElem? (i := 925) (by decide +kernel), List.mem_of_getElem? (i := 1214) (by decide +kernel), List.mem_of_getElem? (i := 1215) (by decide +kernel)⟩
def lw_privs_3 : List (MethodName × Nat) := [(⟨"DinnerPleasModel", "isOf", "(II)Z"⟩, 31), (⟨"DinnerPleasModel", "get", "(II)I"⟩, 31), (⟨"DinnerPleasModel", "no", "()I"⟩, 31), (⟨"DinnerPleasModel", "comesOn", "(III)I"⟩, 31), (⟨"DinnerPleasModel", "does", "(I)I"⟩, 31), (⟨"DinnerPleasModel", "power", "(I)I"⟩, 31), (⟨"DinnerPleasModel", "sauce", "(I)I"⟩, 31), (⟨"DinnerPleasModel", "hungry", "()I"⟩, 31), (⟨"DinnerPleasModel", "goNow", "(II)V"⟩, 31), (⟨"DinnerPleasModel", "goMenu", "(IIII)V"⟩, 31), (⟨"DinnerPleasModel", "layPlay", "(II)I"⟩, 31), (⟨"DinnerPleasModel", "layTurn", "(I)V"⟩, 31), (⟨"DinnerPleasModel", "backTo", "(I)V"⟩, 31), (⟨"DinnerPleasModel", "judge", "(III)V"⟩, 31), (⟨"DinnerPleasModel", "layPardon", "(I)V"⟩, 31), (⟨"DinnerPleasModel", "judgeRow", "(III)V"⟩, 31)]
theorem lw_r3 : ∀ q ∈ lw_privs_3, lw_okq q := List.forall_mem_cons.mpr ⟨lw_p32, List.forall_mem_cons.mpr ⟨lw_p33, List.forall_mem_cons.mpr ⟨lw_p34, List.forall_mem_cons.mpr ⟨lw_p35, List.forall_mem_cons.mpr ⟨lw_p36, List.forall_mem_cons.mpr ⟨lw_p37, List.forall_mem_cons.mpr ⟨lw_p38, List.forall_mem_cons.mpr ⟨lw_p39, List.forall_mem_cons.mpr ⟨lw_p40, List.forall_mem_cons.mpr ⟨lw_p41, List.forall_mem_cons.mpr ⟨lw_p42, List.forall_mem_cons.mpr ⟨lw_p43, List.forall_mem_cons.mpr ⟨lw_p44, List.forall_mem_cons.mpr ⟨lw_p45, List.forall_mem_cons.mpr ⟨lw_p46, List.forall_mem_cons.mpr ⟨lw_p47, fun _ h => absurd h List.not_mem_nil⟩⟩⟩⟩⟩⟩⟩⟩⟩⟩⟩⟩⟩⟩⟩⟩
theorem lw_p48 : lw_okq (⟨"DinnerPleasModel", "butterOf", "(I)I"⟩, 31) := ⟨⟨by decide +kernel, by decide +kernel⟩, List.mem_of_getElem? (i := 925) (by decide +kernel), List.mem_of_getElem? (i := 1218) (by decide +kernel), List.mem_of_getElem? (i := 1219) (by decide +kernel)⟩
theorem lw_p49 : lw_okq (⟨"DinnerPleasModel", "cancels", "(III)Z"⟩, 31) := ⟨⟨by decide +kernel, by decide +kernel⟩, List.mem_of_getElem? (i := 925) (by decide +kernel), List.mem_of_getElem? (i := 1226) (by decide +kernel), List.mem_of_getElem? (i := 1227) (by decide +kernel)⟩
theorem lw_p50 : lw_okq (⟨"DinnerPleasModel", "layTurns", "()V"⟩, 31) := ⟨⟨by decide +kernel, by decide +kernel⟩, List.mem_of_getElem? (i := 925) (by decide +kernel), List.mem_of_getElem? (i := 1247) (by decide +kernel), List.mem_of_getElem? (i := 1248) (by decide +kernel)⟩
theorem lw_p51 : lw_okq (⟨"DinnerPleasModel", "turnsBy", "(III)I"⟩, 31) := ⟨⟨by decide +kernel, by decide +kernel⟩, List.mem_of_getElem? (i := 925) (by decide +kernel), List.mem_of_getElem? (i := 1251) (by decide +kernel), List.mem_of_getElem? (i := 1252) (by decide +kernel)⟩
theorem lw_p52 : lw_okq (⟨"DinnerPleasModel", "canBe", "(I)Z"⟩, 31) := ⟨⟨by decide +kernel, by decide +kernel⟩, List.mem_of_getElem? (i := 925) (by decide +kernel), List.mem_of_getElem? (i := 1255) (by decide +kernel), List.mem_of_getElem? (i := 1256) (by decide +kernel)⟩
theorem lw_p53 : lw_okq (⟨"DinnerPleasModel", "fraction", "(JJ)V"⟩, 31) := ⟨⟨by decide +kernel, by decide +kernel⟩, List.mem_of_getElem? (i := 925) (by decide +kernel), List.mem_of_getElem? (i := 1272) (by decide +kernel), List.mem_of_getElem? (i := 1273) (by decide +kernel)⟩
theorem lw_p54 : lw_okq (⟨"DinnerPleasModel", "lookAt", "(I)V"⟩, 31) := ⟨⟨by decide +kernel, by decide +kernel⟩, List.mem_of_getElem? (i := 925) (by decide +kernel), List.mem_of_getElem? (i := 1299) (by decide +kernel), List.mem_of_getElem? (i := 1300) (by decide +kernel)⟩
theorem lw_p55 : lw_okq (⟨"DinnerPleasModel", "takesFirst", "()Z"⟩, 31) := ⟨⟨by decide +kernel, by decide +kernel⟩, List.mem_of_getElem? (i := 925) (by decide +kernel), List.mem_of_getElem? (i := 1313) (by decide +kernel), List.mem_of_getElem? (i := 1314) (by decide +kernel)⟩
theorem lw_p56 : lw_okq (⟨"DinnerPleasModel", "isWord", "(IIIIII)Z"⟩, 31) := ⟨⟨by decide +kernel, by decide +kernel⟩, List.mem_of_getElem? (i := 925) (by decide +kernel), List.mem_of_getElem? (i := 1317) (by decide +kernel), List.mem_of_getElem? (i := 1318) (by decide +kernel)⟩
theorem lw_p57 : lw_okq (⟨"DinnerPleasModel", "goBehind", "()V"⟩, 31) := ⟨⟨by decide +kernel, by decide +kernel⟩, List.mem_of_getElem? (i := 925) (by decide +kernel), List.mem_of_getElem? (i := 1321) (by decide +kernel), List.mem_of_getElem? (i := 1322) (by decide +kernel)⟩
theorem lw_p58 : lw_okq (⟨"DinnerPleasModel", "takes", "(III)Z"⟩, 31) := ⟨⟨by decide +kernel, by decide +kernel⟩, List.mem_of_getElem? (i := 925) (by decide +kernel), List.mem_of_getElem? (i := 1325) (by decide +kernel), List.mem_of_getElem? (i := 1326) (by decide +kernel)⟩
theorem lw_p59 : lw_okq (⟨"DinnerPleasModel", "takesItem", "()Z"⟩, 31) := ⟨⟨by decide +kernel, by decide +kernel⟩, List.mem_of_getElem? (i := 925) (by decide +kernel), List.mem_of_getElem? (i := 1329) (by decide +kernel), List.mem_of_getElem? (i := 1330) (by decide +kernel)⟩
theorem lw_p60 : lw_okq (⟨"DinnerPleasModel", "takesDish", "()Z"⟩, 31) := ⟨⟨by decide +kernel, by decide +kernel⟩, List.mem_of_getElem? (i := 925) (by decide +kernel), List.mem_of_getElem? (i := 1333) (by decide +kernel), List.mem_of_getElem? (i := 1334) (by decide +kernel)⟩
theorem lw_p61 : lw_okq (⟨"DinnerPleasModel", "takesBook", "(I)Z"⟩, 31) := ⟨⟨by decide +kernel, by decide +kernel⟩, List.mem_of_getElem? (i := 925) (by decide +kernel), List.mem_of_getElem? (i := 1337) (by decide +kernel), List.mem_of_getElem? (i := 1338) (by decide +kernel)⟩
theorem lw_p62 : lw_okq (⟨"DinnerPleasModel", "counted", "(I)I"⟩, 31) := ⟨⟨by decide +kernel, by decide +kernel⟩, List.mem_of_getElem? (i := 925) (by decide +kernel), List.mem_of_getElem? (i := 1361) (by decide +kernel), List.mem_of_getElem? (i := 1362) (by decide +kernel)⟩
theorem lw_p63 : lw_okq (⟨"DinnerPleasModel", "sums", "(JII)J"⟩, 31) := ⟨⟨by decide +kernel, by decide +kernel⟩, List.mem_of_getElem? (i := 925) (by decide +kernel), List.mem_of_getElem? (i := 1371) (by decide +kernel), List.mem_of_getElem? (i := 1372) (by decide +kernel)⟩
def lw_privs_4 : List (MethodName × Nat) := [(⟨"DinnerPleasModel", "butterOf", "(I)I"⟩, 31), (⟨"DinnerPleasModel", "cancels", "(III)Z"⟩, 31), (⟨"DinnerPleasModel", "layTurns", "()V"⟩, 31), (⟨"DinnerPleasModel", "turnsBy", "(III)I"⟩, 31), (⟨"DinnerPleasModel", "canBe", "(I)Z"⟩, 31), (⟨"DinnerPleasModel", "fraction", "(JJ)V"⟩, 31), (⟨"DinnerPleasModel", "lookAt", "(I)V"⟩, 31), (⟨"DinnerPleasModel", "takesFirst", "()Z"⟩, 31), (⟨"DinnerPleasModel", "isWord", "(IIIIII)Z"⟩, 31), (⟨"DinnerPleasModel", "goBehind", "()V"⟩, 31), (⟨"DinnerPleasModel", "takes", "(III)Z"⟩, 31), (⟨"DinnerPleasModel", "takesItem", "()Z"⟩, 31), (⟨"DinnerPleasModel", "takesDish", "()Z"⟩, 31), (⟨"DinnerPleasModel", "takesBook", "(I)Z"⟩, 31), (⟨"DinnerPleasModel", "counted", "(I)I"⟩, 31), (⟨"DinnerPleasModel", "sums", "(JII)J"⟩, 31)]
theorem lw_r4 : ∀ q ∈ lw_privs_4, lw_okq q := List.forall_mem_cons.mpr ⟨lw_p48, List.forall_mem_cons.mpr ⟨lw_p49, List.forall_mem_cons.mpr ⟨lw_p50, List.forall_mem_cons.mpr ⟨lw_p51, List.forall_mem_cons.mpr ⟨lw_p52, List.forall_mem_cons.mpr ⟨lw_p53, List.forall_mem_cons.mpr ⟨lw_p54, List.forall_mem_cons.mpr ⟨lw_p55, List.forall_mem_cons.mpr ⟨lw_p56, List.forall_mem_cons.mpr ⟨lw_p57, List.forall_mem_cons.mpr ⟨lw_p58, List.forall_mem_cons.mpr ⟨lw_p59, List.forall_mem_cons.mpr ⟨lw_p60, List.forall_mem_cons.mpr ⟨lw_p61, List.forall_mem_cons.mpr ⟨lw_p62, List.forall_mem_cons.mpr ⟨lw_p63, fun _ h => absurd h List.not_mem_nil⟩⟩⟩⟩⟩⟩⟩⟩⟩⟩⟩⟩⟩⟩⟩⟩
def lw_privs : List (MethodName × Nat) := lw_privs_1 ++ (lw_privs_2 ++ (lw_privs_3 ++ (lw_privs_4)))
def lw_tbl : List Cond := k2_sels lw_privs ++ tables_1
theorem lw_privs_ok : ∀ q ∈ lw_privs, lw_okq q := by
  show ∀ q ∈ lw_privs_1 ++ (lw_privs_2 ++ (lw_privs_3 ++ (lw_privs_4))), lw_okq q
  exact List.forall_mem_append.mpr ⟨lw_r1, List.forall_mem_append.mpr ⟨lw_r2, List.forall_mem_append.mpr ⟨lw_r3, lw_r4⟩⟩⟩
end
section
def RX0 : String := "DinnerPleas$Court"
def TX0 : u_T := fun k => match k with
  | 0 => ("DinnerPleas$Court", "dishes", "LDinnerPleas$Rows;", true)
  | 1 => ("DinnerPleas$Court", "follows", "LDinnerPleas$Rows;", true)
  | 2 => ("DinnerPleas$Court", "courses", "LDinnerPleas$Rows;", true)
  | 3 => ("DinnerPleas$Court", "row", "LDinnerPleas$Rows;", true)
  | 4 => ("DinnerPleas$Court", "readings", "LDinnerPleas$Rows;", true)
  | 5 => ("DinnerPleas$Court", "hunger", "I", false)
  | _ => ("DinnerPleas$Court", "leaning", "I", false)
def tyX0 : Nat → FieldType := fun k => match k with
  | 0 => .object "DinnerPleas$Rows"
  | 1 => .object "DinnerPleas$Rows"
  | 2 => .object "DinnerPleas$Rows"
  | 3 => .object "DinnerPleas$Rows"
  | 4 => .object "DinnerPleas$Rows"
  | 5 => .int
  | _ => .int
abbrev wsX00 : List Cond := u_ws RX0 TX0 7
theorem nmX0 : ∀ a, a < 7 → ∀ b, b < 7 → a ≠ b → (TX0 a).2.1 ≠ (TX0 b).2.1 := by decide +kernel
theorem tyX0_ok : ∀ k, k < 7 → parseFieldDescriptor (TX0 k).2.2.1 = some (tyX0 k) := by decide +kernel
abbrev cX0_init : ByteArray := prog_2_method_1_code
def yX0_init : MethodName := ⟨RX0, "<init>", "()V"⟩
abbrev cX0_startAnew : ByteArray := prog_2_method_2_code
def yX0_startAnew : MethodName := ⟨RX0, "startAnew", "(I)V"⟩
abbrev cX0_takeFrom : ByteArray := prog_2_method_3_code
def yX0_takeFrom : MethodName := ⟨RX0, "takeFrom", "(LDinnerPleas$Court;)V"⟩
abbrev cX0_hasDish : ByteArray := prog_2_method_4_code
def yX0_hasDish : MethodName := ⟨RX0, "hasDish", "(I)Z"⟩
abbrev cX0_isOnMenu : ByteArray := prog_2_method_5_code
def yX0_isOnMenu : MethodName := ⟨RX0, "isOnMenu", "(I)Z"⟩
abbrev cX0_servedSet : ByteArray := prog_2_method_6_code
def yX0_servedSet : MethodName := ⟨RX0, "servedSet", "()I"⟩
abbrev cX0_lastDish : ByteArray := prog_2_method_7_code
def yX0_lastDish : MethodName := ⟨RX0, "lastDish", "()I"⟩
abbrev cX0_hungerBehind : ByteArray := prog_2_method_8_code
def yX0_hungerBehind : MethodName := ⟨RX0, "hungerBehind", "(I)I"⟩
abbrev cX0_isFree : ByteArray := prog_2_method_9_code
def yX0_isFree : MethodName := ⟨RX0, "isFree", "(II)Z"⟩
abbrev cX0_mayServe : ByteArray := prog_2_method_10_code
def yX0_mayServe : MethodName := ⟨RX0, "mayServe", "(III)Z"⟩
abbrev cX0_does : ByteArray := prog_2_method_11_code
def yX0_does : MethodName := ⟨RX0, "does", "(III)I"⟩
abbrev cX0_addCourse : ByteArray := prog_2_method_12_code
def yX0_addCourse : MethodName := ⟨RX0, "addCourse", "(II)I"⟩
abbrev cX0_dropCourse : ByteArray := prog_2_method_13_code
def yX0_dropCourse : MethodName := ⟨RX0, "dropCourse", "()V"⟩
abbrev cX0_addReading : ByteArray := prog_2_method_14_code
def yX0_addReading : MethodName := ⟨RX0, "addReading", "(II)Z"⟩
def RX1 : String := "DinnerPleas$Evening"
def TX1 : u_T := fun k => match k with
  | 0 => ("DinnerPleas$Evening", "court", "LDinnerPleas$Court;", true)
  | 1 => ("DinnerPleas$Evening", "served", "I", false)
  | 2 => ("DinnerPleas$Evening", "last", "I", false)
  | _ => ("DinnerPleas$Evening", "lean", "I", false)
def tyX1 : Nat → FieldType := fun k => match k with
  | 0 => .object "DinnerPleas$Court"
  | 1 => .int
  | 2 => .int
  | _ => .int
abbrev wsX10 : List Cond := u_ws RX1 TX1 4
theorem nmX1 : ∀ a, a < 4 → ∀ b, b < 4 → a ≠ b → (TX1 a).2.1 ≠ (TX1 b).2.1 := by decide +kernel
theorem tyX1_ok : ∀ k, k < 4 → parseFieldDescriptor (TX1 k).2.2.1 = some (tyX1 k) := by decide +kernel
abbrev cX1_init : ByteArray := prog_3_method_1_code
def yX1_init : MethodName := ⟨RX1, "<init>", "(LDinnerPleas$Court;)V"⟩
abbrev cX1_beginNow : ByteArray := prog_3_method_2_code
def yX1_beginNow : MethodName := ⟨RX1, "beginNow", "()V"⟩
abbrev cX1_beginFromNothing : ByteArray := prog_3_method_3_code
def yX1_beginFromNothing : MethodName := ⟨RX1, "beginFromNothing", "()V"⟩
abbrev cX1_serveBy : ByteArray := prog_3_method_4_code
def yX1_serveBy : MethodName := ⟨RX1, "serveBy", "(II)I"⟩
abbrev cX1_verdictNow : ByteArray := prog_3_method_5_code
def yX1_verdictNow : MethodName := ⟨RX1, "verdictNow", "()I"⟩
abbrev cX1_cancels : ByteArray := prog_3_method_6_code
def yX1_cancels : MethodName := ⟨RX1, "cancels", "(II)Z"⟩
abbrev cX1_overturns : ByteArray := prog_3_method_7_code
def yX1_overturns : MethodName := ⟨RX1, "overturns", "(II)Z"⟩
abbrev cX1_dineBy : ByteArray := prog_3_method_8_code
def yX1_dineBy : MethodName := ⟨RX1, "dineBy", "(J)J"⟩
abbrev cX1_staysBehind : ByteArray := prog_3_method_9_code
def yX1_staysBehind : MethodName := ⟨RX1, "staysBehind", "(III)Z"⟩
def RX2 : String := "DinnerPleas$Image"
def TX2 : u_T := fun k => match k with
  | 0 => ("DinnerPleas$Image", "court", "LDinnerPleas$Court;", true)
  | _ => ("DinnerPleas$Image", "kept", "Z", false)
def tyX2 : Nat → FieldType := fun k => match k with
  | 0 => .object "DinnerPleas$Court"
  | _ => .boolean
abbrev wsX20 : List Cond := u_ws RX2 TX2 2
theorem nmX2 : ∀ a, a < 2 → ∀ b, b < 2 → a ≠ b → (TX2 a).2.1 ≠ (TX2 b).2.1 := by decide +kernel
theorem tyX2_ok : ∀ k, k < 2 → parseFieldDescriptor (TX2 k).2.2.1 = some (tyX2 k) := by decide +kernel
abbrev cX2_init : ByteArray := prog_4_method_1_code
def yX2_init : MethodName := ⟨RX2, "<init>", "()V"⟩
abbrev cX2_isKept : ByteArray := prog_4_method_2_code
def yX2_isKept : MethodName := ⟨RX2, "isKept", "()Z"⟩
abbrev cX2_keep : ByteArray := prog_4_method_3_code
def yX2_keep : MethodName := ⟨RX2, "keep", "(LDinnerPleas$Court;)V"⟩
abbrev cX2_giveTo : ByteArray := prog_4_method_4_code
def yX2_giveTo : MethodName := ⟨RX2, "giveTo", "(LDinnerPleas$Court;)V"⟩
def RX3 : String := "DinnerPleas$Pardon"
def TX3 : u_T := fun k => match k with
  | 0 => ("DinnerPleas$Pardon", "court", "LDinnerPleas$Court;", true)
  | 1 => ("DinnerPleas$Pardon", "trial", "LDinnerPleas$Rows;", true)
  | 2 => ("DinnerPleas$Pardon", "best", "LDinnerPleas$Rows;", true)
  | _ => ("DinnerPleas$Pardon", "butter", "I", false)
def tyX3 : Nat → FieldType := fun k => match k with
  | 0 => .object "DinnerPleas$Court"
  | 1 => .object "DinnerPleas$Rows"
  | 2 => .object "DinnerPleas$Rows"
  | _ => .int
abbrev wsX30 : List Cond := u_ws RX3 TX3 4
theorem nmX3 : ∀ a, a < 4 → ∀ b, b < 4 → a ≠ b → (TX3 a).2.1 ≠ (TX3 b).2.1 := by decide +kernel
theorem tyX3_ok : ∀ k, k < 4 → parseFieldDescriptor (TX3 k).2.2.1 = some (tyX3 k) := by decide +kernel
abbrev cX3_init : ByteArray := prog_5_method_1_code
def yX3_init : MethodName := ⟨RX3, "<init>", "(LDinnerPleas$Court;)V"⟩
abbrev cX3_spent : ByteArray := prog_5_method_2_code
def yX3_spent : MethodName := ⟨RX3, "spent", "()I"⟩
abbrev cX3_many : ByteArray := prog_5_method_3_code
def yX3_many : MethodName := ⟨RX3, "many", "()I"⟩
abbrev cX3_dishAt : ByteArray := prog_5_method_4_code
def yX3_dishAt : MethodName := ⟨RX3, "dishAt", "(I)I"⟩
abbrev cX3_seek : ByteArray := prog_5_method_5_code
def yX3_seek : MethodName := ⟨RX3, "seek", "(I)V"⟩
abbrev cX3_tryBehind : ByteArray := prog_5_method_6_code
def yX3_tryBehind : MethodName := ⟨RX3, "tryBehind", "(IIIIII)V"⟩
abbrev cX3_isBetter : ByteArray := prog_5_method_7_code
def yX3_isBetter : MethodName := ⟨RX3, "isBetter", "(II)Z"⟩
def RX4 : String := "DinnerPleas$Play"
def TX4 : u_T := fun k => match k with
  | 0 => ("DinnerPleas$Play", "court", "LDinnerPleas$Court;", true)
  | 1 => ("DinnerPleas$Play", "gain", "I", false)
  | _ => ("DinnerPleas$Play", "opening", "I", false)
def tyX4 : Nat → FieldType := fun k => match k with
  | 0 => .object "DinnerPleas$Court"
  | 1 => .int
  | _ => .int
abbrev wsX40 : List Cond := u_ws RX4 TX4 3
theorem nmX4 : ∀ a, a < 3 → ∀ b, b < 3 → a ≠ b → (TX4 a).2.1 ≠ (TX4 b).2.1 := by decide +kernel
theorem tyX4_ok : ∀ k, k < 3 → parseFieldDescriptor (TX4 k).2.2.1 = some (tyX4 k) := by decide +kernel
abbrev cX4_init : ByteArray := prog_6_method_1_code
def yX4_init : MethodName := ⟨RX4, "<init>", "(LDinnerPleas$Court;)V"⟩
abbrev cX4_gain : ByteArray := prog_6_method_2_code
def yX4_gain : MethodName := ⟨RX4, "gain", "()I"⟩
abbrev cX4_opening : ByteArray := prog_6_method_3_code
def yX4_opening : MethodName := ⟨RX4, "opening", "()I"⟩
abbrev cX4_solve : ByteArray := prog_6_method_4_code
def yX4_solve : MethodName := ⟨RX4, "solve", "(II)V"⟩
abbrev cX4_takeIfBetter : ByteArray := prog_6_method_5_code
def yX4_takeIfBetter : MethodName := ⟨RX4, "takeIfBetter", "(II)V"⟩
abbrev cX4_ifServed : ByteArray := prog_6_method_6_code
def yX4_ifServed : MethodName := ⟨RX4, "ifServed", "(IIIIIII)I"⟩
abbrev cX4_ifNone : ByteArray := prog_6_method_7_code
def yX4_ifNone : MethodName := ⟨RX4, "ifNone", "(IIIIII)I"⟩
abbrev cX4_gains : ByteArray := prog_6_method_8_code
def yX4_gains : MethodName := ⟨RX4, "gains", "(IIIIII)I"⟩
def RX5 : String := "DinnerPleas$Reader"
def TX5 : u_T := fun k => match k with
  | 0 => ("DinnerPleas$Reader", "text", "LDinnerPleas$Rows;", true)
  | 1 => ("DinnerPleas$Reader", "numbers", "LDinnerPleas$Rows;", true)
  | 2 => ("DinnerPleas$Reader", "at", "I", false)
  | 3 => ("DinnerPleas$Reader", "start", "I", false)
  | 4 => ("DinnerPleas$Reader", "token", "I", false)
  | _ => ("DinnerPleas$Reader", "value", "I", false)
def tyX5 : Nat → FieldType := fun k => match k with
  | 0 => .object "DinnerPleas$Rows"
  | 1 => .object "DinnerPleas$Rows"
  | 2 => .int
  | 3 => .int
  | 4 => .int
  | _ => .int
abbrev wsX50 : List Cond := u_ws RX5 TX5 6
theorem nmX5 : ∀ a, a < 6 → ∀ b, b < 6 → a ≠ b → (TX5 a).2.1 ≠ (TX5 b).2.1 := by decide +kernel
theorem tyX5_ok : ∀ k, k < 6 → parseFieldDescriptor (TX5 k).2.2.1 = some (tyX5 k) := by decide +kernel
abbrev cX5_init : ByteArray := prog_7_method_1_code
def yX5_init : MethodName := ⟨RX5, "<init>", "(LDinnerPleas$Rows;)V"⟩
abbrev cX5_readInto : ByteArray := prog_7_method_2_code
def yX5_readInto : MethodName := ⟨RX5, "readInto", "(LDinnerPleas$Court;)I"⟩
abbrev cX5_takesItem : ByteArray := prog_7_method_3_code
def yX5_takesItem : MethodName := ⟨RX5, "takesItem", "(LDinnerPleas$Court;Z)Z"⟩
abbrev cX5_takesCourt : ByteArray := prog_7_method_4_code
def yX5_takesCourt : MethodName := ⟨RX5, "takesCourt", "(LDinnerPleas$Court;)Z"⟩
abbrev cX5_takesDish : ByteArray := prog_7_method_5_code
def yX5_takesDish : MethodName := ⟨RX5, "takesDish", "(LDinnerPleas$Court;)Z"⟩
abbrev cX5_takesFollows : ByteArray := prog_7_method_6_code
def yX5_takesFollows : MethodName := ⟨RX5, "takesFollows", "(LDinnerPleas$Court;I)Z"⟩
abbrev cX5_takesNumbers : ByteArray := prog_7_method_7_code
def yX5_takesNumbers : MethodName := ⟨RX5, "takesNumbers", "([I[I)Z"⟩
abbrev cX5_isWord : ByteArray := prog_7_method_8_code
def yX5_isWord : MethodName := ⟨RX5, "isWord", "(Ljava/lang/String;)Z"⟩
abbrev cX5_next : ByteArray := prog_7_method_9_code
def yX5_next : MethodName := ⟨RX5, "next", "()V"⟩
abbrev cX5_sortOf : ByteArray := prog_7_method_10_code
def yX5_sortOf : MethodName := ⟨RX5, "sortOf", "(I)I"⟩
def RX6 : String := "DinnerPleas$Rows"
def TX6 : u_T := fun k => match k with
  | 0 => ("DinnerPleas$Rows", "most", "I", true)
  | 1 => ("DinnerPleas$Rows", "wide", "I", true)
  | 2 => ("DinnerPleas$Rows", "cells", "[I", true)
  | _ => ("DinnerPleas$Rows", "many", "I", false)
def tyX6 : Nat → FieldType := fun k => match k with
  | 0 => .int
  | 1 => .int
  | 2 => .array .int
  | _ => .int
abbrev wsX60 : List Cond := u_ws RX6 TX6 4
theorem nmX6 : ∀ a, a < 4 → ∀ b, b < 4 → a ≠ b → (TX6 a).2.1 ≠ (TX6 b).2.1 := by decide +kernel
theorem tyX6_ok : ∀ k, k < 4 → parseFieldDescriptor (TX6 k).2.2.1 = some (tyX6 k) := by decide +kernel
abbrev cX6_init : ByteArray := prog_8_method_1_code
def yX6_init : MethodName := ⟨RX6, "<init>", "(II)V"⟩
abbrev cX6_many : ByteArray := prog_8_method_2_code
def yX6_many : MethodName := ⟨RX6, "many", "()I"⟩
abbrev cX6_cell : ByteArray := prog_8_method_3_code
def yX6_cell : MethodName := ⟨RX6, "cell", "(II)I"⟩
abbrev cX6_put : ByteArray := prog_8_method_4_code
def yX6_put : MethodName := ⟨RX6, "put", "(III)V"⟩
abbrev cX6_grow : ByteArray := prog_8_method_5_code
def yX6_grow : MethodName := ⟨RX6, "grow", "()I"⟩
abbrev cX6_cut : ByteArray := prog_8_method_6_code
def yX6_cut : MethodName := ⟨RX6, "cut", "(I)V"⟩
abbrev cX6_takeFrom : ByteArray := prog_8_method_7_code
def yX6_takeFrom : MethodName := ⟨RX6, "takeFrom", "(LDinnerPleas$Rows;)V"⟩
abbrev cX6_mixInto : ByteArray := prog_8_method_8_code
def yX6_mixInto : MethodName := ⟨RX6, "mixInto", "(JI)J"⟩
abbrev cX6_mixRowInto : ByteArray := prog_8_method_9_code
def yX6_mixRowInto : MethodName := ⟨RX6, "mixRowInto", "(JII)J"⟩
def RX7 : String := "DinnerPleas$Span"
def TX7 : u_T := fun k => match k with
  | 0 => ("DinnerPleas$Span", "low", "I", false)
  | _ => ("DinnerPleas$Span", "high", "I", false)
def tyX7 : Nat → FieldType := fun k => match k with
  | 0 => .int
  | _ => .int
abbrev wsX70 : List Cond := u_ws RX7 TX7 2
theorem nmX7 : ∀ a, a < 2 → ∀ b, b < 2 → a ≠ b → (TX7 a).2.1 ≠ (TX7 b).2.1 := by decide +kernel
theorem tyX7_ok : ∀ k, k < 2 → parseFieldDescriptor (TX7 k).2.2.1 = some (tyX7 k) := by decide +kernel
abbrev cX7_init : ByteArray := prog_9_method_1_code
def yX7_init : MethodName := ⟨RX7, "<init>", "()V"⟩
abbrev cX7_widen : ByteArray := prog_9_method_2_code
def yX7_widen : MethodName := ⟨RX7, "widen", "()V"⟩
abbrev cX7_least : ByteArray := prog_9_method_3_code
def yX7_least : MethodName := ⟨RX7, "least", "()I"⟩
abbrev cX7_size : ByteArray := prog_9_method_4_code
def yX7_size : MethodName := ⟨RX7, "size", "()I"⟩
abbrev cX7_narrow : ByteArray := prog_9_method_5_code
def yX7_narrow : MethodName := ⟨RX7, "narrow", "(II)V"⟩
abbrev cX7_left : ByteArray := prog_9_method_6_code
def yX7_left : MethodName := ⟨RX7, "left", "(II)I"⟩
abbrev cX7_leastFor : ByteArray := prog_9_method_7_code
def yX7_leastFor : MethodName := ⟨RX7, "leastFor", "(II)I"⟩
abbrev cX7_mostFor : ByteArray := prog_9_method_8_code
def yX7_mostFor : MethodName := ⟨RX7, "mostFor", "(II)I"⟩
def RX8 : String := "DinnerPleas$Tasting"
def TX8 : u_T := fun k => match k with
  | 0 => ("DinnerPleas$Tasting", "court", "LDinnerPleas$Court;", true)
  | 1 => ("DinnerPleas$Tasting", "evening", "LDinnerPleas$Evening;", true)
  | 2 => ("DinnerPleas$Tasting", "row", "LDinnerPleas$Rows;", true)
  | _ => ("DinnerPleas$Tasting", "sum", "I", false)
def tyX8 : Nat → FieldType := fun k => match k with
  | 0 => .object "DinnerPleas$Court"
  | 1 => .object "DinnerPleas$Evening"
  | 2 => .object "DinnerPleas$Rows"
  | _ => .int
abbrev wsX80 : List Cond := u_ws RX8 TX8 4
theorem nmX8 : ∀ a, a < 4 → ∀ b, b < 4 → a ≠ b → (TX8 a).2.1 ≠ (TX8 b).2.1 := by decide +kernel
theorem tyX8_ok : ∀ k, k < 4 → parseFieldDescriptor (TX8 k).2.2.1 = some (tyX8 k) := by decide +kernel
abbrev cX8_init : ByteArray := prog_10_method_1_code
def yX8_init : MethodName := ⟨RX8, "<init>", "(LDinnerPleas$Court;)V"⟩
abbrev cX8_many : ByteArray := prog_10_method_2_code
def yX8_many : MethodName := ⟨RX8, "many", "()I"⟩
abbrev cX8_pull : ByteArray := prog_10_method_3_code
def yX8_pull : MethodName := ⟨RX8, "pull", "(I)I"⟩
abbrev cX8_pulled : ByteArray := prog_10_method_4_code
def yX8_pulled : MethodName := ⟨RX8, "pulled", "()I"⟩
abbrev cX8_menuFromNow : ByteArray := prog_10_method_5_code
def yX8_menuFromNow : MethodName := ⟨RX8, "menuFromNow", "(I)V"⟩
abbrev cX8_menuFromNothing : ByteArray := prog_10_method_6_code
def yX8_menuFromNothing : MethodName := ⟨RX8, "menuFromNothing", "(I)V"⟩
abbrev cX8_readingFromNothing : ByteArray := prog_10_method_7_code
def yX8_readingFromNothing : MethodName := ⟨RX8, "readingFromNothing", "(I)V"⟩
abbrev cX8_waysTo : ByteArray := prog_10_method_8_code
def yX8_waysTo : MethodName := ⟨RX8, "waysTo", "(II)J"⟩
abbrev cX8_pullOf : ByteArray := prog_10_method_9_code
def yX8_pullOf : MethodName := ⟨RX8, "pullOf", "(I)I"⟩
abbrev cX8_takeMenu : ByteArray := prog_10_method_10_code
def yX8_takeMenu : MethodName := ⟨RX8, "takeMenu", "()V"⟩
abbrev cX8_serveAll : ByteArray := prog_10_method_11_code
def yX8_serveAll : MethodName := ⟨RX8, "serveAll", "(I)V"⟩
def RX9 : String := "DinnerPleas"
def TX9 : u_T := fun k => match k with
  | 0 => ("DinnerPleas", "now", "LDinnerPleas$Court;", true)
  | 1 => ("DinnerPleas", "draft", "LDinnerPleas$Court;", true)
  | 2 => ("DinnerPleas", "image0", "LDinnerPleas$Image;", true)
  | 3 => ("DinnerPleas", "image1", "LDinnerPleas$Image;", true)
  | 4 => ("DinnerPleas", "text", "LDinnerPleas$Rows;", true)
  | 5 => ("DinnerPleas", "reader", "LDinnerPleas$Reader;", true)
  | 6 => ("DinnerPleas", "evening", "LDinnerPleas$Evening;", true)
  | 7 => ("DinnerPleas", "tasting", "LDinnerPleas$Tasting;", true)
  | 8 => ("DinnerPleas", "bestPlay", "LDinnerPleas$Play;", true)
  | 9 => ("DinnerPleas", "cheapest", "LDinnerPleas$Pardon;", true)
  | 10 => ("DinnerPleas", "span", "LDinnerPleas$Span;", true)
  | 11 => ("DinnerPleas", "above", "J", false)
  | 12 => ("DinnerPleas", "below", "J", false)
  | 13 => ("DinnerPleas", "bads", "I", false)
  | 14 => ("DinnerPleas", "nos", "I", false)
  | _ => ("DinnerPleas", "fulls", "I", false)
def tyX9 : Nat → FieldType := fun k => match k with
  | 0 => .object "DinnerPleas$Court"
  | 1 => .object "DinnerPleas$Court"
  | 2 => .object "DinnerPleas$Image"
  | 3 => .object "DinnerPleas$Image"
  | 4 => .object "DinnerPleas$Rows"
  | 5 => .object "DinnerPleas$Reader"
  | 6 => .object "DinnerPleas$Evening"
  | 7 => .object "DinnerPleas$Tasting"
  | 8 => .object "DinnerPleas$Play"
  | 9 => .object "DinnerPleas$Pardon"
  | 10 => .object "DinnerPleas$Span"
  | 11 => .long
  | 12 => .long
  | 13 => .int
  | 14 => .int
  | _ => .int
abbrev wsX90 : List Cond := u_ws RX9 TX9 16
theorem nmX9 : ∀ a, a < 16 → ∀ b, b < 16 → a ≠ b → (TX9 a).2.1 ≠ (TX9 b).2.1 := by decide +kernel
theorem tyX9_ok : ∀ k, k < 16 → parseFieldDescriptor (TX9 k).2.2.1 = some (tyX9 k) := by decide +kernel
abbrev cX9_init : ByteArray := prog_1_method_1_code
def yX9_init : MethodName := ⟨RX9, "<init>", "()V"⟩
abbrev cX9_court : ByteArray := prog_1_method_2_code
def yX9_court : MethodName := ⟨RX9, "court", "(I)I"⟩
abbrev cX9_dish : ByteArray := prog_1_method_3_code
def yX9_dish : MethodName := ⟨RX9, "dish", "(IIIII)I"⟩
abbrev cX9_book : ByteArray := prog_1_method_4_code
def yX9_book : MethodName := ⟨RX9, "book", "(III)I"⟩
abbrev cX9_lean : ByteArray := prog_1_method_5_code
def yX9_lean : MethodName := ⟨RX9, "lean", "(I)I"⟩
abbrev cX9_type : ByteArray := prog_1_method_6_code
def yX9_type : MethodName := ⟨RX9, "type", "(I)I"⟩
abbrev cX9_clear : ByteArray := prog_1_method_7_code
def yX9_clear : MethodName := ⟨RX9, "clear", "()I"⟩
abbrev cX9_read : ByteArray := prog_1_method_8_code
def yX9_read : MethodName := ⟨RX9, "read", "()I"⟩
abbrev cX9_serve : ByteArray := prog_1_method_9_code
def yX9_serve : MethodName := ⟨RX9, "serve", "(II)I"⟩
abbrev cX9_undo : ByteArray := prog_1_method_10_code
def yX9_undo : MethodName := ⟨RX9, "undo", "()I"⟩
abbrev cX9_of : ByteArray := prog_1_method_11_code
def yX9_of : MethodName := ⟨RX9, "of", "(II)I"⟩
abbrev cX9_course : ByteArray := prog_1_method_12_code
def yX9_course : MethodName := ⟨RX9, "course", "(II)I"⟩
abbrev cX9_leans : ByteArray := prog_1_method_13_code
def yX9_leans : MethodName := ⟨RX9, "leans", "()I"⟩
abbrev cX9_verdict : ByteArray := prog_1_method_14_code
def yX9_verdict : MethodName := ⟨RX9, "verdict", "()I"⟩
abbrev cX9_menu : ByteArray := prog_1_method_15_code
def yX9_menu : MethodName := ⟨RX9, "menu", "(I)I"⟩
abbrev cX9_wipe : ByteArray := prog_1_method_16_code
def yX9_wipe : MethodName := ⟨RX9, "wipe", "()I"⟩
abbrev cX9_comes : ByteArray := prog_1_method_17_code
def yX9_comes : MethodName := ⟨RX9, "comes", "(I)I"⟩
abbrev cX9_did : ByteArray := prog_1_method_18_code
def yX9_did : MethodName := ⟨RX9, "did", "(II)I"⟩
abbrev cX9_play : ByteArray := prog_1_method_19_code
def yX9_play : MethodName := ⟨RX9, "play", "(II)I"⟩
abbrev cX9_first : ByteArray := prog_1_method_20_code
def yX9_first : MethodName := ⟨RX9, "first", "(II)I"⟩
abbrev cX9_pardon : ByteArray := prog_1_method_21_code
def yX9_pardon : MethodName := ⟨RX9, "pardon", "(II)I"⟩
abbrev cX9_cancel : ByteArray := prog_1_method_22_code
def yX9_cancel : MethodName := ⟨RX9, "cancel", "(I)I"⟩
abbrev cX9_undoes : ByteArray := prog_1_method_23_code
def yX9_undoes : MethodName := ⟨RX9, "undoes", "(I)I"⟩
abbrev cX9_reading : ByteArray := prog_1_method_24_code
def yX9_reading : MethodName := ⟨RX9, "reading", "(II)I"⟩
abbrev cX9_forget : ByteArray := prog_1_method_25_code
def yX9_forget : MethodName := ⟨RX9, "forget", "()I"⟩
abbrev cX9_before : ByteArray := prog_1_method_26_code
def yX9_before : MethodName := ⟨RX9, "before", "(I)I"⟩
abbrev cX9_tells : ByteArray := prog_1_method_27_code
def yX9_tells : MethodName := ⟨RX9, "tells", "(I)I"⟩
abbrev cX9_sure : ByteArray := prog_1_method_28_code
def yX9_sure : MethodName := ⟨RX9, "sure", "(I)I"⟩
abbrev cX9_burnt : ByteArray := prog_1_method_29_code
def yX9_burnt : MethodName := ⟨RX9, "burnt", "(III)I"⟩
abbrev cX9_dinners : ByteArray := prog_1_method_30_code
def yX9_dinners : MethodName := ⟨RX9, "dinners", "(II)I"⟩
abbrev cX9_part : ByteArray := prog_1_method_31_code
def yX9_part : MethodName := ⟨RX9, "part", "(I)J"⟩
abbrev cX9_image : ByteArray := prog_1_method_32_code
def yX9_image : MethodName := ⟨RX9, "image", "(I)I"⟩
abbrev cX9_from : ByteArray := prog_1_method_33_code
def yX9_from : MethodName := ⟨RX9, "from", "(I)I"⟩
abbrev cX9_status : ByteArray := prog_1_method_34_code
def yX9_status : MethodName := ⟨RX9, "status", "(I)I"⟩
abbrev cX9_count : ByteArray := prog_1_method_35_code
def yX9_count : MethodName := ⟨RX9, "count", "(I)I"⟩
abbrev cX9_digest : ByteArray := prog_1_method_36_code
def yX9_digest : MethodName := ⟨RX9, "digest", "()J"⟩
abbrev cX9_refuse : ByteArray := prog_1_method_37_code
def yX9_refuse : MethodName := ⟨RX9, "refuse", "(II)I"⟩
abbrev cX9_howMany : ByteArray := prog_1_method_38_code
def yX9_howMany : MethodName := ⟨RX9, "howMany", "(I)I"⟩
abbrev cX9_imageAt : ByteArray := prog_1_method_39_code
def yX9_imageAt : MethodName := ⟨RX9, "imageAt", "(I)LDinnerPleas$Image;"⟩
abbrev cX9_fitReadings : ByteArray := prog_1_method_40_code
def yX9_fitReadings : MethodName := ⟨RX9, "fitReadings", "()V"⟩
abbrev cX9_setFraction : ByteArray := prog_1_method_41_code
def yX9_setFraction : MethodName := ⟨RX9, "setFraction", "(JJ)V"⟩
abbrev cX9_isWithin : ByteArray := prog_1_method_42_code
def yX9_isWithin : MethodName := ⟨RX9, "isWithin", "(III)Z"⟩
abbrev cX9_isSide : ByteArray := prog_1_method_43_code
def yX9_isSide : MethodName := ⟨RX9, "isSide", "(I)Z"⟩
abbrev cX9_isTaste : ByteArray := prog_1_method_44_code
def yX9_isTaste : MethodName := ⟨RX9, "isTaste", "(I)Z"⟩
abbrev cX9_isVerdict : ByteArray := prog_1_method_45_code
def yX9_isVerdict : MethodName := ⟨RX9, "isVerdict", "(I)Z"⟩
abbrev cX9_fitsDish : ByteArray := prog_1_method_46_code
def yX9_fitsDish : MethodName := ⟨RX9, "fitsDish", "(II)Z"⟩
abbrev cX9_verdictOf : ByteArray := prog_1_method_47_code
def yX9_verdictOf : MethodName := ⟨RX9, "verdictOf", "(I)I"⟩
abbrev cX9_power : ByteArray := prog_1_method_48_code
def yX9_power : MethodName := ⟨RX9, "power", "(IIIIZZ)I"⟩
abbrev cX9_toSide : ByteArray := prog_1_method_49_code
def yX9_toSide : MethodName := ⟨RX9, "toSide", "(II)I"⟩
abbrev cX9_holds : ByteArray := prog_1_method_50_code
def yX9_holds : MethodName := ⟨RX9, "holds", "(II)Z"⟩
abbrev cX9_with : ByteArray := prog_1_method_51_code
def yX9_with : MethodName := ⟨RX9, "with", "(II)I"⟩
abbrev cX9_mix : ByteArray := prog_1_method_52_code
def yX9_mix : MethodName := ⟨RX9, "mix", "(JJ)J"⟩
abbrev cX9_toPower : ByteArray := prog_1_method_53_code
def yX9_toPower : MethodName := ⟨RX9, "toPower", "(JI)J"⟩
abbrev cX9_commonDivisor : ByteArray := prog_1_method_54_code
def yX9_commonDivisor : MethodName := ⟨RX9, "commonDivisor", "(JJ)J"⟩
def RX10 : String := "DinnerPleasModel"
def TX10 : u_T := fun k => match k with
  | 0 => ("DinnerPleasModel", "now", "[I", true)
  | 1 => ("DinnerPleasModel", "kept", "[I", true)
  | 2 => ("DinnerPleasModel", "isKept", "[Z", true)
  | 3 => ("DinnerPleasModel", "refused", "[I", true)
  | 4 => ("DinnerPleasModel", "above", "J", false)
  | 5 => ("DinnerPleasModel", "below", "J", false)
  | 6 => ("DinnerPleasModel", "leaning", "I", false)
  | 7 => ("DinnerPleasModel", "served", "I", false)
  | 8 => ("DinnerPleasModel", "courses", "I", false)
  | 9 => ("DinnerPleasModel", "last", "I", false)
  | 10 => ("DinnerPleasModel", "dids", "[I", true)
  | 11 => ("DinnerPleasModel", "leansAt", "[I", true)
  | 12 => ("DinnerPleasModel", "servedAt", "[I", true)
  | 13 => ("DinnerPleasModel", "coursesAt", "[I", true)
  | 14 => ("DinnerPleasModel", "lastAt", "[I", true)
  | 15 => ("DinnerPleasModel", "tries", "[I", true)
  | 16 => ("DinnerPleasModel", "bestAt", "[I", true)
  | 17 => ("DinnerPleasModel", "firstDish", "I", false)
  | 18 => ("DinnerPleasModel", "bestRow", "[I", true)
  | 19 => ("DinnerPleasModel", "bestMany", "I", false)
  | 20 => ("DinnerPleasModel", "bestButter", "I", false)
  | 21 => ("DinnerPleasModel", "turns", "[I", true)
  | 22 => ("DinnerPleasModel", "manyBy", "[I", true)
  | 23 => ("DinnerPleasModel", "bytes", "[I", true)
  | 24 => ("DinnerPleasModel", "bytesLong", "I", false)
  | 25 => ("DinnerPleasModel", "tokenAt", "I", false)
  | 26 => ("DinnerPleasModel", "tokenLong", "I", false)
  | 27 => ("DinnerPleasModel", "token", "I", false)
  | 28 => ("DinnerPleasModel", "value", "I", false)
  | 29 => ("DinnerPleasModel", "anew", "[I", true)
  | _ => ("DinnerPleasModel", "values", "[I", true)
def tyX10 : Nat → FieldType := fun k => match k with
  | 0 => .array .int
  | 1 => .array .int
  | 2 => .array .boolean
  | 3 => .array .int
  | 4 => .long
  | 5 => .long
  | 6 => .int
  | 7 => .int
  | 8 => .int
  | 9 => .int
  | 10 => .array .int
  | 11 => .array .int
  | 12 => .array .int
  | 13 => .array .int
  | 14 => .array .int
  | 15 => .array .int
  | 16 => .array .int
  | 17 => .int
  | 18 => .array .int
  | 19 => .int
  | 20 => .int
  | 21 => .array .int
  | 22 => .array .int
  | 23 => .array .int
  | 24 => .int
  | 25 => .int
  | 26 => .int
  | 27 => .int
  | 28 => .int
  | 29 => .array .int
  | _ => .array .int
abbrev wsX100 : List Cond := u_ws RX10 TX10 31
theorem nmX10 : ∀ a, a < 31 → ∀ b, b < 31 → a ≠ b → (TX10 a).2.1 ≠ (TX10 b).2.1 := by decide +kernel
theorem tyX10_ok : ∀ k, k < 31 → parseFieldDescriptor (TX10 k).2.2.1 = some (tyX10 k) := by decide +kernel
abbrev cX10_init : ByteArray := prog_12_method_1_code
def yX10_init : MethodName := ⟨RX10, "<init>", "()V"⟩
abbrev cX10_in : ByteArray := prog_12_method_3_code
def yX10_in : MethodName := ⟨RX10, "in", "(JJJ)Z"⟩
abbrev cX10_bad : ByteArray := prog_12_method_4_code
def yX10_bad : MethodName := ⟨RX10, "bad", "(I)I"⟩
abbrev cX10_no : ByteArray := prog_12_method_5_code
def yX10_no : MethodName := ⟨RX10, "no", "()I"⟩
abbrev cX10_full : ByteArray := prog_12_method_6_code
def yX10_full : MethodName := ⟨RX10, "full", "()I"⟩
abbrev cX10_begin : ByteArray := prog_12_method_7_code
def yX10_begin : MethodName := ⟨RX10, "begin", "([II)V"⟩
abbrev cX10_dishes : ByteArray := prog_12_method_8_code
def yX10_dishes : MethodName := ⟨RX10, "dishes", "()I"⟩
abbrev cX10_isDish : ByteArray := prog_12_method_9_code
def yX10_isDish : MethodName := ⟨RX10, "isDish", "(I)Z"⟩
abbrev cX10_isSide : ByteArray := prog_12_method_10_code
def yX10_isSide : MethodName := ⟨RX10, "isSide", "(I)Z"⟩
abbrev cX10_isTaste : ByteArray := prog_12_method_11_code
def yX10_isTaste : MethodName := ⟨RX10, "isTaste", "(I)Z"⟩
abbrev cX10_get : ByteArray := prog_12_method_12_code
def yX10_get : MethodName := ⟨RX10, "get", "(II)I"⟩
abbrev cX10_court : ByteArray := prog_12_method_13_code
def yX10_court : MethodName := ⟨RX10, "court", "(I)I"⟩
abbrev cX10_layDish : ByteArray := prog_12_method_14_code
def yX10_layDish : MethodName := ⟨RX10, "layDish", "([IIIIII)V"⟩
abbrev cX10_dish : ByteArray := prog_12_method_15_code
def yX10_dish : MethodName := ⟨RX10, "dish", "(IIIII)I"⟩
abbrev cX10_book : ByteArray := prog_12_method_16_code
def yX10_book : MethodName := ⟨RX10, "book", "(III)I"⟩
abbrev cX10_lean : ByteArray := prog_12_method_17_code
def yX10_lean : MethodName := ⟨RX10, "lean", "(I)I"⟩
abbrev cX10_layEmpty : ByteArray := prog_12_method_18_code
def yX10_layEmpty : MethodName := ⟨RX10, "layEmpty", "()V"⟩
abbrev cX10_layHand : ByteArray := prog_12_method_19_code
def yX10_layHand : MethodName := ⟨RX10, "layHand", "()V"⟩
abbrev cX10_hungry : ByteArray := prog_12_method_20_code
def yX10_hungry : MethodName := ⟨RX10, "hungry", "()I"⟩
abbrev cX10_sauce : ByteArray := prog_12_method_21_code
def yX10_sauce : MethodName := ⟨RX10, "sauce", "(I)I"⟩
abbrev cX10_power : ByteArray := prog_12_method_22_code
def yX10_power : MethodName := ⟨RX10, "power", "(I)I"⟩
abbrev cX10_does : ByteArray := prog_12_method_23_code
def yX10_does : MethodName := ⟨RX10, "does", "(I)I"⟩
abbrev cX10_comesOn : ByteArray := prog_12_method_24_code
def yX10_comesOn : MethodName := ⟨RX10, "comesOn", "(III)I"⟩
abbrev cX10_wasServed : ByteArray := prog_12_method_25_code
def yX10_wasServed : MethodName := ⟨RX10, "wasServed", "(I)Z"⟩
abbrev cX10_isOf : ByteArray := prog_12_method_26_code
def yX10_isOf : MethodName := ⟨RX10, "isOf", "(II)Z"⟩
abbrev cX10_mayServe : ByteArray := prog_12_method_27_code
def yX10_mayServe : MethodName := ⟨RX10, "mayServe", "(II)Z"⟩
abbrev cX10_verdictOf : ByteArray := prog_12_method_28_code
def yX10_verdictOf : MethodName := ⟨RX10, "verdictOf", "(I)I"⟩
abbrev cX10_serve : ByteArray := prog_12_method_29_code
def yX10_serve : MethodName := ⟨RX10, "serve", "(II)I"⟩
abbrev cX10_undo : ByteArray := prog_12_method_30_code
def yX10_undo : MethodName := ⟨RX10, "undo", "()I"⟩
abbrev cX10_of : ByteArray := prog_12_method_31_code
def yX10_of : MethodName := ⟨RX10, "of", "(II)I"⟩
abbrev cX10_course : ByteArray := prog_12_method_32_code
def yX10_course : MethodName := ⟨RX10, "course", "(II)I"⟩
abbrev cX10_leans : ByteArray := prog_12_method_33_code
def yX10_leans : MethodName := ⟨RX10, "leans", "()I"⟩
abbrev cX10_verdict : ByteArray := prog_12_method_34_code
def yX10_verdict : MethodName := ⟨RX10, "verdict", "()I"⟩
abbrev cX10_menu : ByteArray := prog_12_method_35_code
def yX10_menu : MethodName := ⟨RX10, "menu", "(I)I"⟩
abbrev cX10_wipe : ByteArray := prog_12_method_36_code
def yX10_wipe : MethodName := ⟨RX10, "wipe", "()I"⟩
abbrev cX10_goMenu : ByteArray := prog_12_method_37_code
def yX10_goMenu : MethodName := ⟨RX10, "goMenu", "(IIII)V"⟩
abbrev cX10_goNow : ByteArray := prog_12_method_38_code
def yX10_goNow : MethodName := ⟨RX10, "goNow", "(II)V"⟩
abbrev cX10_comes : ByteArray := prog_12_method_39_code
def yX10_comes : MethodName := ⟨RX10, "comes", "(I)I"⟩
abbrev cX10_did : ByteArray := prog_12_method_40_code
def yX10_did : MethodName := ⟨RX10, "did", "(II)I"⟩
abbrev cX10_layTurn : ByteArray := prog_12_method_41_code
def yX10_layTurn : MethodName := ⟨RX10, "layTurn", "(I)V"⟩
abbrev cX10_backTo : ByteArray := prog_12_method_42_code
def yX10_backTo : MethodName := ⟨RX10, "backTo", "(I)V"⟩
abbrev cX10_judge : ByteArray := prog_12_method_43_code
def yX10_judge : MethodName := ⟨RX10, "judge", "(III)V"⟩
abbrev cX10_layPlay : ByteArray := prog_12_method_44_code
def yX10_layPlay : MethodName := ⟨RX10, "layPlay", "(II)I"⟩
abbrev cX10_play : ByteArray := prog_12_method_45_code
def yX10_play : MethodName := ⟨RX10, "play", "(II)I"⟩
abbrev cX10_first : ByteArray := prog_12_method_46_code
def yX10_first : MethodName := ⟨RX10, "first", "(II)I"⟩
abbrev cX10_judgeRow : ByteArray := prog_12_method_47_code
def yX10_judgeRow : MethodName := ⟨RX10, "judgeRow", "(III)V"⟩
abbrev cX10_butterOf : ByteArray := prog_12_method_48_code
def yX10_butterOf : MethodName := ⟨RX10, "butterOf", "(I)I"⟩
abbrev cX10_layPardon : ByteArray := prog_12_method_49_code
def yX10_layPardon : MethodName := ⟨RX10, "layPardon", "(I)V"⟩
abbrev cX10_pardon : ByteArray := prog_12_method_50_code
def yX10_pardon : MethodName := ⟨RX10, "pardon", "(II)I"⟩
abbrev cX10_cancels : ByteArray := prog_12_method_51_code
def yX10_cancels : MethodName := ⟨RX10, "cancels", "(III)Z"⟩
abbrev cX10_cancel : ByteArray := prog_12_method_52_code
def yX10_cancel : MethodName := ⟨RX10, "cancel", "(I)I"⟩
abbrev cX10_undoes : ByteArray := prog_12_method_53_code
def yX10_undoes : MethodName := ⟨RX10, "undoes", "(I)I"⟩
abbrev cX10_reading : ByteArray := prog_12_method_54_code
def yX10_reading : MethodName := ⟨RX10, "reading", "(II)I"⟩
abbrev cX10_forget : ByteArray := prog_12_method_55_code
def yX10_forget : MethodName := ⟨RX10, "forget", "()I"⟩
abbrev cX10_turnsBy : ByteArray := prog_12_method_56_code
def yX10_turnsBy : MethodName := ⟨RX10, "turnsBy", "(III)I"⟩
abbrev cX10_layTurns : ByteArray := prog_12_method_57_code
def yX10_layTurns : MethodName := ⟨RX10, "layTurns", "()V"⟩
abbrev cX10_canBe : ByteArray := prog_12_method_58_code
def yX10_canBe : MethodName := ⟨RX10, "canBe", "(I)Z"⟩
abbrev cX10_before : ByteArray := prog_12_method_59_code
def yX10_before : MethodName := ⟨RX10, "before", "(I)I"⟩
abbrev cX10_tells : ByteArray := prog_12_method_60_code
def yX10_tells : MethodName := ⟨RX10, "tells", "(I)I"⟩
abbrev cX10_sure : ByteArray := prog_12_method_61_code
def yX10_sure : MethodName := ⟨RX10, "sure", "(I)I"⟩
abbrev cX10_fraction : ByteArray := prog_12_method_62_code
def yX10_fraction : MethodName := ⟨RX10, "fraction", "(JJ)V"⟩
abbrev cX10_burnt : ByteArray := prog_12_method_63_code
def yX10_burnt : MethodName := ⟨RX10, "burnt", "(III)I"⟩
abbrev cX10_dinners : ByteArray := prog_12_method_64_code
def yX10_dinners : MethodName := ⟨RX10, "dinners", "(II)I"⟩
abbrev cX10_type : ByteArray := prog_12_method_65_code
def yX10_type : MethodName := ⟨RX10, "type", "(I)I"⟩
abbrev cX10_clear : ByteArray := prog_12_method_66_code
def yX10_clear : MethodName := ⟨RX10, "clear", "()I"⟩
abbrev cX10_isSmall : ByteArray := prog_12_method_67_code
def yX10_isSmall : MethodName := ⟨RX10, "isSmall", "(I)Z"⟩
abbrev cX10_isFigure : ByteArray := prog_12_method_68_code
def yX10_isFigure : MethodName := ⟨RX10, "isFigure", "(I)Z"⟩
abbrev cX10_lookAt : ByteArray := prog_12_method_69_code
def yX10_lookAt : MethodName := ⟨RX10, "lookAt", "(I)V"⟩
abbrev cX10_goBehind : ByteArray := prog_12_method_70_code
def yX10_goBehind : MethodName := ⟨RX10, "goBehind", "()V"⟩
abbrev cX10_isWord : ByteArray := prog_12_method_71_code
def yX10_isWord : MethodName := ⟨RX10, "isWord", "(IIIIII)Z"⟩
abbrev cX10_takes : ByteArray := prog_12_method_72_code
def yX10_takes : MethodName := ⟨RX10, "takes", "(III)Z"⟩
abbrev cX10_takesFirst : ByteArray := prog_12_method_73_code
def yX10_takesFirst : MethodName := ⟨RX10, "takesFirst", "()Z"⟩
abbrev cX10_takesDish : ByteArray := prog_12_method_74_code
def yX10_takesDish : MethodName := ⟨RX10, "takesDish", "()Z"⟩
abbrev cX10_takesBook : ByteArray := prog_12_method_75_code
def yX10_takesBook : MethodName := ⟨RX10, "takesBook", "(I)Z"⟩
abbrev cX10_takesItem : ByteArray := prog_12_method_76_code
def yX10_takesItem : MethodName := ⟨RX10, "takesItem", "()Z"⟩
abbrev cX10_read : ByteArray := prog_12_method_77_code
def yX10_read : MethodName := ⟨RX10, "read", "()I"⟩
abbrev cX10_part : ByteArray := prog_12_method_78_code
def yX10_part : MethodName := ⟨RX10, "part", "(I)J"⟩
abbrev cX10_image : ByteArray := prog_12_method_79_code
def yX10_image : MethodName := ⟨RX10, "image", "(I)I"⟩
abbrev cX10_from : ByteArray := prog_12_method_80_code
def yX10_from : MethodName := ⟨RX10, "from", "(I)I"⟩
abbrev cX10_status : ByteArray := prog_12_method_81_code
def yX10_status : MethodName := ⟨RX10, "status", "(I)I"⟩
abbrev cX10_counted : ByteArray := prog_12_method_82_code
def yX10_counted : MethodName := ⟨RX10, "counted", "(I)I"⟩
abbrev cX10_count : ByteArray := prog_12_method_83_code
def yX10_count : MethodName := ⟨RX10, "count", "(I)I"⟩
abbrev cX10_sums : ByteArray := prog_12_method_84_code
def yX10_sums : MethodName := ⟨RX10, "sums", "(JII)J"⟩
abbrev cX10_digest : ByteArray := prog_12_method_85_code
def yX10_digest : MethodName := ⟨RX10, "digest", "()J"⟩
def RJ6 : String := "java/lang/Integer"
abbrev cJ6_bitCount_0f7a4 : ByteArray := prog_13_method_49_code
def yJ6_bitCount_0f7a4 : MethodName := ⟨RJ6, "bitCount", "(I)I"⟩
def RJ9 : String := "java/lang/Math"
abbrev cJ9_abs_0f7a4 : ByteArray := prog_14_method_59_code
def yJ9_abs_0f7a4 : MethodName := ⟨RJ9, "abs", "(I)I"⟩
abbrev cJ9_max_7cf53 : ByteArray := prog_14_method_65_code
def yJ9_max_7cf53 : MethodName := ⟨RJ9, "max", "(II)I"⟩
abbrev cJ9_min_7cf53 : ByteArray := prog_14_method_69_code
def yJ9_min_7cf53 : MethodName := ⟨RJ9, "min", "(II)I"⟩
def RJ0 : String := "java/lang/String"
abbrev cJ0_length_8abf5 : ByteArray := prog_15_method_54_code
def yJ0_length_8abf5 : MethodName := ⟨RJ0, "length", "()I"⟩
abbrev cJ0_charAt_5068e : ByteArray := prog_15_method_56_code
def yJ0_charAt_5068e : MethodName := ⟨RJ0, "charAt", "(I)C"⟩
abbrev cJ0_coder_7d493 : ByteArray := prog_15_method_152_code
def yJ0_coder_7d493 : MethodName := ⟨RJ0, "coder", "()B"⟩
abbrev cJ0_isLatin1_aae02 : ByteArray := prog_15_method_154_code
def yJ0_isLatin1_aae02 : MethodName := ⟨RJ0, "isLatin1", "()Z"⟩
abbrev cJ0_checkIndex_df160 : ByteArray := prog_15_method_155_code
def yJ0_checkIndex_df160 : MethodName := ⟨RJ0, "checkIndex", "(II)V"⟩
def RJ1 : String := "java/lang/StringLatin1"
abbrev cJ1_charAt_3b067 : ByteArray := prog_16_method_2_code
def yJ1_charAt_3b067 : MethodName := ⟨RJ1, "charAt", "([BI)C"⟩
def RJ2 : String := "java/lang/StringUTF16"
abbrev cJ2_getChar_3b067 : ByteArray := prog_17_method_5_code
def yJ2_getChar_3b067 : MethodName := ⟨RJ2, "getChar", "([BI)C"⟩
abbrev cJ2_length_9d52b : ByteArray := prog_17_method_6_code
def yJ2_length_9d52b : MethodName := ⟨RJ2, "length", "([B)I"⟩
abbrev cJ2_charAt_3b067 : ByteArray := prog_17_method_83_code
def yJ2_charAt_3b067 : MethodName := ⟨RJ2, "charAt", "([BI)C"⟩
abbrev cJ2_checkIndex_2214a : ByteArray := prog_17_method_91_code
def yJ2_checkIndex_2214a : MethodName := ⟨RJ2, "checkIndex", "(I[B)V"⟩
def RJ10 : String := "java/lang/System"
def RJ3 : String := "jdk/internal/util/Preconditions"
abbrev cJ3_checkIndex_8e157 : ByteArray := prog_19_method_11_code
def yJ3_checkIndex_8e157 : MethodName := ⟨RJ3, "checkIndex", "(IILjava/util/function/BiFunction;)I"⟩
def RL : String := "DinnerPleasLaw"
abbrev cL_law : ByteArray := code
def yL_law : MethodName := ⟨RL, "law", "([I)Z"⟩
abbrev vwCl : List vw_C := [(RX0, TX0, 7), (RX1, TX1, 4), (RX2, TX2, 2), (RX3, TX3, 4), (RX4, TX4, 3), (RX5, TX5, 6), (RX6, TX6, 4), (RX7, TX7, 2), (RX8, TX8, 4), (RX9, TX9, 16), (RX10, TX10, 31)]
end
section
abbrev ax_I : Type := Nat × MethodName × ByteArray × Nat × Option FieldType × Nat × Bool
def ax_c0 : List (Nat × Instr × Nat) := [(0, .aload_n 0, 1), (1, .invokespecial 3, 3), (4, .aload_n 0, 1), (5, .new 9, 3), (8, .dup, 1), (9, .bipush 8, 2), (11, .iconst 5, 1), (12, .invokespecial 11, 3), (15, .putfield 14, 3), (18, .aload_n 0, 1), (19, .new 9, 3), (22, .dup, 1), (23, .iconst 5, 1), (24, .iconst 5, 1), (25, .invokespecial 11, 3), (28, .putfield 20, 3), (31, .aload_n 0, 1), (32, .new 9, 3), (35, .dup, 1), (36, .bipush 9, 2), (38, .iconst 4, 1), (39, .invokespecial 11, 3), (42, .putfield 23, 3), (45, .aload_n 0, 1), (46, .new 9, 3), (49, .dup, 1), (50, .bipush 8, 2), (52, .iconst 1, 1), (53, .invokespecial 11, 3), (56, .putfield 26, 3), (59, .aload_n 0, 1), (60, .new 9, 3), (63, .dup, 1), (64, .bipush 6, 2), (66, .bipush 11, 2), (68, .invokespecial 11, 3), (71, .putfield 29, 3), (74, .aload_n 0, 1), (75, .iconst 5, 1), (76, .putfield 32, 3), (79, .aload_n 0, 1), (80, .iconst 0, 1), (81, .putfield 36, 3), (84, .return_, 1)]
abbrev ax_i0 : ax_I := (0, yX0_init, cX0_init, 1, none, 0, false)
def ax_c1 : List (Nat × Instr × Nat) := [(0, .aload_n 0, 1), (1, .getfield 14, 3), (4, .iconst 0, 1), (5, .invokevirtual 39, 3), (8, .aload_n 0, 1), (9, .getfield 23, 3), (12, .iconst 0, 1), (13, .invokevirtual 39, 3), (16, .aload_n 0, 1), (17, .getfield 26, 3), (20, .iconst 0, 1), (21, .invokevirtual 39, 3), (24, .aload_n 0, 1), (25, .getfield 29, 3), (28, .iconst 0, 1), (29, .invokevirtual 39, 3), (32, .aload_n 0, 1), (33, .getfield 20, 3), (36, .iconst 0, 1), (37, .invokevirtual 39, 3), (40, .iconst 0, 1), (41, .istore_n 2, 1), (42, .iload_n 2, 1), (43, .iconst 5, 1), (44, .if_icmp .ge 17, 3), (47, .aload_n 0, 1), (48, .getfield 20, 3), (51, .invokevirtual 43, 3), (54, .pop, 1), (55, .iinc 2 1, 3), (58, .goto (-16), 3), (61, .aload_n 0, 1), (62, .iload_n 1, 1), (63, .putfield 32, 3), (66, .aload_n 0, 1), (67, .iconst 0, 1), (68, .putfield 36, 3), (71, .return_, 1)]
abbrev ax_i1 : ax_I := (0, yX0_startAnew, cX0_startAnew, 3, none, 1, false)
def ax_c2 : List (Nat × Instr × Nat) := [(0, .aload_n 0, 1), (1, .getfield 14, 3), (4, .aload_n 1, 1), (5, .getfield 14, 3), (8, .invokevirtual 47, 3), (11, .aload_n 0, 1), (12, .getfield 20, 3), (15, .aload_n 1, 1), (16, .getfield 20, 3), (19, .invokevirtual 47, 3), (22, .aload_n 0, 1), (23, .getfield 23, 3), (26, .aload_n 1, 1), (27, .getfield 23, 3), (30, .invokevirtual 47, 3), (33, .aload_n 0, 1), (34, .getfield 26, 3), (37, .aload_n 1, 1), (38, .getfield 26, 3), (41, .invokevirtual 47, 3), (44, .aload_n 0, 1), (45, .getfield 29, 3), (48, .aload_n 1, 1), (49, .getfield 29, 3), (52, .invokevirtual 47, 3), (55, .aload_n 0, 1), (56, .aload_n 1, 1), (57, .getfield 32, 3), (60, .putfield 32, 3), (63, .aload_n 0, 1), (64, .aload_n 1, 1), (65, .getfield 36, 3), (68, .putfield 36, 3), (71, .return_, 1)]
abbrev ax_i2 : ax_I := (0, yX0_takeFrom, cX0_takeFrom, 2, none, 1, false)
def ax_c3 : List (Nat × Instr × Nat) := [(0, .iload_n 1, 1), (1, .iconst 0, 1), (2, .aload_n 0, 1), (3, .getfield 14, 3), (6, .invokevirtual 51, 3), (9, .iconst 1, 1), (10, .isub, 1), (11, .invokestatic 54, 3), (14, .ireturn, 1)]
abbrev ax_i3 : ax_I := (0, yX0_hasDish, cX0_hasDish, 2, (some .boolean), 1, false)
def ax_c4 : List (Nat × Instr × Nat) := [(0, .iconst 0, 1), (1, .istore_n 2, 1), (2, .iload_n 2, 1), (3, .aload_n 0, 1), (4, .getfield 26, 3), (7, .invokevirtual 51, 3), (10, .if_icmp .ge 24, 3), (13, .aload_n 0, 1), (14, .getfield 26, 3), (17, .iload_n 2, 1), (18, .iconst 0, 1), (19, .invokevirtual 58, 3), (22, .iload_n 1, 1), (23, .if_icmp .ne 5, 3), (26, .iconst 1, 1), (27, .ireturn, 1), (28, .iinc 2 1, 3), (31, .goto (-29), 3), (34, .iconst 0, 1), (35, .ireturn, 1)]
abbrev ax_i4 : ax_I := (0, yX0_isOnMenu, cX0_isOnMenu, 3, (some .boolean), 1, false)
def ax_c5 : List (Nat × Instr × Nat) := [(0, .iconst 0, 1), (1, .istore_n 1, 1), (2, .iconst 0, 1), (3, .istore_n 2, 1), (4, .iload_n 2, 1), (5, .aload_n 0, 1), (6, .getfield 23, 3), (9, .invokevirtual 51, 3), (12, .if_icmp .ge 23, 3), (15, .iload_n 1, 1), (16, .aload_n 0, 1), (17, .getfield 23, 3), (20, .iload_n 2, 1), (21, .iconst 0, 1), (22, .invokevirtual 58, 3), (25, .invokestatic 62, 3), (28, .istore_n 1, 1), (29, .iinc 2 1, 3), (32, .goto (-28), 3), (35, .iload_n 1, 1), (36, .ireturn, 1)]
abbrev ax_i5 : ax_I := (0, yX0_servedSet, cX0_servedSet, 3, (some .int), 0, false)
def ax_c6 : List (Nat × Instr × Nat) := [(0, .aload_n 0, 1), (1, .getfield 23, 3), (4, .invokevirtual 51, 3), (7, .istore_n 1, 1), (8, .iload_n 1, 1), (9, .ifCond .le 17, 3), (12, .aload_n 0, 1), (13, .getfield 23, 3), (16, .iload_n 1, 1), (17, .iconst 1, 1), (18, .isub, 1), (19, .iconst 0, 1), (20, .invokevirtual 58, 3), (23, .goto 4, 3), (26, .iconst (-1), 1), (27, .ireturn, 1)]
abbrev ax_i6 : ax_I := (0, yX0_lastDish, cX0_lastDish, 2, (some .int), 0, false)
def ax_c7 : List (Nat × Instr × Nat) := [(0, .aload_n 0, 1), (1, .getfield 32, 3), (4, .iload_n 1, 1), (5, .if_icmp .le 12, 3), (8, .aload_n 0, 1), (9, .getfield 32, 3), (12, .iload_n 1, 1), (13, .isub, 1), (14, .goto 4, 3), (17, .iconst 0, 1), (18, .ireturn, 1)]
abbrev ax_i7 : ax_I := (0, yX0_hungerBehind, cX0_hungerBehind, 2, (some .int), 1, false)
def ax_c8 : List (Nat × Instr × Nat) := [(0, .iload_n 1, 1), (1, .ifCond .lt 35, 3), (4, .iload_n 1, 1), (5, .aload_n 0, 1), (6, .getfield 14, 3), (9, .invokevirtual 51, 3), (12, .if_icmp .ge 24, 3), (15, .iload_n 2, 1), (16, .iload_n 1, 1), (17, .invokestatic 65, 3), (20, .ifCond .ne 16, 3), (23, .iload_n 2, 1), (24, .invokestatic 69, 3), (27, .bipush 9, 2), (29, .if_icmp .ge 7, 3), (32, .iconst 1, 1), (33, .goto 4, 3), (36, .iconst 0, 1), (37, .ireturn, 1)]
abbrev ax_i8 : ax_I := (0, yX0_isFree, cX0_isFree, 3, (some .boolean), 2, false)
def ax_c9 : List (Nat × Instr × Nat) := [(0, .aload_n 0, 1), (1, .getfield 14, 3), (4, .iload_n 1, 1), (5, .iconst 4, 1), (6, .invokevirtual 58, 3), (9, .istore 4, 2), (11, .aload_n 0, 1), (12, .iload_n 1, 1), (13, .iload_n 3, 1), (14, .invokevirtual 75, 3), (17, .ifCond .eq 19, 3), (20, .iload 4, 2), (22, .iconst 2, 1), (23, .if_icmp .eq 9, 3), (26, .iload 4, 2), (28, .iload_n 2, 1), (29, .if_icmp .ne 7, 3), (32, .iconst 1, 1), (33, .goto 4, 3), (36, .iconst 0, 1), (37, .ireturn, 1)]
abbrev ax_i9 : ax_I := (0, yX0_mayServe, cX0_mayServe, 5, (some .boolean), 3, false)
def ax_c10 : List (Nat × Instr × Nat) := [(0, .iload_n 2, 1), (1, .invokestatic 69, 3), (4, .istore 4, 2), (6, .aload_n 0, 1), (7, .getfield 14, 3), (10, .iload_n 1, 1), (11, .iconst 0, 1), (12, .invokevirtual 58, 3), (15, .istore 5, 2), (17, .aload_n 0, 1), (18, .getfield 14, 3), (21, .iload_n 1, 1), (22, .iconst 2, 1), (23, .invokevirtual 58, 3), (26, .istore 6, 2), (28, .aload_n 0, 1), (29, .iload 4, 2), (31, .invokevirtual 78, 3), (34, .istore 7, 2), (36, .iload_n 3, 1), (37, .iconst (-1), 1), (38, .if_icmp .ne 17, 3), (41, .iload 5, 2), (43, .iload 6, 2), (45, .iload 4, 2), (47, .iload 7, 2), (49, .iconst 0, 1), (50, .iconst 0, 1), (51, .invokestatic 81, 3), (54, .ireturn, 1), (55, .aload_n 0, 1), (56, .getfield 14, 3), (59, .iload_n 1, 1), (60, .iconst 1, 1), (61, .invokevirtual 58, 3), (64, .istore 8, 2), (66, .aload_n 0, 1), (67, .getfield 14, 3), (70, .iload_n 3, 1), (71, .iconst 1, 1), (72, .invokevirtual 58, 3), (75, .istore 9, 2), (77, .aload_n 0, 1), (78, .getfield 14, 3), (81, .iload_n 1, 1), (82, .iconst 4, 1), (83, .invokevirtual 58, 3), (86, .aload_n 0, 1), (87, .getfield 14, 3), (90, .iload_n 3, 1), (91, .iconst 4, 1), (92, .invokevirtual 58, 3), (95, .if_icmp .eq 7, 3), (98, .iconst 1, 1), (99, .goto 4, 3), (102, .iconst 0, 1), (103, .istore 10, 2), (105, .iload 5, 2), (107, .iload 6, 2), (109, .iload 4, 2), (111, .iload 7, 2), (113, .iload 8, 2), (115, .iload 9, 2), (117, .if_icmp .ne 7, 3), (120, .iconst 1, 1), (121, .goto 4, 3), (124, .iconst 0, 1), (125, .iload 10, 2), (127, .invokestatic 81, 3), (130, .istore 11, 2), (132, .iconst 0, 1), (133, .iload 11, 2), (135, .aload_n 0, 1), (136, .getfield 20, 3), (139, .iload 9, 2), (141, .iload 8, 2), (143, .invokevirtual 58, 3), (146, .iadd, 1), (147, .invokestatic 85, 3), (150, .ireturn, 1)]
abbrev ax_i10 : ax_I := (0, yX0_does, cX0_does, 12, (some .int), 3, false)
def ax_c11 : List (Nat × Instr × Nat) := [(0, .aload_n 0, 1), (1, .iload_n 1, 1), (2, .aload_n 0, 1), (3, .invokevirtual 90, 3), (6, .aload_n 0, 1), (7, .invokevirtual 93, 3), (10, .invokevirtual 96, 3), (13, .istore_n 3, 1), (14, .aload_n 0, 1), (15, .getfield 23, 3), (18, .invokevirtual 43, 3), (21, .istore 4, 2), (23, .aload_n 0, 1), (24, .getfield 23, 3), (27, .iload 4, 2), (29, .iconst 0, 1), (30, .iload_n 1, 1), (31, .invokevirtual 100, 3), (34, .aload_n 0, 1), (35, .getfield 23, 3), (38, .iload 4, 2), (40, .iconst 1, 1), (41, .iload_n 2, 1), (42, .invokevirtual 100, 3), (45, .aload_n 0, 1), (46, .getfield 23, 3), (49, .iload 4, 2), (51, .iconst 2, 1), (52, .iload_n 3, 1), (53, .invokevirtual 100, 3), (56, .aload_n 0, 1), (57, .getfield 23, 3), (60, .iload 4, 2), (62, .iconst 3, 1), (63, .aload_n 0, 1), (64, .getfield 36, 3), (67, .invokevirtual 100, 3), (70, .aload_n 0, 1), (71, .dup, 1), (72, .getfield 36, 3), (75, .iload_n 2, 1), (76, .iload_n 3, 1), (77, .invokestatic 104, 3), (80, .iadd, 1), (81, .putfield 36, 3), (84, .iload_n 3, 1), (85, .ireturn, 1)]
abbrev ax_i11 : ax_I := (0, yX0_addCourse, cX0_addCourse, 5, (some .int), 2, false)
def ax_c12 : List (Nat × Instr × Nat) := [(0, .aload_n 0, 1), (1, .getfield 23, 3), (4, .invokevirtual 51, 3), (7, .iconst 1, 1), (8, .isub, 1), (9, .istore_n 1, 1), (10, .iload_n 1, 1), (11, .ifCond .lt 24, 3), (14, .aload_n 0, 1), (15, .aload_n 0, 1), (16, .getfield 23, 3), (19, .iload_n 1, 1), (20, .iconst 3, 1), (21, .invokevirtual 58, 3), (24, .putfield 36, 3), (27, .aload_n 0, 1), (28, .getfield 23, 3), (31, .iload_n 1, 1), (32, .invokevirtual 39, 3), (35, .return_, 1)]
abbrev ax_i12 : ax_I := (0, yX0_dropCourse, cX0_dropCourse, 2, none, 0, false)
def ax_c13 : List (Nat × Instr × Nat) := [(0, .aload_n 0, 1), (1, .getfield 29, 3), (4, .invokevirtual 43, 3), (7, .istore_n 3, 1), (8, .iload_n 3, 1), (9, .iconst (-1), 1), (10, .if_icmp .ne 5, 3), (13, .iconst 0, 1), (14, .ireturn, 1), (15, .aload_n 0, 1), (16, .getfield 29, 3), (19, .iload_n 3, 1), (20, .iconst 0, 1), (21, .iload_n 1, 1), (22, .invokevirtual 100, 3), (25, .aload_n 0, 1), (26, .getfield 29, 3), (29, .iload_n 3, 1), (30, .iconst 1, 1), (31, .iload_n 2, 1), (32, .invokevirtual 100, 3), (35, .aload_n 0, 1), (36, .getfield 29, 3), (39, .iload_n 3, 1), (40, .iconst 2, 1), (41, .aload_n 0, 1), (42, .getfield 26, 3), (45, .invokevirtual 51, 3), (48, .invokevirtual 100, 3), (51, .iconst 0, 1), (52, .istore 4, 2), (54, .iload 4, 2), (56, .aload_n 0, 1), (57, .getfield 26, 3), (60, .invokevirtual 51, 3), (63, .if_icmp .ge 31, 3), (66, .aload_n 0, 1), (67, .getfield 29, 3), (70, .iload_n 3, 1), (71, .iconst 3, 1), (72, .iload 4, 2), (74, .iadd, 1), (75, .aload_n 0, 1), (76, .getfield 26, 3), (79, .iload 4, 2), (81, .iconst 0, 1), (82, .invokevirtual 58, 3), (85, .invokevirtual 100, 3), (88, .iinc 4 1, 3), (91, .goto (-37), 3), (94, .iconst 1, 1), (95, .ireturn, 1)]
abbrev ax_i13 : ax_I := (0, yX0_addReading, cX0_addReading, 5, (some .boolean), 2, false)
def ax_c14 : List (Nat × Instr × Nat) := [(0, .aload_n 0, 1), (1, .invokespecial 3, 3), (4, .aload_n 0, 1), (5, .iconst 0, 1), (6, .putfield 9, 3), (9, .aload_n 0, 1), (10, .iconst (-1), 1), (11, .putfield 15, 3), (14, .aload_n 0, 1), (15, .iconst 0, 1), (16, .putfield 18, 3), (19, .aload_n 0, 1), (20, .aload_n 1, 1), (21, .putfield 21, 3), (24, .return_, 1)]
abbrev ax_i14 : ax_I := (1, yX1_init, cX1_init, 2, none, 1, false)
def ax_c15 : List (Nat × Instr × Nat) := [(0, .aload_n 0, 1), (1, .aload_n 0, 1), (2, .getfield 21, 3), (5, .invokevirtual 25, 3), (8, .putfield 9, 3), (11, .aload_n 0, 1), (12, .aload_n 0, 1), (13, .getfield 21, 3), (16, .invokevirtual 31, 3), (19, .putfield 15, 3), (22, .aload_n 0, 1), (23, .aload_n 0, 1), (24, .getfield 21, 3), (27, .getfield 34, 3), (30, .putfield 18, 3), (33, .return_, 1)]
abbrev ax_i15 : ax_I := (1, yX1_beginNow, cX1_beginNow, 1, none, 0, false)
def ax_c16 : List (Nat × Instr × Nat) := [(0, .aload_n 0, 1), (1, .iconst 0, 1), (2, .putfield 9, 3), (5, .aload_n 0, 1), (6, .iconst (-1), 1), (7, .putfield 15, 3), (10, .aload_n 0, 1), (11, .iconst 0, 1), (12, .putfield 18, 3), (15, .return_, 1)]
abbrev ax_i16 : ax_I := (1, yX1_beginFromNothing, cX1_beginFromNothing, 1, none, 0, false)
def ax_c17 : List (Nat × Instr × Nat) := [(0, .aload_n 0, 1), (1, .getfield 21, 3), (4, .iload_n 2, 1), (5, .aload_n 0, 1), (6, .getfield 9, 3), (9, .aload_n 0, 1), (10, .getfield 15, 3), (13, .invokevirtual 37, 3), (16, .istore_n 3, 1), (17, .aload_n 0, 1), (18, .dup, 1), (19, .getfield 18, 3), (22, .iload_n 1, 1), (23, .iload_n 3, 1), (24, .invokestatic 41, 3), (27, .iadd, 1), (28, .putfield 18, 3), (31, .aload_n 0, 1), (32, .aload_n 0, 1), (33, .getfield 9, 3), (36, .iload_n 2, 1), (37, .invokestatic 45, 3), (40, .putfield 9, 3), (43, .aload_n 0, 1), (44, .iload_n 2, 1), (45, .putfield 15, 3), (48, .iload_n 3, 1), (49, .ireturn, 1)]
abbrev ax_i17 : ax_I := (1, yX1_serveBy, cX1_serveBy, 4, (some .int), 2, false)
def ax_c18 : List (Nat × Instr × Nat) := [(0, .aload_n 0, 1), (1, .getfield 18, 3), (4, .invokestatic 48, 3), (7, .ireturn, 1)]
abbrev ax_i18 : ax_I := (1, yX1_verdictNow, cX1_verdictNow, 1, (some .int), 0, false)
def ax_c19 : List (Nat × Instr × Nat) := [(0, .aload_n 0, 1), (1, .iconst 0, 1), (2, .iload_n 1, 1), (3, .iload_n 2, 1), (4, .invokevirtual 52, 3), (7, .ifCond .eq 17, 3), (10, .aload_n 0, 1), (11, .iconst 1, 1), (12, .iload_n 2, 1), (13, .iload_n 1, 1), (14, .invokevirtual 52, 3), (17, .ifCond .eq 7, 3), (20, .iconst 1, 1), (21, .goto 4, 3), (24, .iconst 0, 1), (25, .ireturn, 1)]
abbrev ax_i19 : ax_I := (1, yX1_cancels, cX1_cancels, 3, (some .boolean), 2, false)
def ax_c20 : List (Nat × Instr × Nat) := [(0, .aload_n 0, 1), (1, .invokevirtual 56, 3), (4, .aload_n 0, 1), (5, .getfield 21, 3), (8, .iload_n 1, 1), (9, .iload_n 2, 1), (10, .aload_n 0, 1), (11, .getfield 9, 3), (14, .invokevirtual 59, 3), (17, .ifCond .ne 5, 3), (20, .iconst 0, 1), (21, .ireturn, 1), (22, .aload_n 0, 1), (23, .invokevirtual 62, 3), (26, .istore_n 3, 1), (27, .aload_n 0, 1), (28, .iload_n 2, 1), (29, .iload_n 1, 1), (30, .invokevirtual 65, 3), (33, .pop, 1), (34, .aload_n 0, 1), (35, .invokevirtual 62, 3), (38, .iload_n 3, 1), (39, .if_icmp .eq 7, 3), (42, .iconst 1, 1), (43, .goto 4, 3), (46, .iconst 0, 1), (47, .ireturn, 1)]
abbrev ax_i20 : ax_I := (1, yX1_overturns, cX1_overturns, 4, (some .boolean), 2, false)
def ax_c21 : List (Nat × Instr × Nat) := [(0, .aload_n 0, 1), (1, .invokevirtual 56, 3), (4, .iconst 0, 1), (5, .istore_n 3, 1), (6, .aload_n 0, 1), (7, .getfield 9, 3), (10, .invokestatic 68, 3), (13, .istore 4, 2), (15, .iload 4, 2), (17, .bipush 9, 2), (19, .if_icmp .ge 66, 3), (22, .lload_n 1, 1), (23, .ldc2_w 73, 3), (26, .lmul, 1), (27, .ldc2_w 75, 3), (30, .ladd, 1), (31, .ldc2_w 77, 3), (34, .lrem, 1), (35, .lstore_n 1, 1), (36, .lload_n 1, 1), (37, .ldc2_w 79, 3), (40, .ldiv, 1), (41, .ldc2_w 81, 3), (44, .lrem, 1), (45, .l2i, 1), (46, .istore 5, 2), (48, .aload_n 0, 1), (49, .getfield 21, 3), (52, .iload 5, 2), (54, .iload_n 3, 1), (55, .aload_n 0, 1), (56, .getfield 9, 3), (59, .invokevirtual 59, 3), (62, .ifCond .ne 5, 3), (65, .lload_n 1, 1), (66, .lreturn, 1), (67, .aload_n 0, 1), (68, .iload_n 3, 1), (69, .iload 5, 2), (71, .invokevirtual 65, 3), (74, .pop, 1), (75, .iconst 1, 1), (76, .iload_n 3, 1), (77, .isub, 1), (78, .istore_n 3, 1), (79, .iinc 4 1, 3), (82, .goto (-67), 3), (85, .lload_n 1, 1), (86, .lreturn, 1)]
abbrev ax_i21 : ax_I := (1, yX1_dineBy, cX1_dineBy, 6, (some .long), 1, false)
def ax_c22 : List (Nat × Instr × Nat) := [(0, .aload_n 0, 1), (1, .invokevirtual 56, 3), (4, .aload_n 0, 1), (5, .getfield 21, 3), (8, .iload_n 2, 1), (9, .aload_n 0, 1), (10, .getfield 9, 3), (13, .invokevirtual 83, 3), (16, .ifCond .ne 5, 3), (19, .iconst 0, 1), (20, .ireturn, 1), (21, .aload_n 0, 1), (22, .iload_n 1, 1), (23, .iload_n 2, 1), (24, .invokevirtual 65, 3), (27, .pop, 1), (28, .aload_n 0, 1), (29, .getfield 21, 3), (32, .iload_n 3, 1), (33, .aload_n 0, 1), (34, .getfield 9, 3), (37, .invokevirtual 83, 3), (40, .ifCond .ne 5, 3), (43, .iconst 0, 1), (44, .ireturn, 1), (45, .aload_n 0, 1), (46, .iconst 1, 1), (47, .iload_n 1, 1), (48, .isub, 1), (49, .iload_n 3, 1), (50, .invokevirtual 65, 3), (53, .pop, 1), (54, .aload_n 0, 1), (55, .getfield 18, 3), (58, .aload_n 0, 1), (59, .getfield 21, 3), (62, .getfield 34, 3), (65, .if_icmp .ne 7, 3), (68, .iconst 1, 1), (69, .goto 4, 3), (72, .iconst 0, 1), (73, .ireturn, 1)]
abbrev ax_i22 : ax_I := (1, yX1_staysBehind, cX1_staysBehind, 4, (some .boolean), 3, false)
def ax_c23 : List (Nat × Instr × Nat) := [(0, .aload_n 0, 1), (1, .invokespecial 1, 3), (4, .aload_n 0, 1), (5, .new 7, 3), (8, .dup, 1), (9, .invokespecial 9, 3), (12, .putfield 10, 3), (15, .aload_n 0, 1), (16, .iconst 0, 1), (17, .putfield 16, 3), (20, .return_, 1)]
abbrev ax_i23 : ax_I := (2, yX2_init, cX2_init, 1, none, 0, false)
def ax_c24 : List (Nat × Instr × Nat) := [(0, .aload_n 0, 1), (1, .getfield 16, 3), (4, .ireturn, 1)]
abbrev ax_i24 : ax_I := (2, yX2_isKept, cX2_isKept, 1, (some .boolean), 0, false)
def ax_c25 : List (Nat × Instr × Nat) := [(0, .aload_n 0, 1), (1, .getfield 10, 3), (4, .aload_n 1, 1), (5, .invokevirtual 20, 3), (8, .aload_n 0, 1), (9, .iconst 1, 1), (10, .putfield 16, 3), (13, .return_, 1)]
abbrev ax_i25 : ax_I := (2, yX2_keep, cX2_keep, 2, none, 1, false)
def ax_c26 : List (Nat × Instr × Nat) := [(0, .aload_n 1, 1), (1, .aload_n 0, 1), (2, .getfield 10, 3), (5, .invokevirtual 20, 3), (8, .return_, 1)]
abbrev ax_i26 : ax_I := (2, yX2_giveTo, cX2_giveTo, 2, none, 1, false)
def ax_c27 : List (Nat × Instr × Nat) := [(0, .aload_n 0, 1), (1, .invokespecial 3, 3), (4, .aload_n 0, 1), (5, .new 9, 3), (8, .dup, 1), (9, .iconst 4, 1), (10, .iconst 1, 1), (11, .invokespecial 11, 3), (14, .putfield 14, 3), (17, .aload_n 0, 1), (18, .new 9, 3), (21, .dup, 1), (22, .iconst 4, 1), (23, .iconst 1, 1), (24, .invokespecial 11, 3), (27, .putfield 20, 3), (30, .aload_n 0, 1), (31, .iconst (-1), 1), (32, .putfield 23, 3), (35, .aload_n 0, 1), (36, .aload_n 1, 1), (37, .putfield 27, 3), (40, .return_, 1)]
abbrev ax_i27 : ax_I := (3, yX3_init, cX3_init, 2, none, 1, false)
def ax_c28 : List (Nat × Instr × Nat) := [(0, .aload_n 0, 1), (1, .getfield 23, 3), (4, .ireturn, 1)]
abbrev ax_i28 : ax_I := (3, yX3_spent, cX3_spent, 1, (some .int), 0, false)
def ax_c29 : List (Nat × Instr × Nat) := [(0, .aload_n 0, 1), (1, .getfield 20, 3), (4, .invokevirtual 31, 3), (7, .ireturn, 1)]
abbrev ax_i29 : ax_I := (3, yX3_many, cX3_many, 1, (some .int), 0, false)
def ax_c30 : List (Nat × Instr × Nat) := [(0, .aload_n 0, 1), (1, .getfield 20, 3), (4, .iload_n 1, 1), (5, .iconst 0, 1), (6, .invokevirtual 35, 3), (9, .ireturn, 1)]
abbrev ax_i30 : ax_I := (3, yX3_dishAt, cX3_dishAt, 2, (some .int), 1, false)
def ax_c31 : List (Nat × Instr × Nat) := [(0, .aload_n 0, 1), (1, .iconst (-1), 1), (2, .putfield 23, 3), (5, .aload_n 0, 1), (6, .getfield 20, 3), (9, .iconst 0, 1), (10, .invokevirtual 39, 3), (13, .aload_n 0, 1), (14, .getfield 27, 3), (17, .getfield 43, 3), (20, .invokestatic 48, 3), (23, .iload_n 1, 1), (24, .if_icmp .ne 11, 3), (27, .aload_n 0, 1), (28, .iconst 0, 1), (29, .putfield 23, 3), (32, .goto 31, 3), (35, .aload_n 0, 1), (36, .iload_n 1, 1), (37, .aload_n 0, 1), (38, .getfield 27, 3), (41, .invokevirtual 52, 3), (44, .aload_n 0, 1), (45, .getfield 27, 3), (48, .invokevirtual 55, 3), (51, .aload_n 0, 1), (52, .getfield 27, 3), (55, .getfield 43, 3), (58, .iconst 0, 1), (59, .iconst 0, 1), (60, .invokevirtual 58, 3), (63, .return_, 1)]
abbrev ax_i31 : ax_I := (3, yX3_seek, cX3_seek, 2, none, 1, false)
def ax_c32 : List (Nat × Instr × Nat) := [(0, .iload 6, 2), (2, .iconst 4, 1), (3, .if_icmp .lt 4, 3), (6, .return_, 1), (7, .iconst 0, 1), (8, .istore 7, 2), (10, .iload 7, 2), (12, .aload_n 0, 1), (13, .getfield 27, 3), (16, .getfield 62, 3), (19, .invokevirtual 31, 3), (22, .if_icmp .ge 150, 3), (25, .iload 5, 2), (27, .aload_n 0, 1), (28, .getfield 27, 3), (31, .getfield 62, 3), (34, .iload 7, 2), (36, .iconst 3, 1), (37, .invokevirtual 35, 3), (40, .iadd, 1), (41, .istore 8, 2), (43, .aload_n 0, 1), (44, .getfield 27, 3), (47, .iload 7, 2), (49, .iload_n 1, 1), (50, .iload_n 2, 1), (51, .invokevirtual 65, 3), (54, .ifCond .eq 112, 3), (57, .aload_n 0, 1), (58, .iload 8, 2), (60, .iload 6, 2), (62, .iconst 1, 1), (63, .iadd, 1), (64, .invokevirtual 69, 3), (67, .ifCond .eq 99, 3), (70, .aload_n 0, 1), (71, .getfield 14, 3), (74, .iload 6, 2), (76, .invokevirtual 39, 3), (79, .aload_n 0, 1), (80, .getfield 14, 3), (83, .aload_n 0, 1), (84, .getfield 14, 3), (87, .invokevirtual 73, 3), (90, .iconst 0, 1), (91, .iload 7, 2), (93, .invokevirtual 76, 3), (96, .iload 4, 2), (98, .iload_n 1, 1), (99, .aload_n 0, 1), (100, .getfield 27, 3), (103, .iload 7, 2), (105, .iload_n 2, 1), (106, .iload_n 3, 1), (107, .invokevirtual 80, 3), (110, .invokestatic 84, 3), (113, .iadd, 1), (114, .istore 9, 2), (116, .iload 9, 2), (118, .invokestatic 48, 3), (121, .iload_n 1, 1), (122, .if_icmp .ne 23, 3), (125, .aload_n 0, 1), (126, .iload 8, 2), (128, .putfield 23, 3), (131, .aload_n 0, 1), (132, .getfield 20, 3), (135, .aload_n 0, 1), (136, .getfield 14, 3), (139, .invokevirtual 87, 3), (142, .goto 24, 3), (145, .aload_n 0, 1), (146, .iload_n 1, 1), (147, .iload_n 2, 1), (148, .iload 7, 2), (150, .invokestatic 91, 3), (153, .iload 7, 2), (155, .iload 9, 2), (157, .iload 8, 2), (159, .iload 6, 2), (161, .iconst 1, 1), (162, .iadd, 1), (163, .invokevirtual 58, 3), (166, .iinc 7 1, 3), (169, .goto (-159), 3), (172, .return_, 1)]
abbrev ax_i32 : ax_I := (3, yX3_tryBehind, cX3_tryBehind, 10, none, 6, false)
def ax_c33 : List (Nat × Instr × Nat) := [(0, .aload_n 0, 1), (1, .getfield 23, 3), (4, .iconst (-1), 1), (5, .if_icmp .eq 30, 3), (8, .iload_n 1, 1), (9, .aload_n 0, 1), (10, .getfield 23, 3), (13, .if_icmp .lt 22, 3), (16, .iload_n 1, 1), (17, .aload_n 0, 1), (18, .getfield 23, 3), (21, .if_icmp .ne 18, 3), (24, .iload_n 2, 1), (25, .aload_n 0, 1), (26, .getfield 20, 3), (29, .invokevirtual 31, 3), (32, .if_icmp .ge 7, 3), (35, .iconst 1, 1), (36, .goto 4, 3), (39, .iconst 0, 1), (40, .ireturn, 1)]
abbrev ax_i33 : ax_I := (3, yX3_isBetter, cX3_isBetter, 3, (some .boolean), 2, false)
def ax_c34 : List (Nat × Instr × Nat) := [(0, .aload_n 0, 1), (1, .invokespecial 3, 3), (4, .aload_n 0, 1), (5, .iconst 0, 1), (6, .putfield 9, 3), (9, .aload_n 0, 1), (10, .bipush 8, 2), (12, .putfield 15, 3), (15, .aload_n 0, 1), (16, .aload_n 1, 1), (17, .putfield 18, 3), (20, .return_, 1)]
abbrev ax_i34 : ax_I := (4, yX4_init, cX4_init, 2, none, 1, false)
def ax_c35 : List (Nat × Instr × Nat) := [(0, .aload_n 0, 1), (1, .getfield 9, 3), (4, .ireturn, 1)]
abbrev ax_i35 : ax_I := (4, yX4_gain, cX4_gain, 1, (some .int), 0, false)
def ax_c36 : List (Nat × Instr × Nat) := [(0, .aload_n 0, 1), (1, .getfield 15, 3), (4, .ireturn, 1)]
abbrev ax_i36 : ax_I := (4, yX4_opening, cX4_opening, 1, (some .int), 0, false)
def ax_c37 : List (Nat × Instr × Nat) := [(0, .aload_n 0, 1), (1, .getfield 18, 3), (4, .invokevirtual 22, 3), (7, .istore_n 3, 1), (8, .aload_n 0, 1), (9, .getfield 18, 3), (12, .invokevirtual 28, 3), (15, .istore 4, 2), (17, .aload_n 0, 1), (18, .sipush (-1000), 3), (21, .putfield 9, 3), (24, .aload_n 0, 1), (25, .bipush 8, 2), (27, .putfield 15, 3), (30, .iconst 0, 1), (31, .istore 5, 2), (33, .iload 5, 2), (35, .aload_n 0, 1), (36, .getfield 18, 3), (39, .getfield 31, 3), (42, .invokevirtual 35, 3), (45, .if_icmp .ge 47, 3), (48, .aload_n 0, 1), (49, .getfield 18, 3), (52, .iload 5, 2), (54, .iload_n 2, 1), (55, .iload_n 3, 1), (56, .invokevirtual 40, 3), (59, .ifCond .eq 27, 3), (62, .aload_n 0, 1), (63, .iload 5, 2), (65, .aload_n 0, 1), (66, .iload 5, 2), (68, .iload_n 1, 1), (69, .iload_n 2, 1), (70, .iload_n 3, 1), (71, .iload 4, 2), (73, .aload_n 0, 1), (74, .getfield 9, 3), (77, .sipush 1000, 3), (80, .invokevirtual 44, 3), (83, .invokevirtual 48, 3), (86, .iinc 5 1, 3), (89, .goto (-56), 3), (92, .aload_n 0, 1), (93, .bipush 8, 2), (95, .aload_n 0, 1), (96, .iload_n 1, 1), (97, .iload_n 2, 1), (98, .iload_n 3, 1), (99, .iload 4, 2), (101, .aload_n 0, 1), (102, .getfield 9, 3), (105, .sipush 1000, 3), (108, .invokevirtual 52, 3), (111, .invokevirtual 48, 3), (114, .return_, 1)]
abbrev ax_i37 : ax_I := (4, yX4_solve, cX4_solve, 6, none, 2, false)
def ax_c38 : List (Nat × Instr × Nat) := [(0, .iload_n 2, 1), (1, .aload_n 0, 1), (2, .getfield 9, 3), (5, .if_icmp .le 13, 3), (8, .aload_n 0, 1), (9, .iload_n 2, 1), (10, .putfield 9, 3), (13, .aload_n 0, 1), (14, .iload_n 1, 1), (15, .putfield 15, 3), (18, .return_, 1)]
abbrev ax_i38 : ax_I := (4, yX4_takeIfBetter, cX4_takeIfBetter, 3, none, 2, false)
def ax_c39 : List (Nat × Instr × Nat) := [(0, .aload_n 0, 1), (1, .getfield 18, 3), (4, .iload_n 1, 1), (5, .iload 4, 2), (7, .iload 5, 2), (9, .invokevirtual 56, 3), (12, .istore 8, 2), (14, .iload 8, 2), (16, .aload_n 0, 1), (17, .iload_n 2, 1), (18, .iconst 1, 1), (19, .isub, 1), (20, .iconst 1, 1), (21, .iload_n 3, 1), (22, .isub, 1), (23, .iload 4, 2), (25, .iload_n 1, 1), (26, .invokestatic 60, 3), (29, .iload_n 1, 1), (30, .iload 8, 2), (32, .iload 7, 2), (34, .isub, 1), (35, .iload 8, 2), (37, .iload 6, 2), (39, .isub, 1), (40, .invokevirtual 64, 3), (43, .isub, 1), (44, .ireturn, 1)]
abbrev ax_i39 : ax_I := (4, yX4_ifServed, cX4_ifServed, 9, (some .int), 7, false)
def ax_c40 : List (Nat × Instr × Nat) := [(0, .aload_n 0, 1), (1, .iload_n 1, 1), (2, .iconst 1, 1), (3, .isub, 1), (4, .iconst 1, 1), (5, .iload_n 2, 1), (6, .isub, 1), (7, .iload_n 3, 1), (8, .iload 4, 2), (10, .iload 6, 2), (12, .ineg, 1), (13, .iload 5, 2), (15, .ineg, 1), (16, .invokevirtual 64, 3), (19, .ineg, 1), (20, .ireturn, 1)]
abbrev ax_i40 : ax_I := (4, yX4_ifNone, cX4_ifNone, 7, (some .int), 6, false)
def ax_c41 : List (Nat × Instr × Nat) := [(0, .iload_n 1, 1), (1, .ifCond .gt 5, 3), (4, .iconst 0, 1), (5, .ireturn, 1), (6, .iload 5, 2), (8, .istore 7, 2), (10, .iconst 0, 1), (11, .istore 8, 2), (13, .iload 8, 2), (15, .aload_n 0, 1), (16, .getfield 18, 3), (19, .getfield 31, 3), (22, .invokevirtual 35, 3), (25, .if_icmp .ge 52, 3), (28, .iload 7, 2), (30, .iload 6, 2), (32, .if_icmp .ge 45, 3), (35, .aload_n 0, 1), (36, .getfield 18, 3), (39, .iload 8, 2), (41, .iload_n 2, 1), (42, .iload_n 3, 1), (43, .invokevirtual 40, 3), (46, .ifCond .eq 25, 3), (49, .iload 7, 2), (51, .aload_n 0, 1), (52, .iload 8, 2), (54, .iload_n 1, 1), (55, .iload_n 2, 1), (56, .iload_n 3, 1), (57, .iload 4, 2), (59, .iload 7, 2), (61, .iload 6, 2), (63, .invokevirtual 44, 3), (66, .invokestatic 67, 3), (69, .istore 7, 2), (71, .iinc 8 1, 3), (74, .goto (-61), 3), (77, .iload 7, 2), (79, .iload 6, 2), (81, .if_icmp .ge 23, 3), (84, .iload 7, 2), (86, .aload_n 0, 1), (87, .iload_n 1, 1), (88, .iload_n 2, 1), (89, .iload_n 3, 1), (90, .iload 4, 2), (92, .iload 7, 2), (94, .iload 6, 2), (96, .invokevirtual 52, 3), (99, .invokestatic 67, 3), (102, .istore 7, 2), (104, .iload 7, 2), (106, .ireturn, 1)]
abbrev ax_i41 : ax_I := (4, yX4_gains, cX4_gains, 9, (some .int), 6, false)
def ax_c42 : List (Nat × Instr × Nat) := [(0, .aload_n 0, 1), (1, .invokespecial 3, 3), (4, .aload_n 0, 1), (5, .new 9, 3), (8, .dup, 1), (9, .iconst 5, 1), (10, .iconst 1, 1), (11, .invokespecial 11, 3), (14, .putfield 14, 3), (17, .aload_n 0, 1), (18, .iconst 0, 1), (19, .putfield 20, 3), (22, .aload_n 0, 1), (23, .iconst 0, 1), (24, .putfield 24, 3), (27, .aload_n 0, 1), (28, .iconst 0, 1), (29, .putfield 27, 3), (32, .aload_n 0, 1), (33, .iconst (-1), 1), (34, .putfield 30, 3), (37, .aload_n 0, 1), (38, .aload_n 1, 1), (39, .putfield 33, 3), (42, .return_, 1)]
abbrev ax_i42 : ax_I := (5, yX5_init, cX5_init, 2, none, 1, false)
def ax_c43 : List (Nat × Instr × Nat) := [(0, .aload_n 0, 1), (1, .iconst 0, 1), (2, .putfield 20, 3), (5, .iconst 0, 1), (6, .istore_n 2, 1), (7, .iload_n 2, 1), (8, .aload_n 0, 1), (9, .getfield 33, 3), (12, .invokevirtual 36, 3), (15, .if_icmp .gt 51, 3), (18, .aload_n 0, 1), (19, .invokevirtual 40, 3), (22, .aload_n 0, 1), (23, .getfield 27, 3), (26, .ifCond .ne 9, 3), (29, .iload_n 2, 1), (30, .ifCond .le 5, 3), (33, .iload_n 2, 1), (34, .ireturn, 1), (35, .aload_n 0, 1), (36, .aload_n 1, 1), (37, .iload_n 2, 1), (38, .ifCond .ne 7, 3), (41, .iconst 1, 1), (42, .goto 4, 3), (45, .iconst 0, 1), (46, .invokevirtual 43, 3), (49, .ifCond .ne 11, 3), (52, .bipush (-10), 2), (54, .aload_n 0, 1), (55, .getfield 24, 3), (58, .isub, 1), (59, .ireturn, 1), (60, .iinc 2 1, 3), (63, .goto (-56), 3), (66, .bipush (-10), 2), (68, .aload_n 0, 1), (69, .getfield 33, 3), (72, .invokevirtual 36, 3), (75, .isub, 1), (76, .ireturn, 1)]
abbrev ax_i43 : ax_I := (5, yX5_readInto, cX5_readInto, 3, (some .int), 1, false)
def ax_c44 : List (Nat × Instr × Nat) := [(0, .iload_n 2, 1), (1, .ifCond .eq 26, 3), (4, .aload_n 0, 1), (5, .ldc 47, 2), (7, .invokevirtual 49, 3), (10, .ifCond .eq 15, 3), (13, .aload_n 0, 1), (14, .aload_n 1, 1), (15, .invokevirtual 53, 3), (18, .ifCond .eq 7, 3), (21, .iconst 1, 1), (22, .goto 4, 3), (25, .iconst 0, 1), (26, .ireturn, 1), (27, .aload_n 0, 1), (28, .ldc 57, 2), (30, .invokevirtual 49, 3), (33, .ifCond .eq 9, 3), (36, .aload_n 0, 1), (37, .aload_n 1, 1), (38, .invokevirtual 59, 3), (41, .ireturn, 1), (42, .aload_n 0, 1), (43, .ldc 62, 2), (45, .invokevirtual 49, 3), (48, .ifCond .eq 10, 3), (51, .aload_n 0, 1), (52, .aload_n 1, 1), (53, .iconst 1, 1), (54, .invokevirtual 64, 3), (57, .ireturn, 1), (58, .aload_n 0, 1), (59, .ldc 68, 2), (61, .invokevirtual 49, 3), (64, .ifCond .eq 16, 3), (67, .aload_n 0, 1), (68, .aload_n 1, 1), (69, .iconst (-1), 1), (70, .invokevirtual 64, 3), (73, .ifCond .eq 7, 3), (76, .iconst 1, 1), (77, .goto 4, 3), (80, .iconst 0, 1), (81, .ireturn, 1)]
abbrev ax_i44 : ax_I := (5, yX5_takesItem, cX5_takesItem, 3, (some .boolean), 2, false)
def ax_c45 : List (Nat × Instr × Nat) := [(0, .aload_n 0, 1), (1, .getstatic 70, 3), (4, .getstatic 74, 3), (7, .invokevirtual 77, 3), (10, .ifCond .ne 5, 3), (13, .iconst 0, 1), (14, .ireturn, 1), (15, .aload_n 1, 1), (16, .aload_n 0, 1), (17, .getfield 14, 3), (20, .iconst 0, 1), (21, .iconst 0, 1), (22, .invokevirtual 81, 3), (25, .invokevirtual 85, 3), (28, .iconst 1, 1), (29, .ireturn, 1)]
abbrev ax_i45 : ax_I := (5, yX5_takesCourt, cX5_takesCourt, 2, (some .boolean), 1, false)
def ax_c46 : List (Nat × Instr × Nat) := [(0, .aload_n 1, 1), (1, .getfield 91, 3), (4, .invokevirtual 94, 3), (7, .istore_n 2, 1), (8, .iload_n 2, 1), (9, .iconst (-1), 1), (10, .if_icmp .eq 16, 3), (13, .aload_n 0, 1), (14, .getstatic 97, 3), (17, .getstatic 100, 3), (20, .invokevirtual 77, 3), (23, .ifCond .ne 5, 3), (26, .iconst 0, 1), (27, .ireturn, 1), (28, .iconst 0, 1), (29, .istore_n 3, 1), (30, .iload_n 3, 1), (31, .iconst 5, 1), (32, .if_icmp .ge 27, 3), (35, .aload_n 1, 1), (36, .getfield 91, 3), (39, .iload_n 2, 1), (40, .iload_n 3, 1), (41, .aload_n 0, 1), (42, .getfield 14, 3), (45, .iload_n 3, 1), (46, .iconst 0, 1), (47, .invokevirtual 81, 3), (50, .invokevirtual 103, 3), (53, .iinc 3 1, 3), (56, .goto (-26), 3), (59, .iconst 1, 1), (60, .ireturn, 1)]
abbrev ax_i46 : ax_I := (5, yX5_takesDish, cX5_takesDish, 4, (some .boolean), 1, false)
def ax_c47 : List (Nat × Instr × Nat) := [(0, .aload_n 0, 1), (1, .getstatic 107, 3), (4, .getstatic 110, 3), (7, .invokevirtual 77, 3), (10, .ifCond .ne 5, 3), (13, .iconst 0, 1), (14, .ireturn, 1), (15, .aload_n 1, 1), (16, .getfield 113, 3), (19, .aload_n 0, 1), (20, .getfield 14, 3), (23, .iconst 0, 1), (24, .iconst 0, 1), (25, .invokevirtual 81, 3), (28, .aload_n 0, 1), (29, .getfield 14, 3), (32, .iconst 1, 1), (33, .iconst 0, 1), (34, .invokevirtual 81, 3), (37, .iload_n 2, 1), (38, .aload_n 0, 1), (39, .getfield 14, 3), (42, .iconst 2, 1), (43, .iconst 0, 1), (44, .invokevirtual 81, 3), (47, .imul, 1), (48, .invokevirtual 103, 3), (51, .iconst 1, 1), (52, .ireturn, 1)]
abbrev ax_i47 : ax_I := (5, yX5_takesFollows, cX5_takesFollows, 3, (some .boolean), 2, false)
def ax_c48 : List (Nat × Instr × Nat) := [(0, .aload_n 0, 1), (1, .getfield 14, 3), (4, .iconst 0, 1), (5, .invokevirtual 116, 3), (8, .iconst 0, 1), (9, .istore_n 3, 1), (10, .iload_n 3, 1), (11, .aload_n 1, 1), (12, .arraylength, 1), (13, .if_icmp .ge 68, 3), (16, .iload_n 3, 1), (17, .aload_n 2, 1), (18, .arraylength, 1), (19, .if_icmp .ge 62, 3), (22, .aload_n 0, 1), (23, .invokevirtual 40, 3), (26, .aload_n 0, 1), (27, .getfield 27, 3), (30, .iconst 2, 1), (31, .if_icmp .ne 23, 3), (34, .aload_n 0, 1), (35, .getfield 30, 3), (38, .aload_n 1, 1), (39, .iload_n 3, 1), (40, .iaload, 1), (41, .if_icmp .lt 13, 3), (44, .aload_n 0, 1), (45, .getfield 30, 3), (48, .aload_n 2, 1), (49, .iload_n 3, 1), (50, .iaload, 1), (51, .if_icmp .le 5, 3), (54, .iconst 0, 1), (55, .ireturn, 1), (56, .aload_n 0, 1), (57, .getfield 14, 3), (60, .aload_n 0, 1), (61, .getfield 14, 3), (64, .invokevirtual 94, 3), (67, .iconst 0, 1), (68, .aload_n 0, 1), (69, .getfield 30, 3), (72, .invokevirtual 103, 3), (75, .iinc 3 1, 3), (78, .goto (-68), 3), (81, .aload_n 0, 1), (82, .invokevirtual 40, 3), (85, .aload_n 0, 1), (86, .getfield 27, 3), (89, .iconst 3, 1), (90, .if_icmp .ne 7, 3), (93, .iconst 1, 1), (94, .goto 4, 3), (97, .iconst 0, 1), (98, .ireturn, 1)]
abbrev ax_i48 : ax_I := (5, yX5_takesNumbers, cX5_takesNumbers, 4, (some .boolean), 2, false)
def ax_c49 : List (Nat × Instr × Nat) := [(0, .aload_n 0, 1), (1, .getfield 27, 3), (4, .iconst 1, 1), (5, .if_icmp .ne 19, 3), (8, .aload_n 0, 1), (9, .getfield 20, 3), (12, .aload_n 0, 1), (13, .getfield 24, 3), (16, .isub, 1), (17, .aload_n 1, 1), (18, .invokevirtual 119, 3), (21, .if_icmp .eq 5, 3), (24, .iconst 0, 1), (25, .ireturn, 1), (26, .iconst 0, 1), (27, .istore_n 2, 1), (28, .iload_n 2, 1), (29, .aload_n 1, 1), (30, .invokevirtual 119, 3), (33, .if_icmp .ge 33, 3), (36, .aload_n 0, 1), (37, .getfield 33, 3), (40, .aload_n 0, 1), (41, .getfield 24, 3), (44, .iload_n 2, 1), (45, .iadd, 1), (46, .iconst 0, 1), (47, .invokevirtual 81, 3), (50, .aload_n 1, 1), (51, .iload_n 2, 1), (52, .invokevirtual 124, 3), (55, .if_icmp .eq 5, 3), (58, .iconst 0, 1), (59, .ireturn, 1), (60, .iinc 2 1, 3), (63, .goto (-35), 3), (66, .iconst 1, 1), (67, .ireturn, 1)]
abbrev ax_i49 : ax_I := (5, yX5_isWord, cX5_isWord, 3, (some .boolean), 1, false)
def ax_c50 : List (Nat × Instr × Nat) := [(0, .aload_n 0, 1), (1, .getfield 20, 3), (4, .aload_n 0, 1), (5, .getfield 33, 3), (8, .invokevirtual 36, 3), (11, .if_icmp .ge 33, 3), (14, .aload_n 0, 1), (15, .getfield 33, 3), (18, .aload_n 0, 1), (19, .getfield 20, 3), (22, .iconst 0, 1), (23, .invokevirtual 81, 3), (26, .bipush 32, 2), (28, .if_icmp .ne 16, 3), (31, .aload_n 0, 1), (32, .dup, 1), (33, .getfield 20, 3), (36, .iconst 1, 1), (37, .iadd, 1), (38, .putfield 20, 3), (41, .goto (-41), 3), (44, .aload_n 0, 1), (45, .aload_n 0, 1), (46, .getfield 20, 3), (49, .putfield 24, 3), (52, .aload_n 0, 1), (53, .getfield 20, 3), (56, .aload_n 0, 1), (57, .getfield 33, 3), (60, .invokevirtual 36, 3), (63, .if_icmp .lt 9, 3), (66, .aload_n 0, 1), (67, .iconst 0, 1), (68, .putfield 27, 3), (71, .return_, 1), (72, .aload_n 0, 1), (73, .aload_n 0, 1), (74, .getfield 33, 3), (77, .aload_n 0, 1), (78, .getfield 20, 3), (81, .iconst 0, 1), (82, .invokevirtual 81, 3), (85, .invokestatic 128, 3), (88, .putfield 27, 3), (91, .aload_n 0, 1), (92, .aload_n 0, 1), (93, .getfield 33, 3), (96, .aload_n 0, 1), (97, .getfield 20, 3), (100, .iconst 0, 1), (101, .invokevirtual 81, 3), (104, .bipush 48, 2), (106, .isub, 1), (107, .putfield 30, 3), (110, .aload_n 0, 1), (111, .dup, 1), (112, .getfield 20, 3), (115, .iconst 1, 1), (116, .iadd, 1), (117, .putfield 20, 3), (120, .aload_n 0, 1), (121, .getfield 27, 3), (124, .iconst 1, 1), (125, .if_icmp .eq 11, 3), (128, .aload_n 0, 1), (129, .getfield 27, 3), (132, .iconst 2, 1), (133, .if_icmp .ne 7, 3), (136, .iconst 1, 1), (137, .goto 4, 3), (140, .iconst 0, 1), (141, .istore_n 1, 1), (142, .iload_n 1, 1), (143, .ifCond .eq 97, 3), (146, .aload_n 0, 1), (147, .getfield 20, 3), (150, .aload_n 0, 1), (151, .getfield 33, 3), (154, .invokevirtual 36, 3), (157, .if_icmp .ge 83, 3), (160, .aload_n 0, 1), (161, .getfield 33, 3), (164, .aload_n 0, 1), (165, .getfield 20, 3), (168, .iconst 0, 1), (169, .invokevirtual 81, 3), (172, .invokestatic 128, 3), (175, .aload_n 0, 1), (176, .getfield 27, 3), (179, .if_icmp .ne 61, 3), (182, .aload_n 0, 1), (183, .aload_n 0, 1), (184, .getfield 20, 3), (187, .aload_n 0, 1), (188, .getfield 24, 3), (191, .isub, 1), (192, .iconst 2, 1), (193, .if_icmp .ge 29, 3), (196, .bipush 10, 2), (198, .aload_n 0, 1), (199, .getfield 30, 3), (202, .imul, 1), (203, .aload_n 0, 1), (204, .getfield 33, 3), (207, .aload_n 0, 1), (208, .getfield 20, 3), (211, .iconst 0, 1), (212, .invokevirtual 81, 3), (215, .iadd, 1), (216, .bipush 48, 2), (218, .isub, 1), (219, .goto 5, 3), (222, .bipush 100, 2), (224, .putfield 30, 3), (227, .aload_n 0, 1), (228, .dup, 1), (229, .getfield 20, 3), (232, .iconst 1, 1), (233, .iadd, 1), (234, .putfield 20, 3), (237, .goto (-95), 3), (240, .return_, 1)]
abbrev ax_i50 : ax_I := (5, yX5_next, cX5_next, 2, none, 0, false)
def ax_c51 : List (Nat × Instr × Nat) := [(0, .iload_n 0, 1), (1, .bipush 97, 2), (3, .if_icmp .lt 11, 3), (6, .iload_n 0, 1), (7, .bipush 122, 2), (9, .if_icmp .gt 5, 3), (12, .iconst 1, 1), (13, .ireturn, 1), (14, .iload_n 0, 1), (15, .bipush 48, 2), (17, .if_icmp .lt 11, 3), (20, .iload_n 0, 1), (21, .bipush 57, 2), (23, .if_icmp .gt 5, 3), (26, .iconst 2, 1), (27, .ireturn, 1), (28, .iload_n 0, 1), (29, .bipush 59, 2), (31, .if_icmp .ne 7, 3), (34, .iconst 3, 1), (35, .goto 4, 3), (38, .iconst 4, 1), (39, .ireturn, 1)]
abbrev ax_i51 : ax_I := (5, yX5_sortOf, cX5_sortOf, 1, (some .int), 1, true)
def ax_c52 : List (Nat × Instr × Nat) := [(0, .aload_n 0, 1), (1, .invokespecial 3, 3), (4, .aload_n 0, 1), (5, .iconst 0, 1), (6, .putfield 9, 3), (9, .aload_n 0, 1), (10, .iconst 0, 1), (11, .iload_n 1, 1), (12, .invokestatic 15, 3), (15, .putfield 21, 3), (18, .aload_n 0, 1), (19, .iconst 0, 1), (20, .iload_n 2, 1), (21, .invokestatic 15, 3), (24, .putfield 24, 3), (27, .aload_n 0, 1), (28, .aload_n 0, 1), (29, .getfield 21, 3), (32, .aload_n 0, 1), (33, .getfield 24, 3), (36, .imul, 1), (37, .newarray .int, 2), (39, .putfield 27, 3), (42, .return_, 1)]
abbrev ax_i52 : ax_I := (6, yX6_init, cX6_init, 3, none, 2, false)
def ax_c53 : List (Nat × Instr × Nat) := [(0, .aload_n 0, 1), (1, .getfield 9, 3), (4, .ireturn, 1)]
abbrev ax_i53 : ax_I := (6, yX6_many, cX6_many, 1, (some .int), 0, false)
def ax_c54 : List (Nat × Instr × Nat) := [(0, .iload_n 1, 1), (1, .ifCond .lt 27, 3), (4, .iload_n 1, 1), (5, .aload_n 0, 1), (6, .getfield 9, 3), (9, .if_icmp .ge 19, 3), (12, .iload_n 2, 1), (13, .ifCond .lt 15, 3), (16, .iload_n 2, 1), (17, .aload_n 0, 1), (18, .getfield 24, 3), (21, .if_icmp .ge 7, 3), (24, .iconst 1, 1), (25, .goto 4, 3), (28, .iconst 0, 1), (29, .istore_n 3, 1), (30, .iload_n 3, 1), (31, .ifCond .eq 19, 3), (34, .aload_n 0, 1), (35, .getfield 27, 3), (38, .iload_n 1, 1), (39, .aload_n 0, 1), (40, .getfield 24, 3), (43, .imul, 1), (44, .iload_n 2, 1), (45, .iadd, 1), (46, .iaload, 1), (47, .goto 4, 3), (50, .iconst 0, 1), (51, .ireturn, 1)]
abbrev ax_i54 : ax_I := (6, yX6_cell, cX6_cell, 4, (some .int), 2, false)
def ax_c55 : List (Nat × Instr × Nat) := [(0, .iload_n 1, 1), (1, .ifCond .lt 37, 3), (4, .iload_n 1, 1), (5, .aload_n 0, 1), (6, .getfield 9, 3), (9, .if_icmp .ge 29, 3), (12, .iload_n 2, 1), (13, .ifCond .lt 25, 3), (16, .iload_n 2, 1), (17, .aload_n 0, 1), (18, .getfield 24, 3), (21, .if_icmp .ge 17, 3), (24, .aload_n 0, 1), (25, .getfield 27, 3), (28, .iload_n 1, 1), (29, .aload_n 0, 1), (30, .getfield 24, 3), (33, .imul, 1), (34, .iload_n 2, 1), (35, .iadd, 1), (36, .iload_n 3, 1), (37, .iastore, 1), (38, .return_, 1)]
abbrev ax_i55 : ax_I := (6, yX6_put, cX6_put, 4, none, 3, false)
def ax_c56 : List (Nat × Instr × Nat) := [(0, .aload_n 0, 1), (1, .getfield 9, 3), (4, .aload_n 0, 1), (5, .getfield 21, 3), (8, .if_icmp .lt 5, 3), (11, .iconst (-1), 1), (12, .ireturn, 1), (13, .aload_n 0, 1), (14, .dup, 1), (15, .getfield 9, 3), (18, .iconst 1, 1), (19, .iadd, 1), (20, .putfield 9, 3), (23, .iconst 0, 1), (24, .istore_n 1, 1), (25, .iload_n 1, 1), (26, .aload_n 0, 1), (27, .getfield 24, 3), (30, .if_icmp .ge 21, 3), (33, .aload_n 0, 1), (34, .aload_n 0, 1), (35, .getfield 9, 3), (38, .iconst 1, 1), (39, .isub, 1), (40, .iload_n 1, 1), (41, .iconst 0, 1), (42, .invokevirtual 31, 3), (45, .iinc 1 1, 3), (48, .goto (-23), 3), (51, .aload_n 0, 1), (52, .getfield 9, 3), (55, .iconst 1, 1), (56, .isub, 1), (57, .ireturn, 1)]
abbrev ax_i56 : ax_I := (6, yX6_grow, cX6_grow, 2, (some .int), 0, false)
def ax_c57 : List (Nat × Instr × Nat) := [(0, .aload_n 0, 1), (1, .iconst 0, 1), (2, .aload_n 0, 1), (3, .getfield 9, 3), (6, .iload_n 1, 1), (7, .invokestatic 35, 3), (10, .invokestatic 15, 3), (13, .putfield 9, 3), (16, .return_, 1)]
abbrev ax_i57 : ax_I := (6, yX6_cut, cX6_cut, 2, none, 1, false)
def ax_c58 : List (Nat × Instr × Nat) := [(0, .aload_n 1, 1), (1, .getfield 27, 3), (4, .arraylength, 1), (5, .aload_n 0, 1), (6, .getfield 27, 3), (9, .arraylength, 1), (10, .if_icmp .ne 29, 3), (13, .aload_n 1, 1), (14, .getfield 27, 3), (17, .iconst 0, 1), (18, .aload_n 0, 1), (19, .getfield 27, 3), (22, .iconst 0, 1), (23, .aload_n 0, 1), (24, .getfield 27, 3), (27, .arraylength, 1), (28, .invokestatic 38, 3), (31, .aload_n 0, 1), (32, .aload_n 1, 1), (33, .getfield 9, 3), (36, .putfield 9, 3), (39, .return_, 1)]
abbrev ax_i58 : ax_I := (6, yX6_takeFrom, cX6_takeFrom, 2, none, 1, false)
def ax_c59 : List (Nat × Instr × Nat) := [(0, .iconst 0, 1), (1, .istore 4, 2), (3, .iload 4, 2), (5, .aload_n 0, 1), (6, .getfield 9, 3), (9, .if_icmp .ge 18, 3), (12, .aload_n 0, 1), (13, .lload_n 1, 1), (14, .iload 4, 2), (16, .iload_n 3, 1), (17, .invokevirtual 44, 3), (20, .lstore_n 1, 1), (21, .iinc 4 1, 3), (24, .goto (-21), 3), (27, .lload_n 1, 1), (28, .lreturn, 1)]
abbrev ax_i59 : ax_I := (6, yX6_mixInto, cX6_mixInto, 5, (some .long), 2, false)
def ax_c60 : List (Nat × Instr × Nat) := [(0, .iconst 0, 1), (1, .istore 5, 2), (3, .iload 5, 2), (5, .iload 4, 2), (7, .if_icmp .ge 22, 3), (10, .lload_n 1, 1), (11, .aload_n 0, 1), (12, .iload_n 3, 1), (13, .iload 5, 2), (15, .invokevirtual 48, 3), (18, .i2l, 1), (19, .invokestatic 51, 3), (22, .lstore_n 1, 1), (23, .iinc 5 1, 3), (26, .goto (-23), 3), (29, .lload_n 1, 1), (30, .lreturn, 1)]
abbrev ax_i60 : ax_I := (6, yX6_mixRowInto, cX6_mixRowInto, 6, (some .long), 3, false)
def ax_c61 : List (Nat × Instr × Nat) := [(0, .aload_n 0, 1), (1, .invokespecial 3, 3), (4, .aload_n 0, 1), (5, .bipush (-30), 2), (7, .putfield 9, 3), (10, .aload_n 0, 1), (11, .bipush 30, 2), (13, .putfield 15, 3), (16, .return_, 1)]
abbrev ax_i61 : ax_I := (7, yX7_init, cX7_init, 1, none, 0, false)
def ax_c62 : List (Nat × Instr × Nat) := [(0, .aload_n 0, 1), (1, .bipush (-30), 2), (3, .putfield 9, 3), (6, .aload_n 0, 1), (7, .bipush 30, 2), (9, .putfield 15, 3), (12, .return_, 1)]
abbrev ax_i62 : ax_I := (7, yX7_widen, cX7_widen, 1, none, 0, false)
def ax_c63 : List (Nat × Instr × Nat) := [(0, .aload_n 0, 1), (1, .getfield 9, 3), (4, .ireturn, 1)]
abbrev ax_i63 : ax_I := (7, yX7_least, cX7_least, 1, (some .int), 0, false)
def ax_c64 : List (Nat × Instr × Nat) := [(0, .iconst 0, 1), (1, .aload_n 0, 1), (2, .getfield 15, 3), (5, .aload_n 0, 1), (6, .getfield 9, 3), (9, .isub, 1), (10, .iconst 1, 1), (11, .iadd, 1), (12, .invokestatic 18, 3), (15, .ireturn, 1)]
abbrev ax_i64 : ax_I := (7, yX7_size, cX7_size, 1, (some .int), 0, false)
def ax_c65 : List (Nat × Instr × Nat) := [(0, .aload_n 0, 1), (1, .aload_n 0, 1), (2, .iload_n 1, 1), (3, .iload_n 2, 1), (4, .invokevirtual 24, 3), (7, .putfield 9, 3), (10, .aload_n 0, 1), (11, .aload_n 0, 1), (12, .iload_n 1, 1), (13, .iload_n 2, 1), (14, .invokevirtual 27, 3), (17, .putfield 15, 3), (20, .return_, 1)]
abbrev ax_i65 : ax_I := (7, yX7_narrow, cX7_narrow, 3, none, 2, false)
def ax_c66 : List (Nat × Instr × Nat) := [(0, .iconst 0, 1), (1, .aload_n 0, 1), (2, .iload_n 1, 1), (3, .iload_n 2, 1), (4, .invokevirtual 27, 3), (7, .aload_n 0, 1), (8, .iload_n 1, 1), (9, .iload_n 2, 1), (10, .invokevirtual 24, 3), (13, .isub, 1), (14, .iconst 1, 1), (15, .iadd, 1), (16, .invokestatic 18, 3), (19, .ireturn, 1)]
abbrev ax_i66 : ax_I := (7, yX7_left, cX7_left, 3, (some .int), 2, false)
def ax_c67 : List (Nat × Instr × Nat) := [(0, .iload_n 2, 1), (1, .iconst 1, 1), (2, .if_icmp .ne 8, 3), (5, .aload_n 0, 1), (6, .getfield 9, 3), (9, .ireturn, 1), (10, .aload_n 0, 1), (11, .getfield 9, 3), (14, .iload_n 2, 1), (15, .ifCond .ne 9, 3), (18, .iconst 1, 1), (19, .iload_n 1, 1), (20, .isub, 1), (21, .goto 5, 3), (24, .iload_n 1, 1), (25, .ineg, 1), (26, .invokestatic 18, 3), (29, .ireturn, 1)]
abbrev ax_i67 : ax_I := (7, yX7_leastFor, cX7_leastFor, 3, (some .int), 2, false)
def ax_c68 : List (Nat × Instr × Nat) := [(0, .iload_n 2, 1), (1, .ifCond .ne 8, 3), (4, .aload_n 0, 1), (5, .getfield 15, 3), (8, .ireturn, 1), (9, .aload_n 0, 1), (10, .getfield 15, 3), (13, .iload_n 2, 1), (14, .iconst 1, 1), (15, .if_icmp .ne 9, 3), (18, .iconst (-1), 1), (19, .iload_n 1, 1), (20, .isub, 1), (21, .goto 5, 3), (24, .iload_n 1, 1), (25, .ineg, 1), (26, .invokestatic 30, 3), (29, .ireturn, 1)]
abbrev ax_i68 : ax_I := (7, yX7_mostFor, cX7_mostFor, 3, (some .int), 2, false)
def ax_c69 : List (Nat × Instr × Nat) := [(0, .aload_n 0, 1), (1, .invokespecial 3, 3), (4, .aload_n 0, 1), (5, .new 9, 3), (8, .dup, 1), (9, .bipush 8, 2), (11, .iconst 2, 1), (12, .invokespecial 11, 3), (15, .putfield 14, 3), (18, .aload_n 0, 1), (19, .iconst 0, 1), (20, .putfield 20, 3), (23, .aload_n 0, 1), (24, .aload_n 1, 1), (25, .putfield 24, 3), (28, .aload_n 0, 1), (29, .new 28, 3), (32, .dup, 1), (33, .aload_n 1, 1), (34, .invokespecial 30, 3), (37, .putfield 33, 3), (40, .return_, 1)]
abbrev ax_i69 : ax_I := (8, yX8_init, cX8_init, 2, none, 1, false)
def ax_c70 : List (Nat × Instr × Nat) := [(0, .aload_n 0, 1), (1, .getfield 14, 3), (4, .invokevirtual 37, 3), (7, .ireturn, 1)]
abbrev ax_i70 : ax_I := (8, yX8_many, cX8_many, 1, (some .int), 0, false)
def ax_c71 : List (Nat × Instr × Nat) := [(0, .aload_n 0, 1), (1, .getfield 14, 3), (4, .iload_n 1, 1), (5, .iconst 1, 1), (6, .invokevirtual 41, 3), (9, .ireturn, 1)]
abbrev ax_i71 : ax_I := (8, yX8_pull, cX8_pull, 2, (some .int), 1, false)
def ax_c72 : List (Nat × Instr × Nat) := [(0, .aload_n 0, 1), (1, .getfield 20, 3), (4, .ireturn, 1)]
abbrev ax_i72 : ax_I := (8, yX8_pulled, cX8_pulled, 1, (some .int), 0, false)
def ax_c73 : List (Nat × Instr × Nat) := [(0, .aload_n 0, 1), (1, .invokevirtual 45, 3), (4, .aload_n 0, 1), (5, .getfield 33, 3), (8, .invokevirtual 48, 3), (11, .aload_n 0, 1), (12, .iload_n 1, 1), (13, .invokevirtual 51, 3), (16, .return_, 1)]
abbrev ax_i73 : ax_I := (8, yX8_menuFromNow, cX8_menuFromNow, 2, none, 1, false)
def ax_c74 : List (Nat × Instr × Nat) := [(0, .aload_n 0, 1), (1, .invokevirtual 45, 3), (4, .aload_n 0, 1), (5, .getfield 33, 3), (8, .invokevirtual 55, 3), (11, .aload_n 0, 1), (12, .iload_n 1, 1), (13, .invokevirtual 51, 3), (16, .return_, 1)]
abbrev ax_i74 : ax_I := (8, yX8_menuFromNothing, cX8_menuFromNothing, 2, none, 1, false)
def ax_c75 : List (Nat × Instr × Nat) := [(0, .aload_n 0, 1), (1, .getfield 14, 3), (4, .iconst 0, 1), (5, .invokevirtual 58, 3), (8, .iconst 0, 1), (9, .istore_n 2, 1), (10, .iload_n 2, 1), (11, .aload_n 0, 1), (12, .getfield 24, 3), (15, .getfield 61, 3), (18, .iload_n 1, 1), (19, .iconst 2, 1), (20, .invokevirtual 41, 3), (23, .if_icmp .ge 38, 3), (26, .aload_n 0, 1), (27, .getfield 14, 3), (30, .aload_n 0, 1), (31, .getfield 14, 3), (34, .invokevirtual 66, 3), (37, .iconst 0, 1), (38, .aload_n 0, 1), (39, .getfield 24, 3), (42, .getfield 61, 3), (45, .iload_n 1, 1), (46, .iconst 3, 1), (47, .iload_n 2, 1), (48, .iadd, 1), (49, .invokevirtual 41, 3), (52, .invokevirtual 69, 3), (55, .iinc 2 1, 3), (58, .goto (-48), 3), (61, .aload_n 0, 1), (62, .getfield 33, 3), (65, .invokevirtual 55, 3), (68, .aload_n 0, 1), (69, .aload_n 0, 1), (70, .getfield 24, 3), (73, .getfield 61, 3), (76, .iload_n 1, 1), (77, .iconst 0, 1), (78, .invokevirtual 41, 3), (81, .invokevirtual 51, 3), (84, .return_, 1)]
abbrev ax_i75 : ax_I := (8, yX8_readingFromNothing, cX8_readingFromNothing, 3, none, 1, false)
def ax_c76 : List (Nat × Instr × Nat) := [(0, .lconst 0, 1), (1, .lstore_n 3, 1), (2, .iconst 0, 1), (3, .istore 5, 2), (5, .iload 5, 2), (7, .iconst 1, 1), (8, .aload_n 0, 1), (9, .invokevirtual 73, 3), (12, .ishl, 1), (13, .if_icmp .ge 63, 3), (16, .aload_n 0, 1), (17, .getfield 24, 3), (20, .getfield 74, 3), (23, .aload_n 0, 1), (24, .iload 5, 2), (26, .invokevirtual 77, 3), (29, .iadd, 1), (30, .invokestatic 81, 3), (33, .iload_n 1, 1), (34, .if_icmp .ne 36, 3), (37, .iload 5, 2), (39, .invokestatic 84, 3), (42, .istore 6, 2), (44, .lload_n 3, 1), (45, .bipush 10, 2), (47, .iload_n 2, 1), (48, .isub, 1), (49, .i2l, 1), (50, .iload 6, 2), (52, .invokestatic 89, 3), (55, .iload_n 2, 1), (56, .i2l, 1), (57, .aload_n 0, 1), (58, .invokevirtual 73, 3), (61, .iload 6, 2), (63, .isub, 1), (64, .invokestatic 89, 3), (67, .lmul, 1), (68, .ladd, 1), (69, .lstore_n 3, 1), (70, .iinc 5 1, 3), (73, .goto (-68), 3), (76, .lload_n 3, 1), (77, .lreturn, 1)]
abbrev ax_i76 : ax_I := (8, yX8_waysTo, cX8_waysTo, 7, (some .long), 2, false)
def ax_c77 : List (Nat × Instr × Nat) := [(0, .iconst 0, 1), (1, .istore_n 2, 1), (2, .iconst 0, 1), (3, .istore_n 3, 1), (4, .iload_n 3, 1), (5, .aload_n 0, 1), (6, .invokevirtual 73, 3), (9, .if_icmp .ge 25, 3), (12, .iload_n 1, 1), (13, .iload_n 3, 1), (14, .invokestatic 93, 3), (17, .ifCond .eq 11, 3), (20, .iload_n 2, 1), (21, .aload_n 0, 1), (22, .iload_n 3, 1), (23, .invokevirtual 97, 3), (26, .iadd, 1), (27, .istore_n 2, 1), (28, .iinc 3 1, 3), (31, .goto (-27), 3), (34, .iload_n 2, 1), (35, .ireturn, 1)]
abbrev ax_i77 : ax_I := (8, yX8_pullOf, cX8_pullOf, 4, (some .int), 1, false)
def ax_c78 : List (Nat × Instr × Nat) := [(0, .aload_n 0, 1), (1, .getfield 14, 3), (4, .iconst 0, 1), (5, .invokevirtual 58, 3), (8, .iconst 0, 1), (9, .istore_n 1, 1), (10, .iload_n 1, 1), (11, .aload_n 0, 1), (12, .getfield 24, 3), (15, .getfield 100, 3), (18, .invokevirtual 37, 3), (21, .if_icmp .ge 36, 3), (24, .aload_n 0, 1), (25, .getfield 14, 3), (28, .aload_n 0, 1), (29, .getfield 14, 3), (32, .invokevirtual 66, 3), (35, .iconst 0, 1), (36, .aload_n 0, 1), (37, .getfield 24, 3), (40, .getfield 100, 3), (43, .iload_n 1, 1), (44, .iconst 0, 1), (45, .invokevirtual 41, 3), (48, .invokevirtual 69, 3), (51, .iinc 1 1, 3), (54, .goto (-44), 3), (57, .return_, 1)]
abbrev ax_i78 : ax_I := (8, yX8_takeMenu, cX8_takeMenu, 2, none, 0, false)
def ax_c79 : List (Nat × Instr × Nat) := [(0, .iload_n 1, 1), (1, .istore_n 2, 1), (2, .aload_n 0, 1), (3, .iconst 0, 1), (4, .putfield 20, 3), (7, .iconst 0, 1), (8, .istore_n 3, 1), (9, .iload_n 3, 1), (10, .aload_n 0, 1), (11, .getfield 14, 3), (14, .invokevirtual 37, 3), (17, .if_icmp .ge 81, 3), (20, .aload_n 0, 1), (21, .getfield 14, 3), (24, .iload_n 3, 1), (25, .iconst 0, 1), (26, .invokevirtual 41, 3), (29, .istore 4, 2), (31, .aload_n 0, 1), (32, .getfield 24, 3), (35, .iload 4, 2), (37, .aload_n 0, 1), (38, .getfield 33, 3), (41, .getfield 101, 3), (44, .invokevirtual 104, 3), (47, .ifCond .eq 45, 3), (50, .iload_n 2, 1), (51, .aload_n 0, 1), (52, .getfield 33, 3), (55, .iload_n 2, 1), (56, .iload 4, 2), (58, .invokevirtual 107, 3), (61, .invokestatic 110, 3), (64, .istore 5, 2), (66, .aload_n 0, 1), (67, .getfield 14, 3), (70, .iload_n 3, 1), (71, .iconst 1, 1), (72, .iload 5, 2), (74, .invokevirtual 69, 3), (77, .aload_n 0, 1), (78, .dup, 1), (79, .getfield 20, 3), (82, .iload 5, 2), (84, .iadd, 1), (85, .putfield 20, 3), (88, .iconst 1, 1), (89, .iload_n 2, 1), (90, .isub, 1), (91, .istore_n 2, 1), (92, .iinc 3 1, 3), (95, .goto (-86), 3), (98, .return_, 1)]
abbrev ax_i79 : ax_I := (8, yX8_serveAll, cX8_serveAll, 6, none, 1, false)
def ax_c80 : List (Nat × Instr × Nat) := [(0, .aload_n 0, 1), (1, .invokespecial 1, 3), (4, .aload_n 0, 1), (5, .new 7, 3), (8, .dup, 1), (9, .invokespecial 9, 3), (12, .putfield 10, 3), (15, .aload_n 0, 1), (16, .new 7, 3), (19, .dup, 1), (20, .invokespecial 9, 3), (23, .putfield 16, 3), (26, .aload_n 0, 1), (27, .new 19, 3), (30, .dup, 1), (31, .invokespecial 21, 3), (34, .putfield 22, 3), (37, .aload_n 0, 1), (38, .new 19, 3), (41, .dup, 1), (42, .invokespecial 21, 3), (45, .putfield 26, 3), (48, .aload_n 0, 1), (49, .new 29, 3), (52, .dup, 1), (53, .sipush 150, 3), (56, .iconst 1, 1), (57, .invokespecial 31, 3), (60, .putfield 34, 3), (63, .aload_n 0, 1), (64, .new 38, 3), (67, .dup, 1), (68, .aload_n 0, 1), (69, .getfield 34, 3), (72, .invokespecial 40, 3), (75, .putfield 43, 3), (78, .aload_n 0, 1), (79, .new 47, 3), (82, .dup, 1), (83, .aload_n 0, 1), (84, .getfield 10, 3), (87, .invokespecial 49, 3), (90, .putfield 52, 3), (93, .aload_n 0, 1), (94, .new 56, 3), (97, .dup, 1), (98, .aload_n 0, 1), (99, .getfield 10, 3), (102, .invokespecial 58, 3), (105, .putfield 59, 3), (108, .aload_n 0, 1), (109, .new 63, 3), (112, .dup, 1), (113, .aload_n 0, 1), (114, .getfield 10, 3), (117, .invokespecial 65, 3), (120, .putfield 66, 3), (123, .aload_n 0, 1), (124, .new 70, 3), (127, .dup, 1), (128, .aload_n 0, 1), (129, .getfield 10, 3), (132, .invokespecial 72, 3), (135, .putfield 73, 3), (138, .aload_n 0, 1), (139, .new 77, 3), (142, .dup, 1), (143, .invokespecial 79, 3), (146, .putfield 80, 3), (149, .aload_n 0, 1), (150, .lconst 0, 1), (151, .putfield 84, 3), (154, .aload_n 0, 1), (155, .lconst 1, 1), (156, .putfield 88, 3), (159, .aload_n 0, 1), (160, .iconst 0, 1), (161, .putfield 91, 3), (164, .aload_n 0, 1), (165, .iconst 0, 1), (166, .putfield 95, 3), (169, .aload_n 0, 1), (170, .iconst 0, 1), (171, .putfield 98, 3), (174, .aload_n 0, 1), (175, .getfield 10, 3), (178, .iconst 5, 1), (179, .invokevirtual 101, 3), (182, .return_, 1)]
abbrev ax_i80 : ax_I := (9, yX9_init, cX9_init, 1, none, 0, false)
def ax_c81 : List (Nat × Instr × Nat) := [(0, .iload_n 1, 1), (1, .iconst 0, 1), (2, .bipush 9, 2), (4, .invokestatic 105, 3), (7, .ifCond .ne 12, 3), (10, .aload_n 0, 1), (11, .bipush (-2), 2), (13, .bipush (-2), 2), (15, .invokevirtual 109, 3), (18, .ireturn, 1), (19, .aload_n 0, 1), (20, .getfield 10, 3), (23, .getfield 113, 3), (26, .invokevirtual 116, 3), (29, .istore_n 2, 1), (30, .aload_n 0, 1), (31, .getfield 10, 3), (34, .iload_n 1, 1), (35, .invokevirtual 101, 3), (38, .iload_n 2, 1), (39, .ireturn, 1)]
abbrev ax_i81 : ax_I := (9, yX9_court, cX9_court, 3, (some .int), 1, false)
def ax_c82 : List (Nat × Instr × Nat) := [(0, .iconst 0, 1), (1, .iload_n 1, 1), (2, .invokestatic 120, 3), (5, .ifCond .eq 37, 3), (8, .iconst 1, 1), (9, .iload_n 2, 1), (10, .invokestatic 120, 3), (13, .ifCond .eq 29, 3), (16, .iconst 2, 1), (17, .iload_n 3, 1), (18, .invokestatic 120, 3), (21, .ifCond .eq 21, 3), (24, .iconst 3, 1), (25, .iload 4, 2), (27, .invokestatic 120, 3), (30, .ifCond .eq 12, 3), (33, .iconst 4, 1), (34, .iload 5, 2), (36, .invokestatic 120, 3), (39, .ifCond .ne 12, 3), (42, .aload_n 0, 1), (43, .bipush (-2), 2), (45, .bipush (-2), 2), (47, .invokevirtual 109, 3), (50, .ireturn, 1), (51, .aload_n 0, 1), (52, .getfield 10, 3), (55, .getfield 113, 3), (58, .invokevirtual 124, 3), (61, .istore 6, 2), (63, .iload 6, 2), (65, .iconst (-1), 1), (66, .if_icmp .ne 12, 3), (69, .aload_n 0, 1), (70, .bipush (-4), 2), (72, .bipush (-4), 2), (74, .invokevirtual 109, 3), (77, .ireturn, 1), (78, .aload_n 0, 1), (79, .getfield 10, 3), (82, .getfield 113, 3), (85, .iload 6, 2), (87, .iconst 0, 1), (88, .iload_n 1, 1), (89, .invokevirtual 127, 3), (92, .aload_n 0, 1), (93, .getfield 10, 3), (96, .getfield 113, 3), (99, .iload 6, 2), (101, .iconst 1, 1), (102, .iload_n 2, 1), (103, .invokevirtual 127, 3), (106, .aload_n 0, 1), (107, .getfield 10, 3), (110, .getfield 113, 3), (113, .iload 6, 2), (115, .iconst 2, 1), (116, .iload_n 3, 1), (117, .invokevirtual 127, 3), (120, .aload_n 0, 1), (121, .getfield 10, 3), (124, .getfield 113, 3), (127, .iload 6, 2), (129, .iconst 3, 1), (130, .iload 4, 2), (132, .invokevirtual 127, 3), (135, .aload_n 0, 1), (136, .getfield 10, 3), (139, .getfield 113, 3), (142, .iload 6, 2), (144, .iconst 4, 1), (145, .iload 5, 2), (147, .invokevirtual 127, 3), (150, .iload 6, 2), (152, .ireturn, 1)]
abbrev ax_i82 : ax_I := (9, yX9_dish, cX9_dish, 7, (some .int), 5, false)
def ax_c83 : List (Nat × Instr × Nat) := [(0, .iload_n 1, 1), (1, .invokestatic 131, 3), (4, .ifCond .eq 20, 3), (7, .iload_n 2, 1), (8, .invokestatic 131, 3), (11, .ifCond .eq 13, 3), (14, .iload_n 3, 1), (15, .bipush (-3), 2), (17, .iconst 3, 1), (18, .invokestatic 105, 3), (21, .ifCond .ne 12, 3), (24, .aload_n 0, 1), (25, .bipush (-2), 2), (27, .bipush (-10), 2), (29, .invokevirtual 109, 3), (32, .ireturn, 1), (33, .aload_n 0, 1), (34, .getfield 10, 3), (37, .getfield 135, 3), (40, .iload_n 1, 1), (41, .iload_n 2, 1), (42, .invokevirtual 138, 3), (45, .istore 4, 2), (47, .aload_n 0, 1), (48, .getfield 10, 3), (51, .getfield 135, 3), (54, .iload_n 1, 1), (55, .iload_n 2, 1), (56, .iload_n 3, 1), (57, .invokevirtual 127, 3), (60, .iload 4, 2), (62, .ireturn, 1)]
abbrev ax_i83 : ax_I := (9, yX9_book, cX9_book, 5, (some .int), 3, false)
def ax_c84 : List (Nat × Instr × Nat) := [(0, .iload_n 1, 1), (1, .bipush (-30), 2), (3, .bipush 30, 2), (5, .invokestatic 105, 3), (8, .ifCond .ne 13, 3), (11, .aload_n 0, 1), (12, .bipush (-2), 2), (14, .sipush (-1000), 3), (17, .invokevirtual 109, 3), (20, .ireturn, 1), (21, .aload_n 0, 1), (22, .getfield 10, 3), (25, .getfield 141, 3), (28, .istore_n 2, 1), (29, .aload_n 0, 1), (30, .getfield 10, 3), (33, .iload_n 1, 1), (34, .putfield 141, 3), (37, .iload_n 2, 1), (38, .ireturn, 1)]
abbrev ax_i84 : ax_I := (9, yX9_lean, cX9_lean, 3, (some .int), 1, false)
def ax_c85 : List (Nat × Instr × Nat) := [(0, .iload_n 1, 1), (1, .iconst 0, 1), (2, .bipush 127, 2), (4, .invokestatic 105, 3), (7, .ifCond .ne 12, 3), (10, .aload_n 0, 1), (11, .bipush (-2), 2), (13, .bipush (-2), 2), (15, .invokevirtual 109, 3), (18, .ireturn, 1), (19, .aload_n 0, 1), (20, .getfield 34, 3), (23, .invokevirtual 124, 3), (26, .istore_n 2, 1), (27, .iload_n 2, 1), (28, .iconst (-1), 1), (29, .if_icmp .ne 12, 3), (32, .aload_n 0, 1), (33, .bipush (-4), 2), (35, .bipush (-4), 2), (37, .invokevirtual 109, 3), (40, .ireturn, 1), (41, .aload_n 0, 1), (42, .getfield 34, 3), (45, .iload_n 2, 1), (46, .iconst 0, 1), (47, .iload_n 1, 1), (48, .invokevirtual 127, 3), (51, .aload_n 0, 1), (52, .getfield 34, 3), (55, .invokevirtual 116, 3), (58, .ireturn, 1)]
abbrev ax_i85 : ax_I := (9, yX9_type, cX9_type, 3, (some .int), 1, false)
def ax_c86 : List (Nat × Instr × Nat) := [(0, .aload_n 0, 1), (1, .getfield 34, 3), (4, .invokevirtual 116, 3), (7, .istore_n 1, 1), (8, .aload_n 0, 1), (9, .getfield 34, 3), (12, .iconst 0, 1), (13, .invokevirtual 144, 3), (16, .iload_n 1, 1), (17, .ireturn, 1)]
abbrev ax_i86 : ax_I := (9, yX9_clear, cX9_clear, 2, (some .int), 0, false)
def ax_c87 : List (Nat × Instr × Nat) := [(0, .aload_n 0, 1), (1, .getfield 43, 3), (4, .aload_n 0, 1), (5, .getfield 16, 3), (8, .invokevirtual 147, 3), (11, .istore_n 1, 1), (12, .iload_n 1, 1), (13, .ifCond .le 14, 3), (16, .aload_n 0, 1), (17, .getfield 10, 3), (20, .aload_n 0, 1), (21, .getfield 16, 3), (24, .invokevirtual 151, 3), (27, .iload_n 1, 1), (28, .ireturn, 1)]
abbrev ax_i87 : ax_I := (9, yX9_read, cX9_read, 2, (some .int), 0, false)
def ax_c88 : List (Nat × Instr × Nat) := [(0, .aload_n 0, 1), (1, .getfield 10, 3), (4, .iload_n 1, 1), (5, .invokevirtual 154, 3), (8, .ifCond .eq 10, 3), (11, .iload_n 2, 1), (12, .invokestatic 157, 3), (15, .ifCond .ne 12, 3), (18, .aload_n 0, 1), (19, .bipush (-2), 2), (21, .bipush (-2), 2), (23, .invokevirtual 109, 3), (26, .ireturn, 1), (27, .aload_n 0, 1), (28, .getfield 10, 3), (31, .iload_n 1, 1), (32, .iload_n 2, 1), (33, .aload_n 0, 1), (34, .getfield 10, 3), (37, .invokevirtual 160, 3), (40, .invokevirtual 163, 3), (43, .ifCond .ne 12, 3), (46, .aload_n 0, 1), (47, .bipush (-3), 2), (49, .bipush (-3), 2), (51, .invokevirtual 109, 3), (54, .ireturn, 1), (55, .aload_n 0, 1), (56, .getfield 10, 3), (59, .iload_n 1, 1), (60, .iload_n 2, 1), (61, .invokevirtual 166, 3), (64, .ireturn, 1)]
abbrev ax_i88 : ax_I := (9, yX9_serve, cX9_serve, 3, (some .int), 2, false)
def ax_c89 : List (Nat × Instr × Nat) := [(0, .aload_n 0, 1), (1, .getfield 10, 3), (4, .getfield 169, 3), (7, .invokevirtual 116, 3), (10, .ifCond .ne 12, 3), (13, .aload_n 0, 1), (14, .bipush (-3), 2), (16, .bipush (-3), 2), (18, .invokevirtual 109, 3), (21, .ireturn, 1), (22, .aload_n 0, 1), (23, .getfield 10, 3), (26, .invokevirtual 172, 3), (29, .aload_n 0, 1), (30, .getfield 10, 3), (33, .getfield 169, 3), (36, .invokevirtual 116, 3), (39, .ireturn, 1)]
abbrev ax_i89 : ax_I := (9, yX9_undo, cX9_undo, 1, (some .int), 0, false)
def ax_c90 : List (Nat × Instr × Nat) := [(0, .aload_n 0, 1), (1, .getfield 10, 3), (4, .iload_n 1, 1), (5, .invokevirtual 154, 3), (8, .ifCond .eq 13, 3), (11, .iload_n 2, 1), (12, .iconst 0, 1), (13, .bipush 6, 2), (15, .invokestatic 105, 3), (18, .ifCond .ne 12, 3), (21, .aload_n 0, 1), (22, .bipush (-2), 2), (24, .bipush (-2), 2), (26, .invokevirtual 109, 3), (29, .ireturn, 1), (30, .iload_n 2, 1), (31, .iconst 5, 1), (32, .if_icmp .ne 23, 3), (35, .aload_n 0, 1), (36, .getfield 10, 3), (39, .invokevirtual 160, 3), (42, .iload_n 1, 1), (43, .invokestatic 175, 3), (46, .ifCond .eq 7, 3), (49, .iconst 1, 1), (50, .goto 4, 3), (53, .iconst 0, 1), (54, .ireturn, 1), (55, .iload_n 2, 1), (56, .bipush 6, 2), (58, .if_icmp .ne 26, 3), (61, .aload_n 0, 1), (62, .getfield 10, 3), (65, .iload_n 1, 1), (66, .aload_n 0, 1), (67, .getfield 10, 3), (70, .invokevirtual 160, 3), (73, .aload_n 0, 1), (74, .getfield 10, 3), (77, .invokevirtual 178, 3), (80, .invokevirtual 181, 3), (83, .ireturn, 1), (84, .aload_n 0, 1), (85, .getfield 10, 3), (88, .getfield 113, 3), (91, .iload_n 1, 1), (92, .iload_n 2, 1), (93, .invokevirtual 138, 3), (96, .ireturn, 1)]
abbrev ax_i90 : ax_I := (9, yX9_of, cX9_of, 3, (some .int), 2, false)
def ax_c91 : List (Nat × Instr × Nat) := [(0, .iload_n 1, 1), (1, .iconst 0, 1), (2, .aload_n 0, 1), (3, .getfield 10, 3), (6, .getfield 169, 3), (9, .invokevirtual 116, 3), (12, .iconst 1, 1), (13, .isub, 1), (14, .invokestatic 105, 3), (17, .ifCond .eq 12, 3), (20, .iload_n 2, 1), (21, .iconst 0, 1), (22, .iconst 2, 1), (23, .invokestatic 105, 3), (26, .ifCond .ne 12, 3), (29, .aload_n 0, 1), (30, .bipush (-2), 2), (32, .bipush (-2), 2), (34, .invokevirtual 109, 3), (37, .ireturn, 1), (38, .aload_n 0, 1), (39, .getfield 10, 3), (42, .getfield 169, 3), (45, .iload_n 1, 1), (46, .iload_n 2, 1), (47, .invokevirtual 138, 3), (50, .ireturn, 1)]
abbrev ax_i91 : ax_I := (9, yX9_course, cX9_course, 3, (some .int), 2, false)
def ax_c92 : List (Nat × Instr × Nat) := [(0, .aload_n 0, 1), (1, .getfield 10, 3), (4, .getfield 141, 3), (7, .ireturn, 1)]
abbrev ax_i92 : ax_I := (9, yX9_leans, cX9_leans, 1, (some .int), 0, false)
def ax_c93 : List (Nat × Instr × Nat) := [(0, .aload_n 0, 1), (1, .getfield 10, 3), (4, .getfield 141, 3), (7, .invokestatic 185, 3), (10, .ireturn, 1)]
abbrev ax_i93 : ax_I := (9, yX9_verdict, cX9_verdict, 1, (some .int), 0, false)
def ax_c94 : List (Nat × Instr × Nat) := [(0, .aload_n 0, 1), (1, .getfield 10, 3), (4, .iload_n 1, 1), (5, .invokevirtual 154, 3), (8, .ifCond .ne 12, 3), (11, .aload_n 0, 1), (12, .bipush (-2), 2), (14, .bipush (-2), 2), (16, .invokevirtual 109, 3), (19, .ireturn, 1), (20, .aload_n 0, 1), (21, .getfield 10, 3), (24, .iload_n 1, 1), (25, .invokevirtual 189, 3), (28, .ifCond .eq 12, 3), (31, .aload_n 0, 1), (32, .bipush (-3), 2), (34, .bipush (-3), 2), (36, .invokevirtual 109, 3), (39, .ireturn, 1), (40, .aload_n 0, 1), (41, .getfield 10, 3), (44, .getfield 192, 3), (47, .aload_n 0, 1), (48, .getfield 10, 3), (51, .getfield 192, 3), (54, .invokevirtual 124, 3), (57, .iconst 0, 1), (58, .iload_n 1, 1), (59, .invokevirtual 127, 3), (62, .aload_n 0, 1), (63, .getfield 10, 3), (66, .getfield 192, 3), (69, .invokevirtual 116, 3), (72, .ireturn, 1)]
abbrev ax_i94 : ax_I := (9, yX9_menu, cX9_menu, 2, (some .int), 1, false)
def ax_c95 : List (Nat × Instr × Nat) := [(0, .aload_n 0, 1), (1, .getfield 10, 3), (4, .getfield 192, 3), (7, .invokevirtual 116, 3), (10, .istore_n 1, 1), (11, .aload_n 0, 1), (12, .getfield 10, 3), (15, .getfield 192, 3), (18, .iconst 0, 1), (19, .invokevirtual 144, 3), (22, .iload_n 1, 1), (23, .ireturn, 1)]
abbrev ax_i95 : ax_I := (9, yX9_wipe, cX9_wipe, 2, (some .int), 0, false)
def ax_c96 : List (Nat × Instr × Nat) := [(0, .iload_n 1, 1), (1, .invokestatic 157, 3), (4, .ifCond .ne 13, 3), (7, .aload_n 0, 1), (8, .bipush (-2), 2), (10, .sipush (-1000), 3), (13, .invokevirtual 109, 3), (16, .ireturn, 1), (17, .aload_n 0, 1), (18, .getfield 59, 3), (21, .iload_n 1, 1), (22, .invokevirtual 195, 3), (25, .aload_n 0, 1), (26, .getfield 10, 3), (29, .getfield 141, 3), (32, .aload_n 0, 1), (33, .getfield 59, 3), (36, .invokevirtual 198, 3), (39, .iadd, 1), (40, .ireturn, 1)]
abbrev ax_i96 : ax_I := (9, yX9_comes, cX9_comes, 2, (some .int), 1, false)
def ax_c97 : List (Nat × Instr × Nat) := [(0, .iload_n 1, 1), (1, .invokestatic 157, 3), (4, .ifCond .eq 8, 3), (7, .iload_n 2, 1), (8, .iconst (-1), 1), (9, .if_icmp .ge 12, 3), (12, .aload_n 0, 1), (13, .bipush (-2), 2), (15, .bipush (-10), 2), (17, .invokevirtual 109, 3), (20, .ireturn, 1), (21, .iload_n 2, 1), (22, .aload_n 0, 1), (23, .getfield 10, 3), (26, .getfield 192, 3), (29, .invokevirtual 116, 3), (32, .if_icmp .lt 6, 3), (35, .bipush (-5), 2), (37, .ireturn, 1), (38, .aload_n 0, 1), (39, .getfield 59, 3), (42, .iload_n 1, 1), (43, .invokevirtual 195, 3), (46, .iload_n 2, 1), (47, .iconst (-1), 1), (48, .if_icmp .ne 24, 3), (51, .aload_n 0, 1), (52, .getfield 10, 3), (55, .getfield 141, 3), (58, .aload_n 0, 1), (59, .getfield 59, 3), (62, .invokevirtual 198, 3), (65, .iadd, 1), (66, .invokestatic 185, 3), (69, .goto 14, 3), (72, .aload_n 0, 1), (73, .getfield 59, 3), (76, .iload_n 2, 1), (77, .invokevirtual 201, 3), (80, .invokestatic 204, 3), (83, .ireturn, 1)]
abbrev ax_i97 : ax_I := (9, yX9_did, cX9_did, 3, (some .int), 2, false)
def ax_c98 : List (Nat × Instr × Nat) := [(0, .iload_n 1, 1), (1, .iconst 1, 1), (2, .iconst 5, 1), (3, .invokestatic 105, 3), (6, .ifCond .eq 10, 3), (9, .iload_n 2, 1), (10, .invokestatic 157, 3), (13, .ifCond .ne 13, 3), (16, .aload_n 0, 1), (17, .bipush (-2), 2), (19, .sipush (-1000), 3), (22, .invokevirtual 109, 3), (25, .ireturn, 1), (26, .aload_n 0, 1), (27, .getfield 66, 3), (30, .iload_n 1, 1), (31, .iload_n 2, 1), (32, .invokevirtual 209, 3), (35, .aload_n 0, 1), (36, .getfield 10, 3), (39, .getfield 141, 3), (42, .iload_n 2, 1), (43, .aload_n 0, 1), (44, .getfield 66, 3), (47, .invokevirtual 212, 3), (50, .invokestatic 215, 3), (53, .iadd, 1), (54, .ireturn, 1)]
abbrev ax_i98 : ax_I := (9, yX9_play, cX9_play, 3, (some .int), 2, false)
def ax_c99 : List (Nat × Instr × Nat) := [(0, .iload_n 1, 1), (1, .iconst 1, 1), (2, .iconst 5, 1), (3, .invokestatic 105, 3), (6, .ifCond .eq 10, 3), (9, .iload_n 2, 1), (10, .invokestatic 157, 3), (13, .ifCond .ne 12, 3), (16, .aload_n 0, 1), (17, .bipush (-2), 2), (19, .bipush (-2), 2), (21, .invokevirtual 109, 3), (24, .ireturn, 1), (25, .aload_n 0, 1), (26, .getfield 66, 3), (29, .iload_n 1, 1), (30, .iload_n 2, 1), (31, .invokevirtual 209, 3), (34, .aload_n 0, 1), (35, .getfield 66, 3), (38, .invokevirtual 218, 3), (41, .ireturn, 1)]
abbrev ax_i99 : ax_I := (9, yX9_first, cX9_first, 3, (some .int), 2, false)
def ax_c100 : List (Nat × Instr × Nat) := [(0, .iload_n 1, 1), (1, .invokestatic 157, 3), (4, .ifCond .eq 8, 3), (7, .iload_n 2, 1), (8, .iconst (-1), 1), (9, .if_icmp .ge 12, 3), (12, .aload_n 0, 1), (13, .bipush (-2), 2), (15, .bipush (-10), 2), (17, .invokevirtual 109, 3), (20, .ireturn, 1), (21, .aload_n 0, 1), (22, .getfield 73, 3), (25, .iload_n 1, 1), (26, .invokevirtual 221, 3), (29, .iload_n 2, 1), (30, .iconst (-1), 1), (31, .if_icmp .eq 14, 3), (34, .aload_n 0, 1), (35, .getfield 73, 3), (38, .invokevirtual 224, 3), (41, .iconst (-1), 1), (42, .if_icmp .ne 11, 3), (45, .aload_n 0, 1), (46, .getfield 73, 3), (49, .invokevirtual 224, 3), (52, .ireturn, 1), (53, .iload_n 2, 1), (54, .aload_n 0, 1), (55, .getfield 73, 3), (58, .invokevirtual 227, 3), (61, .if_icmp .ge 14, 3), (64, .aload_n 0, 1), (65, .getfield 73, 3), (68, .iload_n 2, 1), (69, .invokevirtual 228, 3), (72, .goto 5, 3), (75, .bipush (-5), 2), (77, .ireturn, 1)]
abbrev ax_i100 : ax_I := (9, yX9_pardon, cX9_pardon, 3, (some .int), 2, false)
def ax_c101 : List (Nat × Instr × Nat) := [(0, .iload_n 1, 1), (1, .iconst (-1), 1), (2, .if_icmp .ge 12, 3), (5, .aload_n 0, 1), (6, .bipush (-2), 2), (8, .bipush (-10), 2), (10, .invokevirtual 109, 3), (13, .ireturn, 1), (14, .iconst 0, 1), (15, .istore_n 2, 1), (16, .iconst 0, 1), (17, .istore_n 3, 1), (18, .iload_n 3, 1), (19, .aload_n 0, 1), (20, .getfield 10, 3), (23, .getfield 113, 3), (26, .invokevirtual 116, 3), (29, .if_icmp .ge 64, 3), (32, .iload_n 3, 1), (33, .iconst 1, 1), (34, .iadd, 1), (35, .istore 4, 2), (37, .iload 4, 2), (39, .aload_n 0, 1), (40, .getfield 10, 3), (43, .getfield 113, 3), (46, .invokevirtual 116, 3), (49, .if_icmp .ge 38, 3), (52, .aload_n 0, 1), (53, .getfield 52, 3), (56, .iload_n 3, 1), (57, .iload 4, 2), (59, .invokevirtual 231, 3), (62, .ifCond .eq 19, 3), (65, .iload_n 2, 1), (66, .iload_n 1, 1), (67, .if_icmp .ne 11, 3), (70, .bipush 10, 2), (72, .iload_n 3, 1), (73, .imul, 1), (74, .iload 4, 2), (76, .iadd, 1), (77, .ireturn, 1), (78, .iinc 2 1, 3), (81, .iinc 4 1, 3), (84, .goto (-47), 3), (87, .iinc 3 1, 3), (90, .goto (-72), 3), (93, .iload_n 1, 1), (94, .iconst (-1), 1), (95, .if_icmp .ne 7, 3), (98, .iload_n 2, 1), (99, .goto 5, 3), (102, .bipush (-5), 2), (104, .ireturn, 1)]
abbrev ax_i101 : ax_I := (9, yX9_cancel, cX9_cancel, 5, (some .int), 1, false)
def ax_c102 : List (Nat × Instr × Nat) := [(0, .iload_n 1, 1), (1, .invokestatic 157, 3), (4, .ifCond .ne 12, 3), (7, .aload_n 0, 1), (8, .bipush (-2), 2), (10, .bipush (-2), 2), (12, .invokevirtual 109, 3), (15, .ireturn, 1), (16, .iconst (-1), 1), (17, .istore_n 2, 1), (18, .iconst 0, 1), (19, .istore_n 3, 1), (20, .iload_n 3, 1), (21, .aload_n 0, 1), (22, .getfield 10, 3), (25, .getfield 113, 3), (28, .invokevirtual 116, 3), (31, .if_icmp .ge 55, 3), (34, .aload_n 0, 1), (35, .getfield 52, 3), (38, .iload_n 3, 1), (39, .iload_n 1, 1), (40, .invokevirtual 234, 3), (43, .ifCond .eq 37, 3), (46, .iload_n 2, 1), (47, .iconst (-1), 1), (48, .if_icmp .eq 30, 3), (51, .aload_n 0, 1), (52, .getfield 10, 3), (55, .getfield 113, 3), (58, .iload_n 3, 1), (59, .iconst 3, 1), (60, .invokevirtual 138, 3), (63, .aload_n 0, 1), (64, .getfield 10, 3), (67, .getfield 113, 3), (70, .iload_n 2, 1), (71, .iconst 3, 1), (72, .invokevirtual 138, 3), (75, .if_icmp .ge 5, 3), (78, .iload_n 3, 1), (79, .istore_n 2, 1), (80, .iinc 3 1, 3), (83, .goto (-63), 3), (86, .iload_n 2, 1), (87, .ireturn, 1)]
abbrev ax_i102 : ax_I := (9, yX9_undoes, cX9_undoes, 4, (some .int), 1, false)
def ax_c103 : List (Nat × Instr × Nat) := [(0, .iload_n 1, 1), (1, .invokestatic 157, 3), (4, .ifCond .eq 10, 3), (7, .iload_n 2, 1), (8, .invokestatic 237, 3), (11, .ifCond .ne 12, 3), (14, .aload_n 0, 1), (15, .bipush (-2), 2), (17, .bipush (-2), 2), (19, .invokevirtual 109, 3), (22, .ireturn, 1), (23, .aload_n 0, 1), (24, .getfield 10, 3), (27, .iload_n 1, 1), (28, .iload_n 2, 1), (29, .invokevirtual 240, 3), (32, .ifCond .ne 12, 3), (35, .aload_n 0, 1), (36, .bipush (-4), 2), (38, .bipush (-4), 2), (40, .invokevirtual 109, 3), (43, .ireturn, 1), (44, .aload_n 0, 1), (45, .getfield 10, 3), (48, .getfield 243, 3), (51, .invokevirtual 116, 3), (54, .ireturn, 1)]
abbrev ax_i103 : ax_I := (9, yX9_reading, cX9_reading, 3, (some .int), 2, false)
def ax_c104 : List (Nat × Instr × Nat) := [(0, .aload_n 0, 1), (1, .getfield 10, 3), (4, .getfield 243, 3), (7, .invokevirtual 116, 3), (10, .istore_n 1, 1), (11, .aload_n 0, 1), (12, .getfield 10, 3), (15, .getfield 243, 3), (18, .iconst 0, 1), (19, .invokevirtual 144, 3), (22, .iload_n 1, 1), (23, .ireturn, 1)]
abbrev ax_i104 : ax_I := (9, yX9_forget, cX9_forget, 2, (some .int), 0, false)
def ax_c105 : List (Nat × Instr × Nat) := [(0, .iload_n 1, 1), (1, .iconst 0, 1), (2, .iconst 1, 1), (3, .invokestatic 105, 3), (6, .ifCond .ne 13, 3), (9, .aload_n 0, 1), (10, .bipush (-2), 2), (12, .sipush (-1000), 3), (15, .invokevirtual 109, 3), (18, .ireturn, 1), (19, .aload_n 0, 1), (20, .invokevirtual 246, 3), (23, .iload_n 1, 1), (24, .ifCond .ne 11, 3), (27, .aload_n 0, 1), (28, .getfield 80, 3), (31, .invokevirtual 249, 3), (34, .ireturn, 1), (35, .aload_n 0, 1), (36, .getfield 80, 3), (39, .invokevirtual 249, 3), (42, .ifCond .le 13, 3), (45, .aload_n 0, 1), (46, .getfield 80, 3), (49, .invokevirtual 252, 3), (52, .goto 5, 3), (55, .bipush (-100), 2), (57, .ireturn, 1)]
abbrev ax_i105 : ax_I := (9, yX9_before, cX9_before, 2, (some .int), 1, false)
def ax_c106 : List (Nat × Instr × Nat) := [(0, .iload_n 1, 1), (1, .invokestatic 157, 3), (4, .ifCond .ne 12, 3), (7, .aload_n 0, 1), (8, .bipush (-2), 2), (10, .bipush (-2), 2), (12, .invokevirtual 109, 3), (15, .ireturn, 1), (16, .aload_n 0, 1), (17, .invokevirtual 246, 3), (20, .aload_n 0, 1), (21, .getfield 59, 3), (24, .iload_n 1, 1), (25, .invokevirtual 255, 3), (28, .iconst 0, 1), (29, .istore_n 2, 1), (30, .iconst 0, 1), (31, .istore_n 3, 1), (32, .iload_n 3, 1), (33, .iconst 2, 1), (34, .if_icmp .gt 29, 3), (37, .iload_n 2, 1), (38, .aload_n 0, 1), (39, .getfield 80, 3), (42, .aload_n 0, 1), (43, .getfield 59, 3), (46, .invokevirtual 198, 3), (49, .iload_n 3, 1), (50, .invokevirtual 258, 3), (53, .invokestatic 261, 3), (56, .istore_n 2, 1), (57, .iinc 3 1, 3), (60, .goto (-28), 3), (63, .iload_n 2, 1), (64, .ireturn, 1)]
abbrev ax_i106 : ax_I := (9, yX9_tells, cX9_tells, 4, (some .int), 1, false)
def ax_c107 : List (Nat × Instr × Nat) := [(0, .iload_n 1, 1), (1, .invokestatic 157, 3), (4, .ifCond .ne 12, 3), (7, .aload_n 0, 1), (8, .bipush (-2), 2), (10, .bipush (-2), 2), (12, .invokevirtual 109, 3), (15, .ireturn, 1), (16, .aload_n 0, 1), (17, .getfield 59, 3), (20, .iload_n 1, 1), (21, .invokevirtual 195, 3), (24, .aload_n 0, 1), (25, .getfield 10, 3), (28, .getfield 141, 3), (31, .aload_n 0, 1), (32, .getfield 59, 3), (35, .invokevirtual 198, 3), (38, .iadd, 1), (39, .istore_n 2, 1), (40, .iconst 0, 1), (41, .istore_n 3, 1), (42, .iload_n 3, 1), (43, .aload_n 0, 1), (44, .getfield 59, 3), (47, .invokevirtual 264, 3), (50, .if_icmp .ge 31, 3), (53, .iload_n 2, 1), (54, .aload_n 0, 1), (55, .getfield 59, 3), (58, .iload_n 3, 1), (59, .invokevirtual 201, 3), (62, .isub, 1), (63, .invokestatic 185, 3), (66, .iload_n 2, 1), (67, .invokestatic 185, 3), (70, .if_icmp .eq 5, 3), (73, .iconst 0, 1), (74, .ireturn, 1), (75, .iinc 3 1, 3), (78, .goto (-36), 3), (81, .iconst 1, 1), (82, .ireturn, 1)]
abbrev ax_i107 : ax_I := (9, yX9_sure, cX9_sure, 4, (some .int), 1, false)
def ax_c108 : List (Nat × Instr × Nat) := [(0, .iload_n 1, 1), (1, .invokestatic 157, 3), (4, .ifCond .eq 20, 3), (7, .iload_n 2, 1), (8, .iconst 0, 1), (9, .bipush 10, 2), (11, .invokestatic 105, 3), (14, .ifCond .eq 10, 3), (17, .iload_n 3, 1), (18, .invokestatic 237, 3), (21, .ifCond .ne 12, 3), (24, .aload_n 0, 1), (25, .bipush (-2), 2), (27, .bipush (-2), 2), (29, .invokevirtual 109, 3), (32, .ireturn, 1), (33, .aload_n 0, 1), (34, .getfield 59, 3), (37, .iload_n 1, 1), (38, .invokevirtual 195, 3), (41, .aload_n 0, 1), (42, .aload_n 0, 1), (43, .getfield 59, 3), (46, .iload_n 3, 1), (47, .iload_n 2, 1), (48, .invokevirtual 265, 3), (51, .ldc2_w 269, 3), (54, .aload_n 0, 1), (55, .getfield 59, 3), (58, .invokevirtual 264, 3), (61, .invokestatic 271, 3), (64, .invokevirtual 275, 3), (67, .iconst 1, 1), (68, .ireturn, 1)]
abbrev ax_i108 : ax_I := (9, yX9_burnt, cX9_burnt, 4, (some .int), 3, false)
def ax_c109 : List (Nat × Instr × Nat) := [(0, .iload_n 1, 1), (1, .iconst 0, 1), (2, .ldc_w 279, 3), (5, .invokestatic 105, 3), (8, .ifCond .eq 13, 3), (11, .iload_n 2, 1), (12, .iconst 0, 1), (13, .bipush 60, 2), (15, .invokestatic 105, 3), (18, .ifCond .ne 12, 3), (21, .aload_n 0, 1), (22, .bipush (-2), 2), (24, .bipush (-2), 2), (26, .invokevirtual 109, 3), (29, .ireturn, 1), (30, .iconst 0, 1), (31, .istore_n 3, 1), (32, .iload_n 1, 1), (33, .i2l, 1), (34, .lstore 4, 2), (36, .iconst 0, 1), (37, .istore 6, 2), (39, .iload 6, 2), (41, .iload_n 2, 1), (42, .if_icmp .ge 33, 3), (45, .aload_n 0, 1), (46, .getfield 52, 3), (49, .lload 4, 2), (51, .invokevirtual 280, 3), (54, .lstore 4, 2), (56, .aload_n 0, 1), (57, .getfield 52, 3), (60, .invokevirtual 284, 3), (63, .ifCond .ne 6, 3), (66, .iinc 3 1, 3), (69, .iinc 6 1, 3), (72, .goto (-33), 3), (75, .iload_n 3, 1), (76, .ireturn, 1)]
abbrev ax_i109 : ax_I := (9, yX9_dinners, cX9_dinners, 7, (some .int), 2, false)
def ax_c110 : List (Nat × Instr × Nat) := [(0, .iload_n 1, 1), (1, .iconst 0, 1), (2, .iconst 1, 1), (3, .invokestatic 105, 3), (6, .ifCond .ne 13, 3), (9, .aload_n 0, 1), (10, .bipush (-2), 2), (12, .bipush (-2), 2), (14, .invokevirtual 109, 3), (17, .i2l, 1), (18, .lreturn, 1), (19, .iload_n 1, 1), (20, .ifCond .ne 10, 3), (23, .aload_n 0, 1), (24, .getfield 84, 3), (27, .goto 7, 3), (30, .aload_n 0, 1), (31, .getfield 88, 3), (34, .lreturn, 1)]
abbrev ax_i110 : ax_I := (9, yX9_part, cX9_part, 2, (some .long), 1, false)
def ax_c111 : List (Nat × Instr × Nat) := [(0, .iload_n 1, 1), (1, .iconst 0, 1), (2, .iconst 1, 1), (3, .invokestatic 105, 3), (6, .ifCond .ne 12, 3), (9, .aload_n 0, 1), (10, .bipush (-2), 2), (12, .bipush (-2), 2), (14, .invokevirtual 109, 3), (17, .ireturn, 1), (18, .aload_n 0, 1), (19, .iload_n 1, 1), (20, .invokevirtual 287, 3), (23, .aload_n 0, 1), (24, .getfield 10, 3), (27, .invokevirtual 291, 3), (30, .iconst 1, 1), (31, .ireturn, 1)]
abbrev ax_i111 : ax_I := (9, yX9_image, cX9_image, 2, (some .int), 1, false)
def ax_c112 : List (Nat × Instr × Nat) := [(0, .iload_n 1, 1), (1, .iconst 0, 1), (2, .iconst 1, 1), (3, .invokestatic 105, 3), (6, .ifCond .ne 12, 3), (9, .aload_n 0, 1), (10, .bipush (-2), 2), (12, .bipush (-2), 2), (14, .invokevirtual 109, 3), (17, .ireturn, 1), (18, .aload_n 0, 1), (19, .iload_n 1, 1), (20, .invokevirtual 287, 3), (23, .invokevirtual 294, 3), (26, .ifCond .ne 12, 3), (29, .aload_n 0, 1), (30, .bipush (-3), 2), (32, .bipush (-3), 2), (34, .invokevirtual 109, 3), (37, .ireturn, 1), (38, .aload_n 0, 1), (39, .iload_n 1, 1), (40, .invokevirtual 287, 3), (43, .aload_n 0, 1), (44, .getfield 10, 3), (47, .invokevirtual 298, 3), (50, .iconst 1, 1), (51, .ireturn, 1)]
abbrev ax_i112 : ax_I := (9, yX9_from, cX9_from, 2, (some .int), 1, false)
def ax_c113 : List (Nat × Instr × Nat) := [(0, .iload_n 1, 1), (1, .tableswitch 42 0 2 #[27, 32, 37], 27), (28, .aload_n 0, 1), (29, .getfield 91, 3), (32, .ireturn, 1), (33, .aload_n 0, 1), (34, .getfield 95, 3), (37, .ireturn, 1), (38, .aload_n 0, 1), (39, .getfield 98, 3), (42, .ireturn, 1), (43, .aload_n 0, 1), (44, .bipush (-2), 2), (46, .iconst (-1), 1), (47, .invokevirtual 109, 3), (50, .ireturn, 1)]
abbrev ax_i113 : ax_I := (9, yX9_status, cX9_status, 2, (some .int), 1, false)
def ax_c114 : List (Nat × Instr × Nat) := [(0, .iload_n 1, 1), (1, .iconst 0, 1), (2, .iconst 5, 1), (3, .invokestatic 105, 3), (6, .ifCond .ne 12, 3), (9, .aload_n 0, 1), (10, .bipush (-2), 2), (12, .bipush (-2), 2), (14, .invokevirtual 109, 3), (17, .ireturn, 1), (18, .aload_n 0, 1), (19, .iload_n 1, 1), (20, .invokevirtual 301, 3), (23, .ireturn, 1)]
abbrev ax_i114 : ax_I := (9, yX9_count, cX9_count, 2, (some .int), 1, false)
def ax_c115 : List (Nat × Instr × Nat) := [(0, .ldc2_w 304, 3), (3, .lstore_n 1, 1), (4, .iconst 0, 1), (5, .istore_n 3, 1), (6, .iload_n 3, 1), (7, .iconst 5, 1), (8, .if_icmp .gt 20, 3), (11, .lload_n 1, 1), (12, .aload_n 0, 1), (13, .iload_n 3, 1), (14, .invokevirtual 301, 3), (17, .i2l, 1), (18, .invokestatic 306, 3), (21, .lstore_n 1, 1), (22, .iinc 3 1, 3), (25, .goto (-19), 3), (28, .lload_n 1, 1), (29, .aload_n 0, 1), (30, .getfield 10, 3), (33, .getfield 141, 3), (36, .i2l, 1), (37, .invokestatic 306, 3), (40, .lstore_n 1, 1), (41, .aload_n 0, 1), (42, .getfield 10, 3), (45, .getfield 135, 3), (48, .lload_n 1, 1), (49, .iconst 5, 1), (50, .invokevirtual 310, 3), (53, .lstore_n 1, 1), (54, .aload_n 0, 1), (55, .getfield 10, 3), (58, .getfield 113, 3), (61, .lload_n 1, 1), (62, .iconst 5, 1), (63, .invokevirtual 310, 3), (66, .lstore_n 1, 1), (67, .aload_n 0, 1), (68, .getfield 10, 3), (71, .getfield 169, 3), (74, .lload_n 1, 1), (75, .iconst 3, 1), (76, .invokevirtual 310, 3), (79, .lstore_n 1, 1), (80, .aload_n 0, 1), (81, .getfield 10, 3), (84, .getfield 192, 3), (87, .lload_n 1, 1), (88, .iconst 1, 1), (89, .invokevirtual 310, 3), (92, .lstore_n 1, 1), (93, .iconst 0, 1), (94, .istore_n 3, 1), (95, .iload_n 3, 1), (96, .aload_n 0, 1), (97, .getfield 10, 3), (100, .getfield 243, 3), (103, .invokevirtual 116, 3), (106, .if_icmp .ge 36, 3), (109, .aload_n 0, 1), (110, .getfield 10, 3), (113, .getfield 243, 3), (116, .lload_n 1, 1), (117, .iload_n 3, 1), (118, .iconst 3, 1), (119, .aload_n 0, 1), (120, .getfield 10, 3), (123, .getfield 243, 3), (126, .iload_n 3, 1), (127, .iconst 2, 1), (128, .invokevirtual 138, 3), (131, .iadd, 1), (132, .invokevirtual 313, 3), (135, .lstore_n 1, 1), (136, .iinc 3 1, 3), (139, .goto (-44), 3), (142, .lload_n 1, 1), (143, .aload_n 0, 1), (144, .getfield 84, 3), (147, .invokestatic 306, 3), (150, .aload_n 0, 1), (151, .getfield 88, 3), (154, .invokestatic 306, 3), (157, .lreturn, 1)]
abbrev ax_i115 : ax_I := (9, yX9_digest, cX9_digest, 4, (some .long), 0, false)
def ax_c116 : List (Nat × Instr × Nat) := [(0, .iload_n 1, 1), (1, .bipush (-2), 2), (3, .if_icmp .ne 16, 3), (6, .aload_n 0, 1), (7, .dup, 1), (8, .getfield 91, 3), (11, .iconst 1, 1), (12, .iadd, 1), (13, .putfield 91, 3), (16, .goto 32, 3), (19, .iload_n 1, 1), (20, .bipush (-3), 2), (22, .if_icmp .ne 16, 3), (25, .aload_n 0, 1), (26, .dup, 1), (27, .getfield 95, 3), (30, .iconst 1, 1), (31, .iadd, 1), (32, .putfield 95, 3), (35, .goto 13, 3), (38, .aload_n 0, 1), (39, .dup, 1), (40, .getfield 98, 3), (43, .iconst 1, 1), (44, .iadd, 1), (45, .putfield 98, 3), (48, .iload_n 2, 1), (49, .ireturn, 1)]
abbrev ax_i116 : ax_I := (9, yX9_refuse, cX9_refuse, 3, (some .int), 2, false)
def ax_c117 : List (Nat × Instr × Nat) := [(0, .iload_n 1, 1), (1, .tableswitch 97 0 4 #[35, 46, 64, 75, 86], 35), (36, .aload_n 0, 1), (37, .getfield 10, 3), (40, .getfield 113, 3), (43, .invokevirtual 116, 3), (46, .ireturn, 1), (47, .aload_n 0, 1), (48, .getfield 10, 3), (51, .aload_n 0, 1), (52, .getfield 10, 3), (55, .getfield 169, 3), (58, .invokevirtual 116, 3), (61, .invokevirtual 317, 3), (64, .ireturn, 1), (65, .aload_n 0, 1), (66, .getfield 10, 3), (69, .getfield 169, 3), (72, .invokevirtual 116, 3), (75, .ireturn, 1), (76, .aload_n 0, 1), (77, .getfield 10, 3), (80, .getfield 192, 3), (83, .invokevirtual 116, 3), (86, .ireturn, 1), (87, .aload_n 0, 1), (88, .getfield 10, 3), (91, .getfield 243, 3), (94, .invokevirtual 116, 3), (97, .ireturn, 1), (98, .aload_n 0, 1), (99, .getfield 34, 3), (102, .invokevirtual 116, 3), (105, .ireturn, 1)]
abbrev ax_i117 : ax_I := (9, yX9_howMany, cX9_howMany, 2, (some .int), 1, false)
def ax_c118 : List (Nat × Instr × Nat) := [(0, .iload_n 1, 1), (1, .ifCond .ne 10, 3), (4, .aload_n 0, 1), (5, .getfield 22, 3), (8, .goto 7, 3), (11, .aload_n 0, 1), (12, .getfield 26, 3), (15, .areturn, 1)]
abbrev ax_i118 : ax_I := (9, yX9_imageAt, cX9_imageAt, 2, (some (.object "DinnerPleas$Image")), 1, false)
def ax_c119 : List (Nat × Instr × Nat) := [(0, .aload_n 0, 1), (1, .getfield 80, 3), (4, .invokevirtual 320, 3), (7, .iconst 0, 1), (8, .istore_n 1, 1), (9, .iload_n 1, 1), (10, .aload_n 0, 1), (11, .getfield 10, 3), (14, .getfield 243, 3), (17, .invokevirtual 116, 3), (20, .if_icmp .ge 43, 3), (23, .aload_n 0, 1), (24, .getfield 59, 3), (27, .iload_n 1, 1), (28, .invokevirtual 323, 3), (31, .aload_n 0, 1), (32, .getfield 80, 3), (35, .aload_n 0, 1), (36, .getfield 59, 3), (39, .invokevirtual 198, 3), (42, .aload_n 0, 1), (43, .getfield 10, 3), (46, .getfield 243, 3), (49, .iload_n 1, 1), (50, .iconst 1, 1), (51, .invokevirtual 138, 3), (54, .invokevirtual 326, 3), (57, .iinc 1 1, 3), (60, .goto (-51), 3), (63, .return_, 1)]
abbrev ax_i119 : ax_I := (9, yX9_fitReadings, cX9_fitReadings, 2, none, 0, false)
def ax_c120 : List (Nat × Instr × Nat) := [(0, .lload_n 1, 1), (1, .lload_n 3, 1), (2, .invokestatic 329, 3), (5, .lstore 5, 2), (7, .lload 5, 2), (9, .lconst 0, 1), (10, .lcmp, 1), (11, .ifCond .le 19, 3), (14, .aload_n 0, 1), (15, .lload_n 1, 1), (16, .lload 5, 2), (18, .ldiv, 1), (19, .putfield 84, 3), (22, .aload_n 0, 1), (23, .lload_n 3, 1), (24, .lload 5, 2), (26, .ldiv, 1), (27, .putfield 88, 3), (30, .return_, 1)]
abbrev ax_i120 : ax_I := (9, yX9_setFraction, cX9_setFraction, 7, none, 2, false)
def ax_c121 : List (Nat × Instr × Nat) := [(0, .iload_n 0, 1), (1, .iload_n 1, 1), (2, .if_icmp .lt 12, 3), (5, .iload_n 0, 1), (6, .iload_n 2, 1), (7, .if_icmp .gt 7, 3), (10, .iconst 1, 1), (11, .goto 4, 3), (14, .iconst 0, 1), (15, .ireturn, 1)]
abbrev ax_i121 : ax_I := (9, yX9_isWithin, cX9_isWithin, 3, (some .boolean), 3, true)
def ax_c122 : List (Nat × Instr × Nat) := [(0, .iload_n 0, 1), (1, .iconst 0, 1), (2, .iconst 1, 1), (3, .invokestatic 105, 3), (6, .ireturn, 1)]
abbrev ax_i122 : ax_I := (9, yX9_isSide, cX9_isSide, 1, (some .boolean), 1, true)
def ax_c123 : List (Nat × Instr × Nat) := [(0, .iload_n 0, 1), (1, .iconst 0, 1), (2, .iconst 4, 1), (3, .invokestatic 105, 3), (6, .ireturn, 1)]
abbrev ax_i123 : ax_I := (9, yX9_isTaste, cX9_isTaste, 1, (some .boolean), 1, true)
def ax_c124 : List (Nat × Instr × Nat) := [(0, .iload_n 0, 1), (1, .iconst 0, 1), (2, .iconst 2, 1), (3, .invokestatic 105, 3), (6, .ireturn, 1)]
abbrev ax_i124 : ax_I := (9, yX9_isVerdict, cX9_isVerdict, 1, (some .boolean), 1, true)
def ax_c125 : List (Nat × Instr × Nat) := [(0, .iload_n 0, 1), (1, .iconst 0, 1), (2, .iconst 4, 1), (3, .invokestatic 105, 3), (6, .ifCond .eq 24, 3), (9, .iload_n 1, 1), (10, .getstatic 332, 3), (13, .iload_n 0, 1), (14, .iaload, 1), (15, .getstatic 336, 3), (18, .iload_n 0, 1), (19, .iaload, 1), (20, .invokestatic 105, 3), (23, .ifCond .eq 7, 3), (26, .iconst 1, 1), (27, .goto 4, 3), (30, .iconst 0, 1), (31, .ireturn, 1)]
abbrev ax_i125 : ax_I := (9, yX9_fitsDish, cX9_fitsDish, 2, (some .boolean), 2, true)
def ax_c126 : List (Nat × Instr × Nat) := [(0, .iload_n 0, 1), (1, .ifCond .le 5, 3), (4, .iconst 0, 1), (5, .ireturn, 1), (6, .iload_n 0, 1), (7, .ifCond .ge 7, 3), (10, .iconst 1, 1), (11, .goto 4, 3), (14, .iconst 2, 1), (15, .ireturn, 1)]
abbrev ax_i126 : ax_I := (9, yX9_verdictOf, cX9_verdictOf, 1, (some .int), 1, true)
def ax_c127 : List (Nat × Instr × Nat) := [(0, .iload 4, 2), (2, .ifCond .eq 9, 3), (5, .iconst 2, 1), (6, .iload_n 1, 1), (7, .imul, 1), (8, .goto 4, 3), (11, .iload_n 1, 1), (12, .istore 6, 2), (14, .iload_n 1, 1), (15, .iload_n 2, 1), (16, .iadd, 1), (17, .istore 7, 2), (19, .iload_n 0, 1), (20, .tableswitch 77 0 5 #[77, 40, 43, 46, 50, 65], 40), (60, .iload 6, 2), (62, .ireturn, 1), (63, .iload 7, 2), (65, .ireturn, 1), (66, .iload_n 1, 1), (67, .iload_n 3, 1), (68, .iadd, 1), (69, .ireturn, 1), (70, .iload 5, 2), (72, .ifCond .eq 10, 3), (75, .iload 6, 2), (77, .iconst 3, 1), (78, .iadd, 1), (79, .goto 5, 3), (82, .iload 6, 2), (84, .ireturn, 1), (85, .iload_n 2, 1), (86, .iconst 4, 1), (87, .if_icmp .lt 8, 3), (90, .iload 7, 2), (92, .goto 4, 3), (95, .iconst 0, 1), (96, .ireturn, 1), (97, .iload_n 1, 1), (98, .ireturn, 1)]
abbrev ax_i127 : ax_I := (9, yX9_power, cX9_power, 8, (some .int), 6, true)
def ax_c128 : List (Nat × Instr × Nat) := [(0, .iload_n 0, 1), (1, .ifCond .ne 7, 3), (4, .iload_n 1, 1), (5, .goto 5, 3), (8, .iload_n 1, 1), (9, .ineg, 1), (10, .ireturn, 1)]
abbrev ax_i128 : ax_I := (9, yX9_toSide, cX9_toSide, 2, (some .int), 2, true)
def ax_c129 : List (Nat × Instr × Nat) := [(0, .iload_n 0, 1), (1, .iload_n 1, 1), (2, .ishr, 1), (3, .iconst 1, 1), (4, .iand, 1), (5, .ifCond .eq 7, 3), (8, .iconst 1, 1), (9, .goto 4, 3), (12, .iconst 0, 1), (13, .ireturn, 1)]
abbrev ax_i129 : ax_I := (9, yX9_holds, cX9_holds, 2, (some .boolean), 2, true)
def ax_c130 : List (Nat × Instr × Nat) := [(0, .iload_n 0, 1), (1, .iconst 1, 1), (2, .iload_n 1, 1), (3, .ishl, 1), (4, .ior, 1), (5, .ireturn, 1)]
abbrev ax_i130 : ax_I := (9, yX9_with, cX9_with, 2, (some .int), 2, true)
def ax_c131 : List (Nat × Instr × Nat) := [(0, .ldc2_w 339, 3), (3, .lload_n 0, 1), (4, .lmul, 1), (5, .lload_n 2, 1), (6, .ladd, 1), (7, .lreturn, 1)]
abbrev ax_i131 : ax_I := (9, yX9_mix, cX9_mix, 4, (some .long), 2, true)
def ax_c132 : List (Nat × Instr × Nat) := [(0, .lconst 1, 1), (1, .lstore_n 3, 1), (2, .iconst 0, 1), (3, .istore 5, 2), (5, .iload 5, 2), (7, .iload_n 2, 1), (8, .if_icmp .ge 13, 3), (11, .lload_n 3, 1), (12, .lload_n 0, 1), (13, .lmul, 1), (14, .lstore_n 3, 1), (15, .iinc 5 1, 3), (18, .goto (-13), 3), (21, .lload_n 3, 1), (22, .lreturn, 1)]
abbrev ax_i132 : ax_I := (9, yX9_toPower, cX9_toPower, 6, (some .long), 2, true)
def ax_c133 : List (Nat × Instr × Nat) := [(0, .iconst 0, 1), (1, .istore 4, 2), (3, .iload 4, 2), (5, .bipush 100, 2), (7, .if_icmp .ge 25, 3), (10, .lload_n 2, 1), (11, .lconst 0, 1), (12, .lcmp, 1), (13, .ifCond .eq 19, 3), (16, .lload_n 0, 1), (17, .lload_n 2, 1), (18, .lrem, 1), (19, .lstore 5, 2), (21, .lload_n 2, 1), (22, .lstore_n 0, 1), (23, .lload 5, 2), (25, .lstore_n 2, 1), (26, .iinc 4 1, 3), (29, .goto (-26), 3), (32, .lload_n 0, 1), (33, .lreturn, 1)]
abbrev ax_i133 : ax_I := (9, yX9_commonDivisor, cX9_commonDivisor, 7, (some .long), 2, true)
def ax_c134 : List (Nat × Instr × Nat) := [(0, .aload_n 0, 1), (1, .invokespecial 1, 3), (4, .aload_n 0, 1), (5, .sipush 181, 3), (8, .newarray .int, 2), (10, .putfield 7, 3), (13, .aload_n 0, 1), (14, .sipush 362, 3), (17, .newarray .int, 2), (19, .putfield 13, 3), (22, .aload_n 0, 1), (23, .iconst 2, 1), (24, .newarray .boolean, 2), (26, .putfield 16, 3), (29, .aload_n 0, 1), (30, .iconst 3, 1), (31, .newarray .int, 2), (33, .putfield 20, 3), (36, .aload_n 0, 1), (37, .lconst 1, 1), (38, .putfield 23, 3), (41, .aload_n 0, 1), (42, .bipush 8, 2), (44, .newarray .int, 2), (46, .putfield 27, 3), (49, .aload_n 0, 1), (50, .bipush 6, 2), (52, .newarray .int, 2), (54, .putfield 30, 3), (57, .aload_n 0, 1), (58, .bipush 6, 2), (60, .newarray .int, 2), (62, .putfield 33, 3), (65, .aload_n 0, 1), (66, .bipush 6, 2), (68, .newarray .int, 2), (70, .putfield 36, 3), (73, .aload_n 0, 1), (74, .bipush 6, 2), (76, .newarray .int, 2), (78, .putfield 39, 3), (81, .aload_n 0, 1), (82, .bipush 6, 2), (84, .newarray .int, 2), (86, .putfield 42, 3), (89, .aload_n 0, 1), (90, .bipush 6, 2), (92, .newarray .int, 2), (94, .putfield 45, 3), (97, .aload_n 0, 1), (98, .iconst 4, 1), (99, .newarray .int, 2), (101, .putfield 48, 3), (104, .aload_n 0, 1), (105, .bipush 6, 2), (107, .newarray .int, 2), (109, .putfield 51, 3), (112, .aload_n 0, 1), (113, .iconst 3, 1), (114, .newarray .int, 2), (116, .putfield 54, 3), (119, .aload_n 0, 1), (120, .sipush 150, 3), (123, .newarray .int, 2), (125, .putfield 57, 3), (128, .aload_n 0, 1), (129, .sipush 181, 3), (132, .newarray .int, 2), (134, .putfield 60, 3), (137, .aload_n 0, 1), (138, .iconst 5, 1), (139, .newarray .int, 2), (141, .putfield 63, 3), (144, .aload_n 0, 1), (145, .getfield 7, 3), (148, .iconst 5, 1), (149, .invokestatic 66, 3), (152, .return_, 1)]
abbrev ax_i134 : ax_I := (10, yX10_init, cX10_init, 1, none, 0, false)
def ax_c135 : List (Nat × Instr × Nat) := [(0, .lload_n 0, 1), (1, .lload_n 2, 1), (2, .lcmp, 1), (3, .ifCond .lt 14, 3), (6, .lload_n 0, 1), (7, .lload 4, 2), (9, .lcmp, 1), (10, .ifCond .gt 7, 3), (13, .iconst 1, 1), (14, .goto 4, 3), (17, .iconst 0, 1), (18, .ireturn, 1)]
abbrev ax_i135 : ax_I := (10, yX10_in, cX10_in, 6, (some .boolean), 3, true)
def ax_c136 : List (Nat × Instr × Nat) := [(0, .aload_n 0, 1), (1, .getfield 20, 3), (4, .iconst 0, 1), (5, .dup2, 1), (6, .iaload, 1), (7, .iconst 1, 1), (8, .iadd, 1), (9, .iastore, 1), (10, .iload_n 1, 1), (11, .ireturn, 1)]
abbrev ax_i136 : ax_I := (10, yX10_bad, cX10_bad, 2, (some .int), 1, false)
def ax_c137 : List (Nat × Instr × Nat) := [(0, .aload_n 0, 1), (1, .getfield 20, 3), (4, .iconst 1, 1), (5, .dup2, 1), (6, .iaload, 1), (7, .iconst 1, 1), (8, .iadd, 1), (9, .iastore, 1), (10, .bipush (-3), 2), (12, .ireturn, 1)]
abbrev ax_i137 : ax_I := (10, yX10_no, cX10_no, 1, (some .int), 0, false)
def ax_c138 : List (Nat × Instr × Nat) := [(0, .aload_n 0, 1), (1, .getfield 20, 3), (4, .iconst 2, 1), (5, .dup2, 1), (6, .iaload, 1), (7, .iconst 1, 1), (8, .iadd, 1), (9, .iastore, 1), (10, .bipush (-4), 2), (12, .ireturn, 1)]
abbrev ax_i138 : ax_I := (10, yX10_full, cX10_full, 1, (some .int), 0, false)
def ax_c139 : List (Nat × Instr × Nat) := [(0, .iconst 0, 1), (1, .istore_n 2, 1), (2, .iload_n 2, 1), (3, .sipush 181, 3), (6, .if_icmp .ge 13, 3), (9, .aload_n 0, 1), (10, .iload_n 2, 1), (11, .iconst 0, 1), (12, .iastore, 1), (13, .iinc 2 1, 3), (16, .goto (-14), 3), (19, .aload_n 0, 1), (20, .iconst 1, 1), (21, .iload_n 1, 1), (22, .iastore, 1), (23, .return_, 1)]
abbrev ax_i139 : ax_I := (10, yX10_begin, cX10_begin, 3, none, 2, true)
def ax_c140 : List (Nat × Instr × Nat) := [(0, .aload_n 0, 1), (1, .getfield 7, 3), (4, .iconst 0, 1), (5, .iaload, 1), (6, .ireturn, 1)]
abbrev ax_i140 : ax_I := (10, yX10_dishes, cX10_dishes, 1, (some .int), 0, false)
def ax_c141 : List (Nat × Instr × Nat) := [(0, .iload_n 1, 1), (1, .i2l, 1), (2, .lconst 0, 1), (3, .aload_n 0, 1), (4, .invokevirtual 70, 3), (7, .iconst 1, 1), (8, .isub, 1), (9, .i2l, 1), (10, .invokestatic 74, 3), (13, .ireturn, 1)]
abbrev ax_i141 : ax_I := (10, yX10_isDish, cX10_isDish, 2, (some .boolean), 1, false)
def ax_c142 : List (Nat × Instr × Nat) := [(0, .iload_n 0, 1), (1, .i2l, 1), (2, .lconst 0, 1), (3, .lconst 1, 1), (4, .invokestatic 74, 3), (7, .ireturn, 1)]
abbrev ax_i142 : ax_I := (10, yX10_isSide, cX10_isSide, 1, (some .boolean), 1, true)
def ax_c143 : List (Nat × Instr × Nat) := [(0, .iload_n 0, 1), (1, .i2l, 1), (2, .lconst 0, 1), (3, .ldc2_w 78, 3), (6, .invokestatic 74, 3), (9, .ireturn, 1)]
abbrev ax_i143 : ax_I := (10, yX10_isTaste, cX10_isTaste, 1, (some .boolean), 1, true)
def ax_c144 : List (Nat × Instr × Nat) := [(0, .aload_n 0, 1), (1, .getfield 7, 3), (4, .bipush 6, 2), (6, .iconst 5, 1), (7, .iload_n 1, 1), (8, .imul, 1), (9, .iadd, 1), (10, .iload_n 2, 1), (11, .iadd, 1), (12, .iaload, 1), (13, .ireturn, 1)]
abbrev ax_i144 : ax_I := (10, yX10_get, cX10_get, 3, (some .int), 2, false)
def ax_c145 : List (Nat × Instr × Nat) := [(0, .iload_n 1, 1), (1, .i2l, 1), (2, .lconst 0, 1), (3, .ldc2_w 80, 3), (6, .invokestatic 74, 3), (9, .ifCond .ne 10, 3), (12, .aload_n 0, 1), (13, .bipush (-2), 2), (15, .invokevirtual 82, 3), (18, .ireturn, 1), (19, .aload_n 0, 1), (20, .invokevirtual 70, 3), (23, .istore_n 2, 1), (24, .aload_n 0, 1), (25, .getfield 7, 3), (28, .iload_n 1, 1), (29, .invokestatic 66, 3), (32, .iload_n 2, 1), (33, .ireturn, 1)]
abbrev ax_i145 : ax_I := (10, yX10_court, cX10_court, 3, (some .int), 1, false)
def ax_c146 : List (Nat × Instr × Nat) := [(0, .bipush 6, 2), (2, .iconst 5, 1), (3, .aload_n 0, 1), (4, .iconst 0, 1), (5, .iaload, 1), (6, .imul, 1), (7, .iadd, 1), (8, .istore 6, 2), (10, .aload_n 0, 1), (11, .iload 6, 2), (13, .iconst 0, 1), (14, .iadd, 1), (15, .iload_n 1, 1), (16, .iastore, 1), (17, .aload_n 0, 1), (18, .iload 6, 2), (20, .iconst 1, 1), (21, .iadd, 1), (22, .iload_n 2, 1), (23, .iastore, 1), (24, .aload_n 0, 1), (25, .iload 6, 2), (27, .iconst 2, 1), (28, .iadd, 1), (29, .iload_n 3, 1), (30, .iastore, 1), (31, .aload_n 0, 1), (32, .iload 6, 2), (34, .iconst 3, 1), (35, .iadd, 1), (36, .iload 4, 2), (38, .iastore, 1), (39, .aload_n 0, 1), (40, .iload 6, 2), (42, .iconst 4, 1), (43, .iadd, 1), (44, .iload 5, 2), (46, .iastore, 1), (47, .aload_n 0, 1), (48, .iconst 0, 1), (49, .dup2, 1), (50, .iaload, 1), (51, .iconst 1, 1), (52, .iadd, 1), (53, .iastore, 1), (54, .return_, 1)]
abbrev ax_i146 : ax_I := (10, yX10_layDish, cX10_layDish, 7, none, 6, true)
def ax_c147 : List (Nat × Instr × Nat) := [(0, .iload_n 1, 1), (1, .i2l, 1), (2, .lconst 0, 1), (3, .ldc2_w 86, 3), (6, .invokestatic 74, 3), (9, .ifCond .eq 48, 3), (12, .iload_n 2, 1), (13, .invokestatic 88, 3), (16, .ifCond .eq 41, 3), (19, .iload_n 3, 1), (20, .i2l, 1), (21, .lconst 1, 1), (22, .ldc2_w 80, 3), (25, .invokestatic 74, 3), (28, .ifCond .eq 29, 3), (31, .iload 4, 2), (33, .i2l, 1), (34, .lconst 0, 1), (35, .ldc2_w 80, 3), (38, .invokestatic 74, 3), (41, .ifCond .eq 16, 3), (44, .iload 5, 2), (46, .i2l, 1), (47, .lconst 0, 1), (48, .ldc2_w 92, 3), (51, .invokestatic 74, 3), (54, .ifCond .ne 10, 3), (57, .aload_n 0, 1), (58, .bipush (-2), 2), (60, .invokevirtual 82, 3), (63, .ireturn, 1), (64, .aload_n 0, 1), (65, .invokevirtual 70, 3), (68, .bipush 8, 2), (70, .if_icmp .ne 8, 3), (73, .aload_n 0, 1), (74, .invokevirtual 94, 3), (77, .ireturn, 1), (78, .aload_n 0, 1), (79, .getfield 7, 3), (82, .iload_n 1, 1), (83, .iload_n 2, 1), (84, .iload_n 3, 1), (85, .iload 4, 2), (87, .iload 5, 2), (89, .invokestatic 97, 3), (92, .aload_n 0, 1), (93, .invokevirtual 70, 3), (96, .iconst 1, 1), (97, .isub, 1), (98, .ireturn, 1)]
abbrev ax_i147 : ax_I := (10, yX10_dish, cX10_dish, 6, (some .int), 5, false)
def ax_c148 : List (Nat × Instr × Nat) := [(0, .iload_n 1, 1), (1, .invokestatic 88, 3), (4, .ifCond .eq 24, 3), (7, .iload_n 2, 1), (8, .invokestatic 88, 3), (11, .ifCond .eq 17, 3), (14, .iload_n 3, 1), (15, .i2l, 1), (16, .ldc2_w 101, 3), (19, .ldc2_w 103, 3), (22, .invokestatic 74, 3), (25, .ifCond .ne 10, 3), (28, .aload_n 0, 1), (29, .bipush (-10), 2), (31, .invokevirtual 82, 3), (34, .ireturn, 1), (35, .aload_n 0, 1), (36, .getfield 7, 3), (39, .bipush 46, 2), (41, .iconst 5, 1), (42, .iload_n 1, 1), (43, .imul, 1), (44, .iadd, 1), (45, .iload_n 2, 1), (46, .iadd, 1), (47, .iaload, 1), (48, .istore 4, 2), (50, .aload_n 0, 1), (51, .getfield 7, 3), (54, .bipush 46, 2), (56, .iconst 5, 1), (57, .iload_n 1, 1), (58, .imul, 1), (59, .iadd, 1), (60, .iload_n 2, 1), (61, .iadd, 1), (62, .iload_n 3, 1), (63, .iastore, 1), (64, .iload 4, 2), (66, .ireturn, 1)]
abbrev ax_i148 : ax_I := (10, yX10_book, cX10_book, 5, (some .int), 3, false)
def ax_c149 : List (Nat × Instr × Nat) := [(0, .iload_n 1, 1), (1, .i2l, 1), (2, .ldc2_w 105, 3), (5, .ldc2_w 107, 3), (8, .invokestatic 74, 3), (11, .ifCond .ne 11, 3), (14, .aload_n 0, 1), (15, .sipush (-1000), 3), (18, .invokevirtual 82, 3), (21, .ireturn, 1), (22, .aload_n 0, 1), (23, .getfield 7, 3), (26, .iconst 2, 1), (27, .iaload, 1), (28, .istore_n 2, 1), (29, .aload_n 0, 1), (30, .getfield 7, 3), (33, .iconst 2, 1), (34, .iload_n 1, 1), (35, .iastore, 1), (36, .iload_n 2, 1), (37, .ireturn, 1)]
abbrev ax_i149 : ax_I := (10, yX10_lean, cX10_lean, 3, (some .int), 1, false)
def ax_c150 : List (Nat × Instr × Nat) := [(0, .aload_n 0, 1), (1, .iconst 0, 1), (2, .putfield 109, 3), (5, .aload_n 0, 1), (6, .iconst 0, 1), (7, .putfield 113, 3), (10, .aload_n 0, 1), (11, .iconst 0, 1), (12, .putfield 116, 3), (15, .aload_n 0, 1), (16, .iconst (-1), 1), (17, .putfield 119, 3), (20, .return_, 1)]
abbrev ax_i150 : ax_I := (10, yX10_layEmpty, cX10_layEmpty, 1, none, 0, false)
def ax_c151 : List (Nat × Instr × Nat) := [(0, .aload_n 0, 1), (1, .invokevirtual 122, 3), (4, .iconst 0, 1), (5, .istore_n 1, 1), (6, .iload_n 1, 1), (7, .aload_n 0, 1), (8, .getfield 7, 3), (11, .iconst 3, 1), (12, .iaload, 1), (13, .if_icmp .ge 49, 3), (16, .aload_n 0, 1), (17, .aload_n 0, 1), (18, .getfield 7, 3), (21, .bipush 71, 2), (23, .iconst 4, 1), (24, .iload_n 1, 1), (25, .imul, 1), (26, .iadd, 1), (27, .iaload, 1), (28, .putfield 119, 3), (31, .aload_n 0, 1), (32, .dup, 1), (33, .getfield 113, 3), (36, .iconst 1, 1), (37, .aload_n 0, 1), (38, .getfield 119, 3), (41, .ishl, 1), (42, .ior, 1), (43, .putfield 113, 3), (46, .aload_n 0, 1), (47, .dup, 1), (48, .getfield 116, 3), (51, .iconst 1, 1), (52, .iadd, 1), (53, .putfield 116, 3), (56, .iinc 1 1, 3), (59, .goto (-53), 3), (62, .aload_n 0, 1), (63, .aload_n 0, 1), (64, .getfield 7, 3), (67, .iconst 2, 1), (68, .iaload, 1), (69, .putfield 109, 3), (72, .return_, 1)]
abbrev ax_i151 : ax_I := (10, yX10_layHand, cX10_layHand, 2, none, 0, false)
def ax_c152 : List (Nat × Instr × Nat) := [(0, .aload_n 0, 1), (1, .getfield 7, 3), (4, .iconst 1, 1), (5, .iaload, 1), (6, .aload_n 0, 1), (7, .getfield 116, 3), (10, .if_icmp .le 17, 3), (13, .aload_n 0, 1), (14, .getfield 7, 3), (17, .iconst 1, 1), (18, .iaload, 1), (19, .aload_n 0, 1), (20, .getfield 116, 3), (23, .isub, 1), (24, .goto 4, 3), (27, .iconst 0, 1), (28, .ireturn, 1)]
abbrev ax_i152 : ax_I := (10, yX10_hungry, cX10_hungry, 1, (some .int), 0, false)
def ax_c153 : List (Nat × Instr × Nat) := [(0, .aload_n 0, 1), (1, .getfield 119, 3), (4, .iconst (-1), 1), (5, .if_icmp .eq 32, 3), (8, .aload_n 0, 1), (9, .aload_n 0, 1), (10, .getfield 119, 3), (13, .iconst 1, 1), (14, .invokevirtual 125, 3), (17, .aload_n 0, 1), (18, .iload_n 1, 1), (19, .iconst 1, 1), (20, .invokevirtual 125, 3), (23, .if_icmp .ne 14, 3), (26, .iconst 2, 1), (27, .aload_n 0, 1), (28, .iload_n 1, 1), (29, .iconst 2, 1), (30, .invokevirtual 125, 3), (33, .imul, 1), (34, .goto 9, 3), (37, .aload_n 0, 1), (38, .iload_n 1, 1), (39, .iconst 2, 1), (40, .invokevirtual 125, 3), (43, .ireturn, 1)]
abbrev ax_i153 : ax_I := (10, yX10_sauce, cX10_sauce, 2, (some .int), 1, false)
def ax_c154 : List (Nat × Instr × Nat) := [(0, .aload_n 0, 1), (1, .iload_n 1, 1), (2, .iconst 0, 1), (3, .invokevirtual 125, 3), (6, .tableswitch 126 1 5 #[34, 40, 52, 64, 102], 34), (40, .aload_n 0, 1), (41, .iload_n 1, 1), (42, .invokevirtual 129, 3), (45, .ireturn, 1), (46, .aload_n 0, 1), (47, .iload_n 1, 1), (48, .iconst 2, 1), (49, .invokevirtual 125, 3), (52, .aload_n 0, 1), (53, .getfield 116, 3), (56, .iadd, 1), (57, .ireturn, 1), (58, .aload_n 0, 1), (59, .iload_n 1, 1), (60, .iconst 2, 1), (61, .invokevirtual 125, 3), (64, .aload_n 0, 1), (65, .invokevirtual 132, 3), (68, .iadd, 1), (69, .ireturn, 1), (70, .aload_n 0, 1), (71, .iload_n 1, 1), (72, .invokevirtual 129, 3), (75, .aload_n 0, 1), (76, .getfield 119, 3), (79, .iconst (-1), 1), (80, .if_icmp .eq 25, 3), (83, .aload_n 0, 1), (84, .aload_n 0, 1), (85, .getfield 119, 3), (88, .iconst 4, 1), (89, .invokevirtual 125, 3), (92, .aload_n 0, 1), (93, .iload_n 1, 1), (94, .iconst 4, 1), (95, .invokevirtual 125, 3), (98, .if_icmp .eq 7, 3), (101, .iconst 3, 1), (102, .goto 4, 3), (105, .iconst 0, 1), (106, .iadd, 1), (107, .ireturn, 1), (108, .aload_n 0, 1), (109, .getfield 116, 3), (112, .iconst 3, 1), (113, .if_icmp .le 17, 3), (116, .aload_n 0, 1), (117, .iload_n 1, 1), (118, .iconst 2, 1), (119, .invokevirtual 125, 3), (122, .aload_n 0, 1), (123, .getfield 116, 3), (126, .iadd, 1), (127, .goto 4, 3), (130, .iconst 0, 1), (131, .ireturn, 1), (132, .aload_n 0, 1), (133, .iload_n 1, 1), (134, .iconst 2, 1), (135, .invokevirtual 125, 3), (138, .ireturn, 1)]
abbrev ax_i154 : ax_I := (10, yX10_power, cX10_power, 2, (some .int), 1, false)
def ax_c155 : List (Nat × Instr × Nat) := [(0, .aload_n 0, 1), (1, .iload_n 1, 1), (2, .invokevirtual 135, 3), (5, .aload_n 0, 1), (6, .getfield 119, 3), (9, .iconst (-1), 1), (10, .if_icmp .ne 7, 3), (13, .iconst 0, 1), (14, .goto 29, 3), (17, .aload_n 0, 1), (18, .getfield 7, 3), (21, .bipush 46, 2), (23, .iconst 5, 1), (24, .aload_n 0, 1), (25, .aload_n 0, 1), (26, .getfield 119, 3), (29, .iconst 1, 1), (30, .invokevirtual 125, 3), (33, .imul, 1), (34, .iadd, 1), (35, .aload_n 0, 1), (36, .iload_n 1, 1), (37, .iconst 1, 1), (38, .invokevirtual 125, 3), (41, .iadd, 1), (42, .iaload, 1), (43, .iadd, 1), (44, .istore_n 2, 1), (45, .iload_n 2, 1), (46, .ifCond .le 7, 3), (49, .iload_n 2, 1), (50, .goto 4, 3), (53, .iconst 0, 1), (54, .ireturn, 1)]
abbrev ax_i155 : ax_I := (10, yX10_does, cX10_does, 3, (some .int), 1, false)
def ax_c156 : List (Nat × Instr × Nat) := [(0, .aload_n 0, 1), (1, .iload_n 1, 1), (2, .invokevirtual 138, 3), (5, .istore 4, 2), (7, .aload_n 0, 1), (8, .dup, 1), (9, .getfield 109, 3), (12, .iload_n 3, 1), (13, .iload_n 2, 1), (14, .ifCond .ne 8, 3), (17, .iload 4, 2), (19, .goto 6, 3), (22, .iload 4, 2), (24, .ineg, 1), (25, .imul, 1), (26, .iadd, 1), (27, .putfield 109, 3), (30, .aload_n 0, 1), (31, .dup, 1), (32, .getfield 113, 3), (35, .iconst 1, 1), (36, .iload_n 1, 1), (37, .ishl, 1), (38, .ior, 1), (39, .putfield 113, 3), (42, .aload_n 0, 1), (43, .dup, 1), (44, .getfield 116, 3), (47, .iconst 1, 1), (48, .iadd, 1), (49, .putfield 116, 3), (52, .aload_n 0, 1), (53, .iload_n 1, 1), (54, .putfield 119, 3), (57, .iload 4, 2), (59, .ireturn, 1)]
abbrev ax_i156 : ax_I := (10, yX10_comesOn, cX10_comesOn, 5, (some .int), 3, false)
def ax_c157 : List (Nat × Instr × Nat) := [(0, .aload_n 0, 1), (1, .getfield 113, 3), (4, .iload_n 1, 1), (5, .ishr, 1), (6, .iconst 1, 1), (7, .iand, 1), (8, .iconst 1, 1), (9, .if_icmp .ne 7, 3), (12, .iconst 1, 1), (13, .goto 4, 3), (16, .iconst 0, 1), (17, .ireturn, 1)]
abbrev ax_i157 : ax_I := (10, yX10_wasServed, cX10_wasServed, 2, (some .boolean), 1, false)
def ax_c158 : List (Nat × Instr × Nat) := [(0, .aload_n 0, 1), (1, .iload_n 1, 1), (2, .iconst 4, 1), (3, .invokevirtual 125, 3), (6, .iconst 2, 1), (7, .if_icmp .eq 13, 3), (10, .aload_n 0, 1), (11, .iload_n 1, 1), (12, .iconst 4, 1), (13, .invokevirtual 125, 3), (16, .iload_n 2, 1), (17, .if_icmp .ne 7, 3), (20, .iconst 1, 1), (21, .goto 4, 3), (24, .iconst 0, 1), (25, .ireturn, 1)]
abbrev ax_i158 : ax_I := (10, yX10_isOf, cX10_isOf, 3, (some .boolean), 2, false)
def ax_c159 : List (Nat × Instr × Nat) := [(0, .aload_n 0, 1), (1, .getfield 116, 3), (4, .bipush 9, 2), (6, .if_icmp .ge 24, 3), (9, .aload_n 0, 1), (10, .iload_n 1, 1), (11, .invokevirtual 141, 3), (14, .ifCond .ne 16, 3), (17, .aload_n 0, 1), (18, .iload_n 1, 1), (19, .iload_n 2, 1), (20, .invokevirtual 144, 3), (23, .ifCond .eq 7, 3), (26, .iconst 1, 1), (27, .goto 4, 3), (30, .iconst 0, 1), (31, .ireturn, 1)]
abbrev ax_i159 : ax_I := (10, yX10_mayServe, cX10_mayServe, 3, (some .boolean), 2, false)
def ax_c160 : List (Nat × Instr × Nat) := [(0, .iload_n 0, 1), (1, .ifCond .le 7, 3), (4, .iconst 0, 1), (5, .goto 12, 3), (8, .iload_n 0, 1), (9, .ifCond .ge 7, 3), (12, .iconst 1, 1), (13, .goto 4, 3), (16, .iconst 2, 1), (17, .ireturn, 1)]
abbrev ax_i160 : ax_I := (10, yX10_verdictOf, cX10_verdictOf, 1, (some .int), 1, true)
def ax_c161 : List (Nat × Instr × Nat) := [(0, .aload_n 0, 1), (1, .iload_n 1, 1), (2, .invokevirtual 148, 3), (5, .ifCond .eq 10, 3), (8, .iload_n 2, 1), (9, .invokestatic 151, 3), (12, .ifCond .ne 10, 3), (15, .aload_n 0, 1), (16, .bipush (-2), 2), (18, .invokevirtual 82, 3), (21, .ireturn, 1), (22, .aload_n 0, 1), (23, .invokevirtual 154, 3), (26, .aload_n 0, 1), (27, .iload_n 1, 1), (28, .iload_n 2, 1), (29, .invokevirtual 157, 3), (32, .ifCond .ne 8, 3), (35, .aload_n 0, 1), (36, .invokevirtual 160, 3), (39, .ireturn, 1), (40, .bipush 71, 2), (42, .iconst 4, 1), (43, .aload_n 0, 1), (44, .getfield 7, 3), (47, .iconst 3, 1), (48, .iaload, 1), (49, .imul, 1), (50, .iadd, 1), (51, .istore_n 3, 1), (52, .aload_n 0, 1), (53, .getfield 7, 3), (56, .iload_n 3, 1), (57, .iconst 3, 1), (58, .iadd, 1), (59, .aload_n 0, 1), (60, .getfield 7, 3), (63, .iconst 2, 1), (64, .iaload, 1), (65, .iastore, 1), (66, .aload_n 0, 1), (67, .iload_n 1, 1), (68, .iload_n 2, 1), (69, .iconst 1, 1), (70, .invokevirtual 163, 3), (73, .istore 4, 2), (75, .aload_n 0, 1), (76, .getfield 7, 3), (79, .iload_n 3, 1), (80, .iload_n 1, 1), (81, .iastore, 1), (82, .aload_n 0, 1), (83, .getfield 7, 3), (86, .iload_n 3, 1), (87, .iconst 1, 1), (88, .iadd, 1), (89, .iload_n 2, 1), (90, .iastore, 1), (91, .aload_n 0, 1), (92, .getfield 7, 3), (95, .iload_n 3, 1), (96, .iconst 2, 1), (97, .iadd, 1), (98, .iload 4, 2), (100, .iastore, 1), (101, .aload_n 0, 1), (102, .getfield 7, 3), (105, .iconst 3, 1), (106, .dup2, 1), (107, .iaload, 1), (108, .iconst 1, 1), (109, .iadd, 1), (110, .iastore, 1), (111, .aload_n 0, 1), (112, .getfield 7, 3), (115, .iconst 2, 1), (116, .aload_n 0, 1), (117, .getfield 109, 3), (120, .iastore, 1), (121, .iload 4, 2), (123, .ireturn, 1)]
abbrev ax_i161 : ax_I := (10, yX10_serve, cX10_serve, 5, (some .int), 2, false)
def ax_c162 : List (Nat × Instr × Nat) := [(0, .aload_n 0, 1), (1, .getfield 7, 3), (4, .iconst 3, 1), (5, .iaload, 1), (6, .ifCond .ne 8, 3), (9, .aload_n 0, 1), (10, .invokevirtual 160, 3), (13, .ireturn, 1), (14, .aload_n 0, 1), (15, .getfield 7, 3), (18, .iconst 3, 1), (19, .dup2, 1), (20, .iaload, 1), (21, .iconst 1, 1), (22, .isub, 1), (23, .iastore, 1), (24, .aload_n 0, 1), (25, .getfield 7, 3), (28, .iconst 2, 1), (29, .aload_n 0, 1), (30, .getfield 7, 3), (33, .bipush 71, 2), (35, .iconst 4, 1), (36, .aload_n 0, 1), (37, .getfield 7, 3), (40, .iconst 3, 1), (41, .iaload, 1), (42, .imul, 1), (43, .iadd, 1), (44, .iconst 3, 1), (45, .iadd, 1), (46, .iaload, 1), (47, .iastore, 1), (48, .aload_n 0, 1), (49, .getfield 7, 3), (52, .iconst 3, 1), (53, .iaload, 1), (54, .ireturn, 1)]
abbrev ax_i162 : ax_I := (10, yX10_undo, cX10_undo, 1, (some .int), 0, false)
def ax_c163 : List (Nat × Instr × Nat) := [(0, .aload_n 0, 1), (1, .iload_n 1, 1), (2, .invokevirtual 148, 3), (5, .ifCond .eq 15, 3), (8, .iload_n 2, 1), (9, .i2l, 1), (10, .lconst 0, 1), (11, .ldc2_w 167, 3), (14, .invokestatic 74, 3), (17, .ifCond .ne 10, 3), (20, .aload_n 0, 1), (21, .bipush (-2), 2), (23, .invokevirtual 82, 3), (26, .ireturn, 1), (27, .aload_n 0, 1), (28, .invokevirtual 154, 3), (31, .iload_n 2, 1), (32, .iconst 5, 1), (33, .if_icmp .ge 12, 3), (36, .aload_n 0, 1), (37, .iload_n 1, 1), (38, .iload_n 2, 1), (39, .invokevirtual 125, 3), (42, .goto 30, 3), (45, .iload_n 2, 1), (46, .bipush 6, 2), (48, .if_icmp .ne 11, 3), (51, .aload_n 0, 1), (52, .iload_n 1, 1), (53, .invokevirtual 138, 3), (56, .goto 16, 3), (59, .aload_n 0, 1), (60, .iload_n 1, 1), (61, .invokevirtual 141, 3), (64, .ifCond .eq 7, 3), (67, .iconst 1, 1), (68, .goto 4, 3), (71, .iconst 0, 1), (72, .ireturn, 1)]
abbrev ax_i163 : ax_I := (10, yX10_of, cX10_of, 3, (some .int), 2, false)
def ax_c164 : List (Nat × Instr × Nat) := [(0, .iload_n 1, 1), (1, .i2l, 1), (2, .lconst 0, 1), (3, .aload_n 0, 1), (4, .getfield 7, 3), (7, .iconst 3, 1), (8, .iaload, 1), (9, .iconst 1, 1), (10, .isub, 1), (11, .i2l, 1), (12, .invokestatic 74, 3), (15, .ifCond .eq 31, 3), (18, .iload_n 2, 1), (19, .i2l, 1), (20, .lconst 0, 1), (21, .ldc2_w 92, 3), (24, .invokestatic 74, 3), (27, .ifCond .eq 19, 3), (30, .aload_n 0, 1), (31, .getfield 7, 3), (34, .bipush 71, 2), (36, .iconst 4, 1), (37, .iload_n 1, 1), (38, .imul, 1), (39, .iadd, 1), (40, .iload_n 2, 1), (41, .iadd, 1), (42, .iaload, 1), (43, .goto 9, 3), (46, .aload_n 0, 1), (47, .bipush (-2), 2), (49, .invokevirtual 82, 3), (52, .ireturn, 1)]
abbrev ax_i164 : ax_I := (10, yX10_course, cX10_course, 3, (some .int), 2, false)
def ax_c165 : List (Nat × Instr × Nat) := [(0, .aload_n 0, 1), (1, .getfield 7, 3), (4, .iconst 2, 1), (5, .iaload, 1), (6, .ireturn, 1)]
abbrev ax_i165 : ax_I := (10, yX10_leans, cX10_leans, 1, (some .int), 0, false)
def ax_c166 : List (Nat × Instr × Nat) := [(0, .aload_n 0, 1), (1, .getfield 7, 3), (4, .iconst 2, 1), (5, .iaload, 1), (6, .invokestatic 169, 3), (9, .ireturn, 1)]
abbrev ax_i166 : ax_I := (10, yX10_verdict, cX10_verdict, 1, (some .int), 0, false)
def ax_c167 : List (Nat × Instr × Nat) := [(0, .aload_n 0, 1), (1, .iload_n 1, 1), (2, .invokevirtual 148, 3), (5, .ifCond .ne 10, 3), (8, .aload_n 0, 1), (9, .bipush (-2), 2), (11, .invokevirtual 82, 3), (14, .ireturn, 1), (15, .iconst 0, 1), (16, .istore_n 2, 1), (17, .iload_n 2, 1), (18, .aload_n 0, 1), (19, .getfield 7, 3), (22, .iconst 4, 1), (23, .iaload, 1), (24, .if_icmp .ge 27, 3), (27, .aload_n 0, 1), (28, .getfield 7, 3), (31, .bipush 107, 2), (33, .iload_n 2, 1), (34, .iadd, 1), (35, .iaload, 1), (36, .iload_n 1, 1), (37, .if_icmp .ne 8, 3), (40, .aload_n 0, 1), (41, .invokevirtual 160, 3), (44, .ireturn, 1), (45, .iinc 2 1, 3), (48, .goto (-31), 3), (51, .aload_n 0, 1), (52, .getfield 7, 3), (55, .bipush 107, 2), (57, .aload_n 0, 1), (58, .getfield 7, 3), (61, .iconst 4, 1), (62, .iaload, 1), (63, .iadd, 1), (64, .iload_n 1, 1), (65, .iastore, 1), (66, .aload_n 0, 1), (67, .getfield 7, 3), (70, .iconst 4, 1), (71, .dup2, 1), (72, .iaload, 1), (73, .iconst 1, 1), (74, .iadd, 1), (75, .iastore, 1), (76, .aload_n 0, 1), (77, .getfield 7, 3), (80, .iconst 4, 1), (81, .iaload, 1), (82, .ireturn, 1)]
abbrev ax_i167 : ax_I := (10, yX10_menu, cX10_menu, 3, (some .int), 1, false)
def ax_c168 : List (Nat × Instr × Nat) := [(0, .aload_n 0, 1), (1, .getfield 7, 3), (4, .iconst 4, 1), (5, .iaload, 1), (6, .istore_n 1, 1), (7, .aload_n 0, 1), (8, .getfield 7, 3), (11, .iconst 4, 1), (12, .iconst 0, 1), (13, .iastore, 1), (14, .iload_n 1, 1), (15, .ireturn, 1)]
abbrev ax_i168 : ax_I := (10, yX10_wipe, cX10_wipe, 2, (some .int), 0, false)
def ax_c169 : List (Nat × Instr × Nat) := [(0, .iload_n 3, 1), (1, .istore 5, 2), (3, .iconst 0, 1), (4, .istore 6, 2), (6, .iload 6, 2), (8, .iload_n 2, 1), (9, .if_icmp .ge 76, 3), (12, .aload_n 0, 1), (13, .getfield 7, 3), (16, .iload_n 1, 1), (17, .iload 6, 2), (19, .iadd, 1), (20, .iaload, 1), (21, .istore 7, 2), (23, .aload_n 0, 1), (24, .getfield 27, 3), (27, .iload 6, 2), (29, .iconst 0, 1), (30, .iastore, 1), (31, .aload_n 0, 1), (32, .iload 7, 2), (34, .invokevirtual 141, 3), (37, .ifCond .ne 42, 3), (40, .aload_n 0, 1), (41, .getfield 116, 3), (44, .bipush 9, 2), (46, .if_icmp .ge 33, 3), (49, .aload_n 0, 1), (50, .getfield 27, 3), (53, .iload 6, 2), (55, .aload_n 0, 1), (56, .iload 7, 2), (58, .iload 5, 2), (60, .iconst 1, 1), (61, .iload 4, 2), (63, .iload 6, 2), (65, .ishr, 1), (66, .iconst 1, 1), (67, .iand, 1), (68, .isub, 1), (69, .invokevirtual 163, 3), (72, .iastore, 1), (73, .iconst 1, 1), (74, .iload 5, 2), (76, .isub, 1), (77, .istore 5, 2), (79, .iinc 6 1, 3), (82, .goto (-76), 3), (85, .return_, 1)]
abbrev ax_i169 : ax_I := (10, yX10_goMenu, cX10_goMenu, 8, none, 4, false)
def ax_c170 : List (Nat × Instr × Nat) := [(0, .aload_n 0, 1), (1, .invokevirtual 154, 3), (4, .aload_n 0, 1), (5, .bipush 107, 2), (7, .aload_n 0, 1), (8, .getfield 7, 3), (11, .iconst 4, 1), (12, .iaload, 1), (13, .iload_n 1, 1), (14, .iload_n 2, 1), (15, .invokevirtual 172, 3), (18, .return_, 1)]
abbrev ax_i170 : ax_I := (10, yX10_goNow, cX10_goNow, 3, none, 2, false)
def ax_c171 : List (Nat × Instr × Nat) := [(0, .iload_n 1, 1), (1, .invokestatic 151, 3), (4, .ifCond .ne 11, 3), (7, .aload_n 0, 1), (8, .sipush (-1000), 3), (11, .invokevirtual 82, 3), (14, .ireturn, 1), (15, .aload_n 0, 1), (16, .iload_n 1, 1), (17, .iconst 0, 1), (18, .invokevirtual 176, 3), (21, .aload_n 0, 1), (22, .getfield 109, 3), (25, .ireturn, 1)]
abbrev ax_i171 : ax_I := (10, yX10_comes, cX10_comes, 2, (some .int), 1, false)
def ax_c172 : List (Nat × Instr × Nat) := [(0, .iload_n 1, 1), (1, .invokestatic 151, 3), (4, .ifCond .eq 8, 3), (7, .iload_n 2, 1), (8, .iconst (-1), 1), (9, .if_icmp .ge 10, 3), (12, .aload_n 0, 1), (13, .bipush (-10), 2), (15, .invokevirtual 82, 3), (18, .ireturn, 1), (19, .aload_n 0, 1), (20, .iload_n 1, 1), (21, .iconst 0, 1), (22, .invokevirtual 176, 3), (25, .iload_n 2, 1), (26, .iconst (-1), 1), (27, .if_icmp .ne 13, 3), (30, .aload_n 0, 1), (31, .getfield 109, 3), (34, .invokestatic 169, 3), (37, .goto 24, 3), (40, .iload_n 2, 1), (41, .aload_n 0, 1), (42, .getfield 7, 3), (45, .iconst 4, 1), (46, .iaload, 1), (47, .if_icmp .ge 12, 3), (50, .aload_n 0, 1), (51, .getfield 27, 3), (54, .iload_n 2, 1), (55, .iaload, 1), (56, .goto 5, 3), (59, .bipush (-5), 2), (61, .ireturn, 1)]
abbrev ax_i172 : ax_I := (10, yX10_did, cX10_did, 3, (some .int), 2, false)
def ax_c173 : List (Nat × Instr × Nat) := [(0, .aload_n 0, 1), (1, .getfield 30, 3), (4, .iload_n 1, 1), (5, .aload_n 0, 1), (6, .getfield 109, 3), (9, .iastore, 1), (10, .aload_n 0, 1), (11, .getfield 33, 3), (14, .iload_n 1, 1), (15, .aload_n 0, 1), (16, .getfield 113, 3), (19, .iastore, 1), (20, .aload_n 0, 1), (21, .getfield 36, 3), (24, .iload_n 1, 1), (25, .aload_n 0, 1), (26, .getfield 116, 3), (29, .iastore, 1), (30, .aload_n 0, 1), (31, .getfield 39, 3), (34, .iload_n 1, 1), (35, .aload_n 0, 1), (36, .getfield 119, 3), (39, .iastore, 1), (40, .aload_n 0, 1), (41, .getfield 42, 3), (44, .iload_n 1, 1), (45, .iconst 0, 1), (46, .iastore, 1), (47, .aload_n 0, 1), (48, .getfield 45, 3), (51, .iload_n 1, 1), (52, .ldc 180, 2), (54, .iastore, 1), (55, .return_, 1)]
abbrev ax_i173 : ax_I := (10, yX10_layTurn, cX10_layTurn, 2, none, 1, false)
def ax_c174 : List (Nat × Instr × Nat) := [(0, .aload_n 0, 1), (1, .aload_n 0, 1), (2, .getfield 30, 3), (5, .iload_n 1, 1), (6, .iaload, 1), (7, .putfield 109, 3), (10, .aload_n 0, 1), (11, .aload_n 0, 1), (12, .getfield 33, 3), (15, .iload_n 1, 1), (16, .iaload, 1), (17, .putfield 113, 3), (20, .aload_n 0, 1), (21, .aload_n 0, 1), (22, .getfield 36, 3), (25, .iload_n 1, 1), (26, .iaload, 1), (27, .putfield 116, 3), (30, .aload_n 0, 1), (31, .aload_n 0, 1), (32, .getfield 39, 3), (35, .iload_n 1, 1), (36, .iaload, 1), (37, .putfield 119, 3), (40, .return_, 1)]
abbrev ax_i174 : ax_I := (10, yX10_backTo, cX10_backTo, 2, none, 1, false)
def ax_c175 : List (Nat × Instr × Nat) := [(0, .aload_n 0, 1), (1, .getfield 45, 3), (4, .iload_n 1, 1), (5, .iaload, 1), (6, .ldc 180, 2), (8, .if_icmp .eq 30, 3), (11, .iload_n 2, 1), (12, .ifCond .ne 16, 3), (15, .iload_n 3, 1), (16, .aload_n 0, 1), (17, .getfield 45, 3), (20, .iload_n 1, 1), (21, .iaload, 1), (22, .if_icmp .le 20, 3), (25, .goto 13, 3), (28, .iload_n 3, 1), (29, .aload_n 0, 1), (30, .getfield 45, 3), (33, .iload_n 1, 1), (34, .iaload, 1), (35, .if_icmp .ge 7, 3), (38, .iconst 1, 1), (39, .goto 4, 3), (42, .iconst 0, 1), (43, .istore 4, 2), (45, .aload_n 0, 1), (46, .getfield 45, 3), (49, .iload_n 1, 1), (50, .iload 4, 2), (52, .ifCond .eq 7, 3), (55, .iload_n 3, 1), (56, .goto 9, 3), (59, .aload_n 0, 1), (60, .getfield 45, 3), (63, .iload_n 1, 1), (64, .iaload, 1), (65, .iastore, 1), (66, .aload_n 0, 1), (67, .iload 4, 2), (69, .ifCond .eq 16, 3), (72, .iload_n 1, 1), (73, .ifCond .ne 12, 3), (76, .aload_n 0, 1), (77, .getfield 42, 3), (80, .iload_n 1, 1), (81, .iaload, 1), (82, .goto 7, 3), (85, .aload_n 0, 1), (86, .getfield 181, 3), (89, .putfield 181, 3), (92, .aload_n 0, 1), (93, .getfield 42, 3), (96, .iload_n 1, 1), (97, .dup2, 1), (98, .iaload, 1), (99, .iconst 1, 1), (100, .iadd, 1), (101, .iastore, 1), (102, .return_, 1)]
abbrev ax_i175 : ax_I := (10, yX10_judge, cX10_judge, 5, none, 3, false)
def ax_c176 : List (Nat × Instr × Nat) := [(0, .iconst 0, 1), (1, .istore_n 3, 1), (2, .aload_n 0, 1), (3, .invokevirtual 154, 3), (6, .aload_n 0, 1), (7, .iconst 0, 1), (8, .invokevirtual 184, 3), (11, .iload_n 3, 1), (12, .ifCond .gt 14, 3), (15, .aload_n 0, 1), (16, .getfield 42, 3), (19, .iconst 0, 1), (20, .iaload, 1), (21, .bipush 8, 2), (23, .if_icmp .gt 161, 3), (26, .iload_n 2, 1), (27, .iload_n 3, 1), (28, .iadd, 1), (29, .iconst 2, 1), (30, .irem, 1), (31, .istore 4, 2), (33, .iload_n 3, 1), (34, .iload_n 1, 1), (35, .if_icmp .eq 14, 3), (38, .aload_n 0, 1), (39, .getfield 42, 3), (42, .iload_n 3, 1), (43, .iaload, 1), (44, .bipush 8, 2), (46, .if_icmp .le 45, 3), (49, .iload_n 3, 1), (50, .iload_n 1, 1), (51, .if_icmp .ne 10, 3), (54, .aload_n 0, 1), (55, .getfield 109, 3), (58, .goto 9, 3), (61, .aload_n 0, 1), (62, .getfield 45, 3), (65, .iload_n 3, 1), (66, .iaload, 1), (67, .istore 5, 2), (69, .iinc 3 (-1), 3), (72, .aload_n 0, 1), (73, .iload_n 3, 1), (74, .invokevirtual 188, 3), (77, .aload_n 0, 1), (78, .iload_n 3, 1), (79, .iconst 1, 1), (80, .iload 4, 2), (82, .isub, 1), (83, .iload 5, 2), (85, .invokevirtual 191, 3), (88, .goto 93, 3), (91, .aload_n 0, 1), (92, .getfield 42, 3), (95, .iload_n 3, 1), (96, .iaload, 1), (97, .bipush 8, 2), (99, .if_icmp .eq 31, 3), (102, .aload_n 0, 1), (103, .getfield 42, 3), (106, .iload_n 3, 1), (107, .iaload, 1), (108, .aload_n 0, 1), (109, .invokevirtual 70, 3), (112, .if_icmp .ge 59, 3), (115, .aload_n 0, 1), (116, .aload_n 0, 1), (117, .getfield 42, 3), (120, .iload_n 3, 1), (121, .iaload, 1), (122, .iload 4, 2), (124, .invokevirtual 157, 3), (127, .ifCond .eq 44, 3), (130, .aload_n 0, 1), (131, .getfield 42, 3), (134, .iload_n 3, 1), (135, .iaload, 1), (136, .bipush 8, 2), (138, .if_icmp .ne 7, 3), (141, .iconst 0, 1), (142, .goto 16, 3), (145, .aload_n 0, 1), (146, .aload_n 0, 1), (147, .getfield 42, 3), (150, .iload_n 3, 1), (151, .iaload, 1), (152, .iload 4, 2), (154, .iconst 1, 1), (155, .invokevirtual 163, 3), (158, .istore 5, 2), (160, .iinc 3 1, 3), (163, .aload_n 0, 1), (164, .iload_n 3, 1), (165, .invokevirtual 184, 3), (168, .goto 13, 3), (171, .aload_n 0, 1), (172, .getfield 42, 3), (175, .iload_n 3, 1), (176, .dup2, 1), (177, .iaload, 1), (178, .iconst 1, 1), (179, .iadd, 1), (180, .iastore, 1), (181, .goto (-170), 3), (184, .aload_n 0, 1), (185, .getfield 45, 3), (188, .iconst 0, 1), (189, .iaload, 1), (190, .ireturn, 1)]
abbrev ax_i176 : ax_I := (10, yX10_layPlay, cX10_layPlay, 6, (some .int), 2, false)
def ax_c177 : List (Nat × Instr × Nat) := [(0, .iload_n 1, 1), (1, .i2l, 1), (2, .lconst 1, 1), (3, .ldc2_w 86, 3), (6, .invokestatic 74, 3), (9, .ifCond .eq 19, 3), (12, .iload_n 2, 1), (13, .invokestatic 151, 3), (16, .ifCond .eq 12, 3), (19, .aload_n 0, 1), (20, .iload_n 1, 1), (21, .iload_n 2, 1), (22, .invokevirtual 195, 3), (25, .goto 10, 3), (28, .aload_n 0, 1), (29, .sipush (-1000), 3), (32, .invokevirtual 82, 3), (35, .ireturn, 1)]
abbrev ax_i177 : ax_I := (10, yX10_play, cX10_play, 3, (some .int), 2, false)
def ax_c178 : List (Nat × Instr × Nat) := [(0, .iload_n 1, 1), (1, .i2l, 1), (2, .lconst 1, 1), (3, .ldc2_w 86, 3), (6, .invokestatic 74, 3), (9, .ifCond .eq 10, 3), (12, .iload_n 2, 1), (13, .invokestatic 151, 3), (16, .ifCond .ne 10, 3), (19, .aload_n 0, 1), (20, .bipush (-2), 2), (22, .invokevirtual 82, 3), (25, .ireturn, 1), (26, .aload_n 0, 1), (27, .iload_n 1, 1), (28, .iload_n 2, 1), (29, .invokevirtual 195, 3), (32, .istore_n 3, 1), (33, .aload_n 0, 1), (34, .getfield 181, 3), (37, .ireturn, 1)]
abbrev ax_i178 : ax_I := (10, yX10_first, cX10_first, 4, (some .int), 2, false)
def ax_c179 : List (Nat × Instr × Nat) := [(0, .aload_n 0, 1), (1, .getfield 109, 3), (4, .invokestatic 169, 3), (7, .iload_n 2, 1), (8, .if_icmp .ne 74, 3), (11, .aload_n 0, 1), (12, .getfield 198, 3), (15, .iconst (-1), 1), (16, .if_icmp .eq 27, 3), (19, .iload_n 3, 1), (20, .aload_n 0, 1), (21, .getfield 201, 3), (24, .if_icmp .lt 19, 3), (27, .iload_n 3, 1), (28, .aload_n 0, 1), (29, .getfield 201, 3), (32, .if_icmp .ne 50, 3), (35, .iload_n 1, 1), (36, .aload_n 0, 1), (37, .getfield 198, 3), (40, .if_icmp .ge 42, 3), (43, .aload_n 0, 1), (44, .iload_n 1, 1), (45, .putfield 198, 3), (48, .aload_n 0, 1), (49, .iload_n 3, 1), (50, .putfield 201, 3), (53, .iconst 0, 1), (54, .istore 4, 2), (56, .iload 4, 2), (58, .iload_n 1, 1), (59, .if_icmp .ge 23, 3), (62, .aload_n 0, 1), (63, .getfield 48, 3), (66, .iload 4, 2), (68, .aload_n 0, 1), (69, .getfield 42, 3), (72, .iload 4, 2), (74, .iaload, 1), (75, .iastore, 1), (76, .iinc 4 1, 3), (79, .goto (-23), 3), (82, .return_, 1)]
abbrev ax_i179 : ax_I := (10, yX10_judgeRow, cX10_judgeRow, 5, none, 3, false)
def ax_c180 : List (Nat × Instr × Nat) := [(0, .iconst 0, 1), (1, .istore_n 2, 1), (2, .iconst 0, 1), (3, .istore_n 3, 1), (4, .iload_n 3, 1), (5, .iload_n 1, 1), (6, .if_icmp .ge 23, 3), (9, .iload_n 2, 1), (10, .aload_n 0, 1), (11, .aload_n 0, 1), (12, .getfield 42, 3), (15, .iload_n 3, 1), (16, .iaload, 1), (17, .iconst 3, 1), (18, .invokevirtual 125, 3), (21, .iadd, 1), (22, .istore_n 2, 1), (23, .iinc 3 1, 3), (26, .goto (-22), 3), (29, .iload_n 2, 1), (30, .ireturn, 1)]
abbrev ax_i180 : ax_I := (10, yX10_butterOf, cX10_butterOf, 4, (some .int), 1, false)
def ax_c181 : List (Nat × Instr × Nat) := [(0, .iconst 0, 1), (1, .istore_n 2, 1), (2, .aload_n 0, 1), (3, .iconst (-1), 1), (4, .putfield 198, 3), (7, .aload_n 0, 1), (8, .iconst 0, 1), (9, .putfield 201, 3), (12, .aload_n 0, 1), (13, .invokevirtual 154, 3), (16, .aload_n 0, 1), (17, .iconst 0, 1), (18, .invokevirtual 184, 3), (21, .aload_n 0, 1), (22, .iconst 0, 1), (23, .iload_n 1, 1), (24, .iconst 0, 1), (25, .invokevirtual 204, 3), (28, .aload_n 0, 1), (29, .getfield 198, 3), (32, .iconst (-1), 1), (33, .if_icmp .ne 7, 3), (36, .iconst 1, 1), (37, .goto 4, 3), (40, .iconst 0, 1), (41, .istore_n 3, 1), (42, .iload_n 3, 1), (43, .ifCond .eq 119, 3), (46, .iload_n 2, 1), (47, .iconst 4, 1), (48, .if_icmp .eq 16, 3), (51, .aload_n 0, 1), (52, .getfield 42, 3), (55, .iload_n 2, 1), (56, .iaload, 1), (57, .aload_n 0, 1), (58, .invokevirtual 70, 3), (61, .if_icmp .lt 38, 3), (64, .iinc 2 (-1), 3), (67, .iload_n 2, 1), (68, .ifCond .lt 7, 3), (71, .iconst 1, 1), (72, .goto 4, 3), (75, .iconst 0, 1), (76, .istore_n 3, 1), (77, .iload_n 3, 1), (78, .ifCond .eq (-36), 3), (81, .aload_n 0, 1), (82, .iload_n 2, 1), (83, .invokevirtual 188, 3), (86, .aload_n 0, 1), (87, .getfield 42, 3), (90, .iload_n 2, 1), (91, .dup2, 1), (92, .iaload, 1), (93, .iconst 1, 1), (94, .iadd, 1), (95, .iastore, 1), (96, .goto (-54), 3), (99, .aload_n 0, 1), (100, .aload_n 0, 1), (101, .getfield 42, 3), (104, .iload_n 2, 1), (105, .iaload, 1), (106, .iload_n 1, 1), (107, .invokevirtual 157, 3), (110, .ifCond .eq 39, 3), (113, .aload_n 0, 1), (114, .aload_n 0, 1), (115, .getfield 42, 3), (118, .iload_n 2, 1), (119, .iaload, 1), (120, .iload_n 1, 1), (121, .iconst 1, 1), (122, .invokevirtual 163, 3), (125, .istore 4, 2), (127, .iinc 2 1, 3), (130, .aload_n 0, 1), (131, .iload_n 2, 1), (132, .invokevirtual 184, 3), (135, .aload_n 0, 1), (136, .iload_n 2, 1), (137, .iload_n 1, 1), (138, .aload_n 0, 1), (139, .iload_n 2, 1), (140, .invokevirtual 207, 3), (143, .invokevirtual 204, 3), (146, .goto (-104), 3), (149, .aload_n 0, 1), (150, .getfield 42, 3), (153, .iload_n 2, 1), (154, .dup2, 1), (155, .iaload, 1), (156, .iconst 1, 1), (157, .iadd, 1), (158, .iastore, 1), (159, .goto (-117), 3), (162, .return_, 1)]
abbrev ax_i181 : ax_I := (10, yX10_layPardon, cX10_layPardon, 5, none, 1, false)
def ax_c182 : List (Nat × Instr × Nat) := [(0, .iload_n 1, 1), (1, .invokestatic 151, 3), (4, .ifCond .eq 8, 3), (7, .iload_n 2, 1), (8, .iconst (-1), 1), (9, .if_icmp .ge 10, 3), (12, .aload_n 0, 1), (13, .bipush (-10), 2), (15, .invokevirtual 82, 3), (18, .ireturn, 1), (19, .aload_n 0, 1), (20, .iload_n 1, 1), (21, .invokevirtual 210, 3), (24, .aload_n 0, 1), (25, .getfield 198, 3), (28, .iconst (-1), 1), (29, .if_icmp .ne 7, 3), (32, .iconst (-1), 1), (33, .goto 34, 3), (36, .iload_n 2, 1), (37, .iconst (-1), 1), (38, .if_icmp .ne 10, 3), (41, .aload_n 0, 1), (42, .getfield 201, 3), (45, .goto 22, 3), (48, .iload_n 2, 1), (49, .aload_n 0, 1), (50, .getfield 198, 3), (53, .if_icmp .ge 12, 3), (56, .aload_n 0, 1), (57, .getfield 48, 3), (60, .iload_n 2, 1), (61, .iaload, 1), (62, .goto 5, 3), (65, .bipush (-5), 2), (67, .ireturn, 1)]
abbrev ax_i182 : ax_I := (10, yX10_pardon, cX10_pardon, 3, (some .int), 2, false)
def ax_c183 : List (Nat × Instr × Nat) := [(0, .aload_n 0, 1), (1, .invokevirtual 154, 3), (4, .aload_n 0, 1), (5, .iload_n 1, 1), (6, .iload_n 2, 1), (7, .iconst 1, 1), (8, .invokevirtual 163, 3), (11, .istore 4, 2), (13, .aload_n 0, 1), (14, .iload_n 3, 1), (15, .iconst 1, 1), (16, .iload_n 2, 1), (17, .isub, 1), (18, .iconst 1, 1), (19, .invokevirtual 163, 3), (22, .istore 5, 2), (24, .aload_n 0, 1), (25, .getfield 109, 3), (28, .aload_n 0, 1), (29, .getfield 7, 3), (32, .iconst 2, 1), (33, .iaload, 1), (34, .if_icmp .ne 7, 3), (37, .iconst 1, 1), (38, .goto 4, 3), (41, .iconst 0, 1), (42, .ireturn, 1)]
abbrev ax_i183 : ax_I := (10, yX10_cancels, cX10_cancels, 6, (some .boolean), 3, false)
def ax_c184 : List (Nat × Instr × Nat) := [(0, .iload_n 1, 1), (1, .iconst (-1), 1), (2, .if_icmp .ge 10, 3), (5, .aload_n 0, 1), (6, .bipush (-10), 2), (8, .invokevirtual 82, 3), (11, .ireturn, 1), (12, .iconst 0, 1), (13, .istore_n 2, 1), (14, .bipush (-5), 2), (16, .istore_n 3, 1), (17, .iconst 0, 1), (18, .istore 4, 2), (20, .iload 4, 2), (22, .aload_n 0, 1), (23, .invokevirtual 70, 3), (26, .if_icmp .ge 118, 3), (29, .iload 4, 2), (31, .iconst 1, 1), (32, .iadd, 1), (33, .istore 5, 2), (35, .iload 5, 2), (37, .aload_n 0, 1), (38, .invokevirtual 70, 3), (41, .if_icmp .ge 97, 3), (44, .aload_n 0, 1), (45, .invokevirtual 154, 3), (48, .aload_n 0, 1), (49, .getfield 116, 3), (52, .bipush 8, 2), (54, .if_icmp .ge 25, 3), (57, .aload_n 0, 1), (58, .iload 4, 2), (60, .invokevirtual 141, 3), (63, .ifCond .ne 16, 3), (66, .aload_n 0, 1), (67, .iload 5, 2), (69, .invokevirtual 141, 3), (72, .ifCond .ne 7, 3), (75, .iconst 1, 1), (76, .goto 4, 3), (79, .iconst 0, 1), (80, .istore 6, 2), (82, .iload 6, 2), (84, .ifCond .eq 48, 3), (87, .aload_n 0, 1), (88, .iload 4, 2), (90, .iconst 0, 1), (91, .iload 5, 2), (93, .invokevirtual 213, 3), (96, .ifCond .eq 36, 3), (99, .aload_n 0, 1), (100, .iload 5, 2), (102, .iconst 1, 1), (103, .iload 4, 2), (105, .invokevirtual 213, 3), (108, .ifCond .eq 24, 3), (111, .iload_n 2, 1), (112, .iload_n 1, 1), (113, .if_icmp .ne 14, 3), (116, .bipush 10, 2), (118, .iload 4, 2), (120, .imul, 1), (121, .iload 5, 2), (123, .iadd, 1), (124, .goto 4, 3), (127, .iload_n 3, 1), (128, .istore_n 3, 1), (129, .iinc 2 1, 3), (132, .iinc 5 1, 3), (135, .goto (-100), 3), (138, .iinc 4 1, 3), (141, .goto (-121), 3), (144, .iload_n 1, 1), (145, .iconst (-1), 1), (146, .if_icmp .ne 7, 3), (149, .iload_n 2, 1), (150, .goto 4, 3), (153, .iload_n 3, 1), (154, .ireturn, 1)]
abbrev ax_i184 : ax_I := (10, yX10_cancel, cX10_cancel, 7, (some .int), 1, false)
def ax_c185 : List (Nat × Instr × Nat) := [(0, .iload_n 1, 1), (1, .invokestatic 151, 3), (4, .ifCond .ne 10, 3), (7, .aload_n 0, 1), (8, .bipush (-2), 2), (10, .invokevirtual 82, 3), (13, .ireturn, 1), (14, .iconst (-1), 1), (15, .istore_n 2, 1), (16, .iconst 0, 1), (17, .istore_n 3, 1), (18, .iload_n 3, 1), (19, .aload_n 0, 1), (20, .invokevirtual 70, 3), (23, .if_icmp .ge 83, 3), (26, .aload_n 0, 1), (27, .invokevirtual 154, 3), (30, .aload_n 0, 1), (31, .iload_n 3, 1), (32, .iload_n 1, 1), (33, .invokevirtual 157, 3), (36, .ifCond .eq 64, 3), (39, .aload_n 0, 1), (40, .iload_n 3, 1), (41, .iload_n 1, 1), (42, .iconst 1, 1), (43, .invokevirtual 163, 3), (46, .istore 4, 2), (48, .iload_n 2, 1), (49, .iconst (-1), 1), (50, .if_icmp .eq 18, 3), (53, .aload_n 0, 1), (54, .iload_n 3, 1), (55, .iconst 3, 1), (56, .invokevirtual 125, 3), (59, .aload_n 0, 1), (60, .iload_n 2, 1), (61, .iconst 3, 1), (62, .invokevirtual 125, 3), (65, .if_icmp .ge 7, 3), (68, .iconst 1, 1), (69, .goto 4, 3), (72, .iconst 0, 1), (73, .istore 5, 2), (75, .iload 5, 2), (77, .ifCond .eq 21, 3), (80, .aload_n 0, 1), (81, .getfield 109, 3), (84, .invokestatic 169, 3), (87, .aload_n 0, 1), (88, .invokevirtual 217, 3), (91, .if_icmp .eq 7, 3), (94, .iload_n 3, 1), (95, .goto 4, 3), (98, .iload_n 2, 1), (99, .istore_n 2, 1), (100, .iinc 3 1, 3), (103, .goto (-85), 3), (106, .iload_n 2, 1), (107, .ireturn, 1)]
abbrev ax_i185 : ax_I := (10, yX10_undoes, cX10_undoes, 6, (some .int), 1, false)
def ax_c186 : List (Nat × Instr × Nat) := [(0, .iload_n 1, 1), (1, .invokestatic 151, 3), (4, .ifCond .eq 15, 3), (7, .iload_n 2, 1), (8, .i2l, 1), (9, .lconst 0, 1), (10, .ldc2_w 92, 3), (13, .invokestatic 74, 3), (16, .ifCond .ne 10, 3), (19, .aload_n 0, 1), (20, .bipush (-2), 2), (22, .invokevirtual 82, 3), (25, .ireturn, 1), (26, .aload_n 0, 1), (27, .getfield 7, 3), (30, .iconst 5, 1), (31, .iaload, 1), (32, .bipush 6, 2), (34, .if_icmp .ne 8, 3), (37, .aload_n 0, 1), (38, .invokevirtual 94, 3), (41, .ireturn, 1), (42, .bipush 115, 2), (44, .bipush 11, 2), (46, .aload_n 0, 1), (47, .getfield 7, 3), (50, .iconst 5, 1), (51, .iaload, 1), (52, .imul, 1), (53, .iadd, 1), (54, .istore_n 3, 1), (55, .aload_n 0, 1), (56, .getfield 7, 3), (59, .iload_n 3, 1), (60, .iload_n 1, 1), (61, .iastore, 1), (62, .aload_n 0, 1), (63, .getfield 7, 3), (66, .iload_n 3, 1), (67, .iconst 1, 1), (68, .iadd, 1), (69, .iload_n 2, 1), (70, .iastore, 1), (71, .aload_n 0, 1), (72, .getfield 7, 3), (75, .iload_n 3, 1), (76, .iconst 2, 1), (77, .iadd, 1), (78, .aload_n 0, 1), (79, .getfield 7, 3), (82, .iconst 4, 1), (83, .iaload, 1), (84, .iastore, 1), (85, .iconst 0, 1), (86, .istore 4, 2), (88, .iload 4, 2), (90, .aload_n 0, 1), (91, .getfield 7, 3), (94, .iconst 4, 1), (95, .iaload, 1), (96, .if_icmp .ge 30, 3), (99, .aload_n 0, 1), (100, .getfield 7, 3), (103, .iload_n 3, 1), (104, .iconst 3, 1), (105, .iadd, 1), (106, .iload 4, 2), (108, .iadd, 1), (109, .aload_n 0, 1), (110, .getfield 7, 3), (113, .bipush 107, 2), (115, .iload 4, 2), (117, .iadd, 1), (118, .iaload, 1), (119, .iastore, 1), (120, .iinc 4 1, 3), (123, .goto (-35), 3), (126, .aload_n 0, 1), (127, .getfield 7, 3), (130, .iconst 5, 1), (131, .dup2, 1), (132, .iaload, 1), (133, .iconst 1, 1), (134, .iadd, 1), (135, .iastore, 1), (136, .aload_n 0, 1), (137, .getfield 7, 3), (140, .iconst 5, 1), (141, .iaload, 1), (142, .ireturn, 1)]
abbrev ax_i186 : ax_I := (10, yX10_reading, cX10_reading, 5, (some .int), 2, false)
def ax_c187 : List (Nat × Instr × Nat) := [(0, .aload_n 0, 1), (1, .getfield 7, 3), (4, .iconst 5, 1), (5, .iaload, 1), (6, .istore_n 1, 1), (7, .aload_n 0, 1), (8, .getfield 7, 3), (11, .iconst 5, 1), (12, .iconst 0, 1), (13, .iastore, 1), (14, .iload_n 1, 1), (15, .ireturn, 1)]
abbrev ax_i187 : ax_I := (10, yX10_forget, cX10_forget, 2, (some .int), 0, false)
def ax_c188 : List (Nat × Instr × Nat) := [(0, .aload_n 0, 1), (1, .invokevirtual 122, 3), (4, .aload_n 0, 1), (5, .iload_n 1, 1), (6, .iload_n 2, 1), (7, .iload_n 3, 1), (8, .iconst 0, 1), (9, .invokevirtual 172, 3), (12, .aload_n 0, 1), (13, .getfield 109, 3), (16, .ireturn, 1)]
abbrev ax_i188 : ax_I := (10, yX10_turnsBy, cX10_turnsBy, 4, (some .int), 3, false)
def ax_c189 : List (Nat × Instr × Nat) := [(0, .iconst 0, 1), (1, .istore_n 1, 1), (2, .iload_n 1, 1), (3, .aload_n 0, 1), (4, .getfield 7, 3), (7, .iconst 5, 1), (8, .iaload, 1), (9, .if_icmp .ge 44, 3), (12, .bipush 115, 2), (14, .bipush 11, 2), (16, .iload_n 1, 1), (17, .imul, 1), (18, .iadd, 1), (19, .istore_n 2, 1), (20, .aload_n 0, 1), (21, .getfield 51, 3), (24, .iload_n 1, 1), (25, .aload_n 0, 1), (26, .iload_n 2, 1), (27, .iconst 3, 1), (28, .iadd, 1), (29, .aload_n 0, 1), (30, .getfield 7, 3), (33, .iload_n 2, 1), (34, .iconst 2, 1), (35, .iadd, 1), (36, .iaload, 1), (37, .aload_n 0, 1), (38, .getfield 7, 3), (41, .iload_n 2, 1), (42, .iaload, 1), (43, .invokevirtual 220, 3), (46, .iastore, 1), (47, .iinc 1 1, 3), (50, .goto (-48), 3), (53, .return_, 1)]
abbrev ax_i189 : ax_I := (10, yX10_layTurns, cX10_layTurns, 3, none, 0, false)
def ax_c190 : List (Nat × Instr × Nat) := [(0, .iconst 1, 1), (1, .istore_n 2, 1), (2, .iconst 0, 1), (3, .istore_n 3, 1), (4, .iload_n 3, 1), (5, .aload_n 0, 1), (6, .getfield 7, 3), (9, .iconst 5, 1), (10, .iaload, 1), (11, .if_icmp .ge 47, 3), (14, .iload_n 2, 1), (15, .ifCond .eq 35, 3), (18, .iload_n 1, 1), (19, .aload_n 0, 1), (20, .getfield 51, 3), (23, .iload_n 3, 1), (24, .iaload, 1), (25, .iadd, 1), (26, .invokestatic 169, 3), (29, .aload_n 0, 1), (30, .getfield 7, 3), (33, .bipush 115, 2), (35, .bipush 11, 2), (37, .iload_n 3, 1), (38, .imul, 1), (39, .iadd, 1), (40, .iconst 1, 1), (41, .iadd, 1), (42, .iaload, 1), (43, .if_icmp .ne 7, 3), (46, .iconst 1, 1), (47, .goto 4, 3), (50, .iconst 0, 1), (51, .istore_n 2, 1), (52, .iinc 3 1, 3), (55, .goto (-51), 3), (58, .iload_n 2, 1), (59, .ireturn, 1)]
abbrev ax_i190 : ax_I := (10, yX10_canBe, cX10_canBe, 4, (some .boolean), 1, false)
def ax_c191 : List (Nat × Instr × Nat) := [(0, .iload_n 1, 1), (1, .i2l, 1), (2, .lconst 0, 1), (3, .lconst 1, 1), (4, .invokestatic 74, 3), (7, .ifCond .ne 11, 3), (10, .aload_n 0, 1), (11, .sipush (-1000), 3), (14, .invokevirtual 82, 3), (17, .ireturn, 1), (18, .iconst 0, 1), (19, .istore_n 2, 1), (20, .bipush (-100), 2), (22, .istore_n 3, 1), (23, .aload_n 0, 1), (24, .invokevirtual 223, 3), (27, .bipush (-30), 2), (29, .istore 4, 2), (31, .iload 4, 2), (33, .bipush 30, 2), (35, .if_icmp .gt 32, 3), (38, .aload_n 0, 1), (39, .iload 4, 2), (41, .invokevirtual 226, 3), (44, .ifCond .eq 17, 3), (47, .iload_n 2, 1), (48, .ifCond .ne 8, 3), (51, .iload 4, 2), (53, .goto 4, 3), (56, .iload_n 3, 1), (57, .istore_n 3, 1), (58, .iinc 2 1, 3), (61, .iinc 4 1, 3), (64, .goto (-33), 3), (67, .iload_n 1, 1), (68, .ifCond .ne 7, 3), (71, .iload_n 2, 1), (72, .goto 4, 3), (75, .iload_n 3, 1), (76, .ireturn, 1)]
abbrev ax_i191 : ax_I := (10, yX10_before, cX10_before, 5, (some .int), 1, false)
def ax_c192 : List (Nat × Instr × Nat) := [(0, .iload_n 1, 1), (1, .invokestatic 151, 3), (4, .ifCond .ne 10, 3), (7, .aload_n 0, 1), (8, .bipush (-2), 2), (10, .invokevirtual 82, 3), (13, .ireturn, 1), (14, .aload_n 0, 1), (15, .bipush 107, 2), (17, .aload_n 0, 1), (18, .getfield 7, 3), (21, .iconst 4, 1), (22, .iaload, 1), (23, .iload_n 1, 1), (24, .invokevirtual 220, 3), (27, .istore_n 2, 1), (28, .aload_n 0, 1), (29, .invokevirtual 223, 3), (32, .iconst 0, 1), (33, .istore_n 3, 1), (34, .iload_n 3, 1), (35, .iconst 3, 1), (36, .if_icmp .ge 16, 3), (39, .aload_n 0, 1), (40, .getfield 54, 3), (43, .iload_n 3, 1), (44, .iconst 0, 1), (45, .iastore, 1), (46, .iinc 3 1, 3), (49, .goto (-15), 3), (52, .bipush (-30), 2), (54, .istore_n 3, 1), (55, .iload_n 3, 1), (56, .bipush 30, 2), (58, .if_icmp .gt 36, 3), (61, .aload_n 0, 1), (62, .iload_n 3, 1), (63, .invokevirtual 226, 3), (66, .ifCond .eq 22, 3), (69, .iload_n 3, 1), (70, .iload_n 2, 1), (71, .iadd, 1), (72, .invokestatic 169, 3), (75, .istore 4, 2), (77, .aload_n 0, 1), (78, .getfield 54, 3), (81, .iload 4, 2), (83, .dup2, 1), (84, .iaload, 1), (85, .iconst 1, 1), (86, .iadd, 1), (87, .iastore, 1), (88, .iinc 3 1, 3), (91, .goto (-36), 3), (94, .aload_n 0, 1), (95, .getfield 54, 3), (98, .iconst 0, 1), (99, .iaload, 1), (100, .aload_n 0, 1), (101, .getfield 54, 3), (104, .iconst 1, 1), (105, .iaload, 1), (106, .if_icmp .le 12, 3), (109, .aload_n 0, 1), (110, .getfield 54, 3), (113, .iconst 0, 1), (114, .iaload, 1), (115, .goto 9, 3), (118, .aload_n 0, 1), (119, .getfield 54, 3), (122, .iconst 1, 1), (123, .iaload, 1), (124, .istore_n 3, 1), (125, .iload_n 3, 1), (126, .aload_n 0, 1), (127, .getfield 54, 3), (130, .iconst 2, 1), (131, .iaload, 1), (132, .if_icmp .le 7, 3), (135, .iload_n 3, 1), (136, .goto 9, 3), (139, .aload_n 0, 1), (140, .getfield 54, 3), (143, .iconst 2, 1), (144, .iaload, 1), (145, .ireturn, 1)]
abbrev ax_i192 : ax_I := (10, yX10_tells, cX10_tells, 5, (some .int), 1, false)
def ax_c193 : List (Nat × Instr × Nat) := [(0, .iload_n 1, 1), (1, .invokestatic 151, 3), (4, .ifCond .ne 10, 3), (7, .aload_n 0, 1), (8, .bipush (-2), 2), (10, .invokevirtual 82, 3), (13, .ireturn, 1), (14, .aload_n 0, 1), (15, .iload_n 1, 1), (16, .iconst 0, 1), (17, .invokevirtual 176, 3), (20, .aload_n 0, 1), (21, .getfield 109, 3), (24, .invokestatic 169, 3), (27, .istore_n 2, 1), (28, .iconst 1, 1), (29, .istore_n 3, 1), (30, .iconst 0, 1), (31, .istore 4, 2), (33, .iload 4, 2), (35, .aload_n 0, 1), (36, .getfield 7, 3), (39, .iconst 4, 1), (40, .iaload, 1), (41, .if_icmp .ge 39, 3), (44, .aload_n 0, 1), (45, .iload_n 1, 1), (46, .iconst 1, 1), (47, .iload 4, 2), (49, .ishl, 1), (50, .invokevirtual 176, 3), (53, .iload_n 3, 1), (54, .ifCond .eq 18, 3), (57, .aload_n 0, 1), (58, .getfield 109, 3), (61, .invokestatic 169, 3), (64, .iload_n 2, 1), (65, .if_icmp .ne 7, 3), (68, .iconst 1, 1), (69, .goto 4, 3), (72, .iconst 0, 1), (73, .istore_n 3, 1), (74, .iinc 4 1, 3), (77, .goto (-44), 3), (80, .iload_n 3, 1), (81, .ifCond .eq 7, 3), (84, .iconst 1, 1), (85, .goto 4, 3), (88, .iconst 0, 1), (89, .ireturn, 1)]
abbrev ax_i193 : ax_I := (10, yX10_sure, cX10_sure, 5, (some .int), 1, false)
def ax_c194 : List (Nat × Instr × Nat) := [(0, .lload_n 1, 1), (1, .lstore 5, 2), (3, .lload_n 3, 1), (4, .lstore 7, 2), (6, .lload 7, 2), (8, .lconst 0, 1), (9, .lcmp, 1), (10, .ifCond .eq 21, 3), (13, .lload 5, 2), (15, .lload 7, 2), (17, .lrem, 1), (18, .lstore 9, 2), (20, .lload 7, 2), (22, .lstore 5, 2), (24, .lload 9, 2), (26, .lstore 7, 2), (28, .goto (-22), 3), (31, .aload_n 0, 1), (32, .lload_n 1, 1), (33, .lload 5, 2), (35, .ldiv, 1), (36, .putfield 229, 3), (39, .aload_n 0, 1), (40, .lload_n 3, 1), (41, .lload 5, 2), (43, .ldiv, 1), (44, .putfield 23, 3), (47, .return_, 1)]
abbrev ax_i194 : ax_I := (10, yX10_fraction, cX10_fraction, 11, none, 2, false)
def ax_c195 : List (Nat × Instr × Nat) := [(0, .iload_n 1, 1), (1, .invokestatic 151, 3), (4, .ifCond .eq 27, 3), (7, .iload_n 2, 1), (8, .i2l, 1), (9, .lconst 0, 1), (10, .ldc2_w 232, 3), (13, .invokestatic 74, 3), (16, .ifCond .eq 15, 3), (19, .iload_n 3, 1), (20, .i2l, 1), (21, .lconst 0, 1), (22, .ldc2_w 92, 3), (25, .invokestatic 74, 3), (28, .ifCond .ne 10, 3), (31, .aload_n 0, 1), (32, .bipush (-2), 2), (34, .invokevirtual 82, 3), (37, .ireturn, 1), (38, .lconst 0, 1), (39, .lstore 4, 2), (41, .lconst 1, 1), (42, .lstore 6, 2), (44, .iconst 0, 1), (45, .istore 8, 2), (47, .iload 8, 2), (49, .aload_n 0, 1), (50, .getfield 7, 3), (53, .iconst 4, 1), (54, .iaload, 1), (55, .if_icmp .ge 17, 3), (58, .lload 6, 2), (60, .ldc2_w 232, 3), (63, .lmul, 1), (64, .lstore 6, 2), (66, .iinc 8 1, 3), (69, .goto (-22), 3), (72, .iconst 0, 1), (73, .istore 8, 2), (75, .iload 8, 2), (77, .iconst 1, 1), (78, .aload_n 0, 1), (79, .getfield 7, 3), (82, .iconst 4, 1), (83, .iaload, 1), (84, .ishl, 1), (85, .if_icmp .ge 87, 3), (88, .lconst 1, 1), (89, .lstore 9, 2), (91, .iconst 0, 1), (92, .istore 11, 2), (94, .iload 11, 2), (96, .aload_n 0, 1), (97, .getfield 7, 3), (100, .iconst 4, 1), (101, .iaload, 1), (102, .if_icmp .ge 35, 3), (105, .lload 9, 2), (107, .iload 8, 2), (109, .iload 11, 2), (111, .ishr, 1), (112, .iconst 1, 1), (113, .iand, 1), (114, .iconst 1, 1), (115, .if_icmp .ne 8, 3), (118, .iload_n 2, 1), (119, .i2l, 1), (120, .goto 8, 3), (123, .bipush 10, 2), (125, .iload_n 2, 1), (126, .isub, 1), (127, .i2l, 1), (128, .lmul, 1), (129, .lstore 9, 2), (131, .iinc 11 1, 3), (134, .goto (-40), 3), (137, .aload_n 0, 1), (138, .iload_n 1, 1), (139, .iload 8, 2), (141, .invokevirtual 176, 3), (144, .lload 4, 2), (146, .aload_n 0, 1), (147, .getfield 109, 3), (150, .invokestatic 169, 3), (153, .iload_n 3, 1), (154, .if_icmp .ne 8, 3), (157, .lload 9, 2), (159, .goto 4, 3), (162, .lconst 0, 1), (163, .ladd, 1), (164, .lstore 4, 2), (166, .iinc 8 1, 3), (169, .goto (-94), 3), (172, .aload_n 0, 1), (173, .lload 4, 2), (175, .lload 6, 2), (177, .invokevirtual 234, 3), (180, .iconst 1, 1), (181, .ireturn, 1)]
abbrev ax_i195 : ax_I := (10, yX10_burnt, cX10_burnt, 12, (some .int), 3, false)
def ax_c196 : List (Nat × Instr × Nat) := [(0, .iload_n 1, 1), (1, .i2l, 1), (2, .lconst 0, 1), (3, .ldc2_w 238, 3), (6, .invokestatic 74, 3), (9, .ifCond .eq 15, 3), (12, .iload_n 2, 1), (13, .i2l, 1), (14, .lconst 0, 1), (15, .ldc2_w 240, 3), (18, .invokestatic 74, 3), (21, .ifCond .ne 10, 3), (24, .aload_n 0, 1), (25, .bipush (-2), 2), (27, .invokevirtual 82, 3), (30, .ireturn, 1), (31, .iload_n 1, 1), (32, .i2l, 1), (33, .lstore_n 3, 1), (34, .iconst 0, 1), (35, .istore 5, 2), (37, .iconst 0, 1), (38, .istore 6, 2), (40, .iload 6, 2), (42, .iload_n 2, 1), (43, .if_icmp .ge 131, 3), (46, .aload_n 0, 1), (47, .invokevirtual 154, 3), (50, .iconst 0, 1), (51, .istore 7, 2), (53, .iconst 1, 1), (54, .istore 8, 2), (56, .iload 8, 2), (58, .ifCond .eq 90, 3), (61, .aload_n 0, 1), (62, .getfield 116, 3), (65, .bipush 9, 2), (67, .if_icmp .ge 81, 3), (70, .lload_n 3, 1), (71, .ldc2_w 242, 3), (74, .lmul, 1), (75, .ldc2_w 244, 3), (78, .ladd, 1), (79, .ldc2_w 246, 3), (82, .lrem, 1), (83, .lstore_n 3, 1), (84, .lload_n 3, 1), (85, .ldc2_w 248, 3), (88, .ldiv, 1), (89, .ldc2_w 80, 3), (92, .lrem, 1), (93, .l2i, 1), (94, .istore 9, 2), (96, .iload 9, 2), (98, .aload_n 0, 1), (99, .invokevirtual 70, 3), (102, .if_icmp .ge 18, 3), (105, .aload_n 0, 1), (106, .iload 9, 2), (108, .iload 7, 2), (110, .invokevirtual 157, 3), (113, .ifCond .eq 7, 3), (116, .iconst 1, 1), (117, .goto 4, 3), (120, .iconst 0, 1), (121, .istore 8, 2), (123, .iload 8, 2), (125, .ifCond .eq 20, 3), (128, .aload_n 0, 1), (129, .iload 9, 2), (131, .iload 7, 2), (133, .iconst 1, 1), (134, .invokevirtual 163, 3), (137, .istore 10, 2), (139, .iconst 1, 1), (140, .iload 7, 2), (142, .isub, 1), (143, .istore 7, 2), (145, .goto (-89), 3), (148, .iload 5, 2), (150, .aload_n 0, 1), (151, .getfield 109, 3), (154, .invokestatic 169, 3), (157, .ifCond .ne 7, 3), (160, .iconst 1, 1), (161, .goto 4, 3), (164, .iconst 0, 1), (165, .iadd, 1), (166, .istore 5, 2), (168, .iinc 6 1, 3), (171, .goto (-131), 3), (174, .iload 5, 2), (176, .ireturn, 1)]
abbrev ax_i196 : ax_I := (10, yX10_dinners, cX10_dinners, 11, (some .int), 2, false)
def ax_c197 : List (Nat × Instr × Nat) := [(0, .iload_n 1, 1), (1, .i2l, 1), (2, .lconst 0, 1), (3, .ldc2_w 250, 3), (6, .invokestatic 74, 3), (9, .ifCond .ne 10, 3), (12, .aload_n 0, 1), (13, .bipush (-2), 2), (15, .invokevirtual 82, 3), (18, .ireturn, 1), (19, .aload_n 0, 1), (20, .getfield 252, 3), (23, .sipush 150, 3), (26, .if_icmp .ne 8, 3), (29, .aload_n 0, 1), (30, .invokevirtual 94, 3), (33, .ireturn, 1), (34, .aload_n 0, 1), (35, .getfield 57, 3), (38, .aload_n 0, 1), (39, .getfield 252, 3), (42, .iload_n 1, 1), (43, .iastore, 1), (44, .aload_n 0, 1), (45, .dup, 1), (46, .getfield 252, 3), (49, .iconst 1, 1), (50, .iadd, 1), (51, .putfield 252, 3), (54, .aload_n 0, 1), (55, .getfield 252, 3), (58, .ireturn, 1)]
abbrev ax_i197 : ax_I := (10, yX10_type, cX10_type, 2, (some .int), 1, false)
def ax_c198 : List (Nat × Instr × Nat) := [(0, .aload_n 0, 1), (1, .getfield 252, 3), (4, .istore_n 1, 1), (5, .aload_n 0, 1), (6, .iconst 0, 1), (7, .putfield 252, 3), (10, .iload_n 1, 1), (11, .ireturn, 1)]
abbrev ax_i198 : ax_I := (10, yX10_clear, cX10_clear, 2, (some .int), 0, false)
def ax_c199 : List (Nat × Instr × Nat) := [(0, .iload_n 0, 1), (1, .i2l, 1), (2, .ldc2_w 255, 3), (5, .ldc2_w 257, 3), (8, .invokestatic 74, 3), (11, .ireturn, 1)]
abbrev ax_i199 : ax_I := (10, yX10_isSmall, cX10_isSmall, 1, (some .boolean), 1, true)
def ax_c200 : List (Nat × Instr × Nat) := [(0, .iload_n 0, 1), (1, .i2l, 1), (2, .ldc2_w 259, 3), (5, .ldc2_w 261, 3), (8, .invokestatic 74, 3), (11, .ireturn, 1)]
abbrev ax_i200 : ax_I := (10, yX10_isFigure, cX10_isFigure, 1, (some .boolean), 1, true)
def ax_c201 : List (Nat × Instr × Nat) := [(0, .aload_n 0, 1), (1, .iload_n 1, 1), (2, .putfield 263, 3), (5, .aload_n 0, 1), (6, .getfield 263, 3), (9, .aload_n 0, 1), (10, .getfield 252, 3), (13, .if_icmp .ge 30, 3), (16, .aload_n 0, 1), (17, .getfield 57, 3), (20, .aload_n 0, 1), (21, .getfield 263, 3), (24, .iaload, 1), (25, .bipush 32, 2), (27, .if_icmp .ne 16, 3), (30, .aload_n 0, 1), (31, .dup, 1), (32, .getfield 263, 3), (35, .iconst 1, 1), (36, .iadd, 1), (37, .putfield 263, 3), (40, .goto (-35), 3), (43, .aload_n 0, 1), (44, .iconst 0, 1), (45, .putfield 266, 3), (48, .aload_n 0, 1), (49, .iconst 0, 1), (50, .putfield 269, 3), (53, .aload_n 0, 1), (54, .iconst 0, 1), (55, .putfield 272, 3), (58, .aload_n 0, 1), (59, .getfield 263, 3), (62, .aload_n 0, 1), (63, .getfield 252, 3), (66, .if_icmp .ne 4, 3), (69, .return_, 1), (70, .aload_n 0, 1), (71, .getfield 57, 3), (74, .aload_n 0, 1), (75, .getfield 263, 3), (78, .iaload, 1), (79, .istore_n 2, 1), (80, .aload_n 0, 1), (81, .iload_n 2, 1), (82, .invokestatic 275, 3), (85, .ifCond .eq 7, 3), (88, .iconst 1, 1), (89, .goto 25, 3), (92, .iload_n 2, 1), (93, .invokestatic 278, 3), (96, .ifCond .eq 7, 3), (99, .iconst 2, 1), (100, .goto 14, 3), (103, .iload_n 2, 1), (104, .bipush 59, 2), (106, .if_icmp .ne 7, 3), (109, .iconst 3, 1), (110, .goto 4, 3), (113, .iconst 4, 1), (114, .putfield 269, 3), (117, .aload_n 0, 1), (118, .iconst 1, 1), (119, .putfield 266, 3), (122, .aload_n 0, 1), (123, .getfield 269, 3), (126, .iconst 3, 1), (127, .if_icmp .ge 7, 3), (130, .iconst 1, 1), (131, .goto 4, 3), (134, .iconst 0, 1), (135, .istore_n 3, 1), (136, .iload_n 3, 1), (137, .ifCond .eq 78, 3), (140, .aload_n 0, 1), (141, .getfield 263, 3), (144, .aload_n 0, 1), (145, .getfield 266, 3), (148, .iadd, 1), (149, .aload_n 0, 1), (150, .getfield 252, 3), (153, .if_icmp .ge 62, 3), (156, .aload_n 0, 1), (157, .getfield 57, 3), (160, .aload_n 0, 1), (161, .getfield 263, 3), (164, .aload_n 0, 1), (165, .getfield 266, 3), (168, .iadd, 1), (169, .iaload, 1), (170, .istore 4, 2), (172, .aload_n 0, 1), (173, .getfield 269, 3), (176, .iconst 1, 1), (177, .if_icmp .ne 11, 3), (180, .iload 4, 2), (182, .invokestatic 275, 3), (185, .goto 8, 3), (188, .iload 4, 2), (190, .invokestatic 278, 3), (193, .istore_n 3, 1), (194, .aload_n 0, 1), (195, .dup, 1), (196, .getfield 266, 3), (199, .iload_n 3, 1), (200, .ifCond .eq 7, 3), (203, .iconst 1, 1), (204, .goto 4, 3), (207, .iconst 0, 1), (208, .iadd, 1), (209, .putfield 266, 3), (212, .goto (-76), 3), (215, .iconst 0, 1), (216, .istore 4, 2), (218, .iload 4, 2), (220, .aload_n 0, 1), (221, .getfield 266, 3), (224, .if_icmp .ge 50, 3), (227, .iload 4, 2), (229, .iconst 2, 1), (230, .if_icmp .ge 44, 3), (233, .aload_n 0, 1), (234, .getfield 269, 3), (237, .iconst 2, 1), (238, .if_icmp .ne 36, 3), (241, .aload_n 0, 1), (242, .bipush 10, 2), (244, .aload_n 0, 1), (245, .getfield 272, 3), (248, .imul, 1), (249, .aload_n 0, 1), (250, .getfield 57, 3), (253, .aload_n 0, 1), (254, .getfield 263, 3), (257, .iload 4, 2), (259, .iadd, 1), (260, .iaload, 1), (261, .iadd, 1), (262, .bipush 48, 2), (264, .isub, 1), (265, .putfield 272, 3), (268, .iinc 4 1, 3), (271, .goto (-53), 3), (274, .aload_n 0, 1), (275, .aload_n 0, 1), (276, .getfield 269, 3), (279, .iconst 2, 1), (280, .if_icmp .ne 15, 3), (283, .aload_n 0, 1), (284, .getfield 266, 3), (287, .iconst 2, 1), (288, .if_icmp .le 7, 3), (291, .iconst 4, 1), (292, .goto 7, 3), (295, .aload_n 0, 1), (296, .getfield 269, 3), (299, .putfield 269, 3), (302, .return_, 1)]
abbrev ax_i201 : ax_I := (10, yX10_lookAt, cX10_lookAt, 5, none, 1, false)
def ax_c202 : List (Nat × Instr × Nat) := [(0, .aload_n 0, 1), (1, .aload_n 0, 1), (2, .getfield 263, 3), (5, .aload_n 0, 1), (6, .getfield 266, 3), (9, .iadd, 1), (10, .invokevirtual 281, 3), (13, .return_, 1)]
abbrev ax_i202 : ax_I := (10, yX10_goBehind, cX10_goBehind, 1, none, 0, false)
def ax_c203 : List (Nat × Instr × Nat) := [(0, .aload_n 0, 1), (1, .getfield 269, 3), (4, .iconst 1, 1), (5, .if_icmp .ne 15, 3), (8, .aload_n 0, 1), (9, .getfield 266, 3), (12, .iload_n 1, 1), (13, .if_icmp .ne 7, 3), (16, .iconst 1, 1), (17, .goto 4, 3), (20, .iconst 0, 1), (21, .istore 7, 2), (23, .iconst 0, 1), (24, .istore 8, 2), (26, .iload 8, 2), (28, .iload_n 1, 1), (29, .if_icmp .ge 79, 3), (32, .iload 7, 2), (34, .ifCond .eq 74, 3), (37, .aload_n 0, 1), (38, .getfield 57, 3), (41, .aload_n 0, 1), (42, .getfield 263, 3), (45, .iload 8, 2), (47, .iadd, 1), (48, .iaload, 1), (49, .iload 8, 2), (51, .ifCond .ne 7, 3), (54, .iload_n 2, 1), (55, .goto 37, 3), (58, .iload 8, 2), (60, .iconst 1, 1), (61, .if_icmp .ne 7, 3), (64, .iload_n 3, 1), (65, .goto 27, 3), (68, .iload 8, 2), (70, .iconst 2, 1), (71, .if_icmp .ne 8, 3), (74, .iload 4, 2), (76, .goto 16, 3), (79, .iload 8, 2), (81, .iconst 3, 1), (82, .if_icmp .ne 8, 3), (85, .iload 5, 2), (87, .goto 5, 3), (90, .iload 6, 2), (92, .if_icmp .ne 7, 3), (95, .iconst 1, 1), (96, .goto 4, 3), (99, .iconst 0, 1), (100, .istore 7, 2), (102, .iinc 8 1, 3), (105, .goto (-79), 3), (108, .iload 7, 2), (110, .ireturn, 1)]
abbrev ax_i203 : ax_I := (10, yX10_isWord, cX10_isWord, 9, (some .boolean), 6, false)
def ax_c204 : List (Nat × Instr × Nat) := [(0, .aload_n 0, 1), (1, .getfield 269, 3), (4, .iconst 2, 1), (5, .if_icmp .ne 18, 3), (8, .aload_n 0, 1), (9, .getfield 272, 3), (12, .i2l, 1), (13, .iload_n 2, 1), (14, .i2l, 1), (15, .iload_n 3, 1), (16, .i2l, 1), (17, .invokestatic 74, 3), (20, .ifCond .ne 5, 3), (23, .iconst 0, 1), (24, .ireturn, 1), (25, .aload_n 0, 1), (26, .getfield 63, 3), (29, .iload_n 1, 1), (30, .aload_n 0, 1), (31, .getfield 272, 3), (34, .iastore, 1), (35, .aload_n 0, 1), (36, .invokevirtual 284, 3), (39, .iconst 1, 1), (40, .ireturn, 1)]
abbrev ax_i204 : ax_I := (10, yX10_takes, cX10_takes, 4, (some .boolean), 3, false)
def ax_c205 : List (Nat × Instr × Nat) := [(0, .aload_n 0, 1), (1, .iconst 5, 1), (2, .bipush 99, 2), (4, .bipush 111, 2), (6, .bipush 117, 2), (8, .bipush 114, 2), (10, .bipush 116, 2), (12, .invokevirtual 287, 3), (15, .ifCond .ne 5, 3), (18, .iconst 0, 1), (19, .ireturn, 1), (20, .aload_n 0, 1), (21, .invokevirtual 284, 3), (24, .aload_n 0, 1), (25, .iconst 0, 1), (26, .iconst 0, 1), (27, .bipush 9, 2), (29, .invokevirtual 291, 3), (32, .ifCond .ne 5, 3), (35, .iconst 0, 1), (36, .ireturn, 1), (37, .aload_n 0, 1), (38, .getfield 60, 3), (41, .aload_n 0, 1), (42, .getfield 63, 3), (45, .iconst 0, 1), (46, .iaload, 1), (47, .invokestatic 66, 3), (50, .aload_n 0, 1), (51, .getfield 269, 3), (54, .iconst 3, 1), (55, .if_icmp .ne 7, 3), (58, .iconst 1, 1), (59, .goto 4, 3), (62, .iconst 0, 1), (63, .ireturn, 1)]
abbrev ax_i205 : ax_I := (10, yX10_takesFirst, cX10_takesFirst, 1, (some .boolean), 0, false)
def ax_c206 : List (Nat × Instr × Nat) := [(0, .aload_n 0, 1), (1, .getfield 60, 3), (4, .iconst 0, 1), (5, .iaload, 1), (6, .bipush 8, 2), (8, .if_icmp .ne 5, 3), (11, .iconst 0, 1), (12, .ireturn, 1), (13, .aload_n 0, 1), (14, .invokevirtual 284, 3), (17, .aload_n 0, 1), (18, .iconst 0, 1), (19, .iconst 0, 1), (20, .iconst 5, 1), (21, .invokevirtual 291, 3), (24, .ifCond .eq 45, 3), (27, .aload_n 0, 1), (28, .iconst 1, 1), (29, .iconst 0, 1), (30, .iconst 4, 1), (31, .invokevirtual 291, 3), (34, .ifCond .eq 35, 3), (37, .aload_n 0, 1), (38, .iconst 2, 1), (39, .iconst 1, 1), (40, .bipush 9, 2), (42, .invokevirtual 291, 3), (45, .ifCond .eq 24, 3), (48, .aload_n 0, 1), (49, .iconst 3, 1), (50, .iconst 0, 1), (51, .bipush 9, 2), (53, .invokevirtual 291, 3), (56, .ifCond .eq 13, 3), (59, .aload_n 0, 1), (60, .iconst 4, 1), (61, .iconst 0, 1), (62, .iconst 2, 1), (63, .invokevirtual 291, 3), (66, .ifCond .ne 5, 3), (69, .iconst 0, 1), (70, .ireturn, 1), (71, .aload_n 0, 1), (72, .getfield 60, 3), (75, .aload_n 0, 1), (76, .getfield 63, 3), (79, .iconst 0, 1), (80, .iaload, 1), (81, .aload_n 0, 1), (82, .getfield 63, 3), (85, .iconst 1, 1), (86, .iaload, 1), (87, .aload_n 0, 1), (88, .getfield 63, 3), (91, .iconst 2, 1), (92, .iaload, 1), (93, .aload_n 0, 1), (94, .getfield 63, 3), (97, .iconst 3, 1), (98, .iaload, 1), (99, .aload_n 0, 1), (100, .getfield 63, 3), (103, .iconst 4, 1), (104, .iaload, 1), (105, .invokestatic 97, 3), (108, .iconst 1, 1), (109, .ireturn, 1)]
abbrev ax_i206 : ax_I := (10, yX10_takesDish, cX10_takesDish, 1, (some .boolean), 0, false)
def ax_c207 : List (Nat × Instr × Nat) := [(0, .aload_n 0, 1), (1, .invokevirtual 284, 3), (4, .aload_n 0, 1), (5, .iconst 0, 1), (6, .iconst 0, 1), (7, .iconst 4, 1), (8, .invokevirtual 291, 3), (11, .ifCond .eq 23, 3), (14, .aload_n 0, 1), (15, .iconst 1, 1), (16, .iconst 0, 1), (17, .iconst 4, 1), (18, .invokevirtual 291, 3), (21, .ifCond .eq 13, 3), (24, .aload_n 0, 1), (25, .iconst 2, 1), (26, .iconst 0, 1), (27, .iconst 3, 1), (28, .invokevirtual 291, 3), (31, .ifCond .ne 5, 3), (34, .iconst 0, 1), (35, .ireturn, 1), (36, .aload_n 0, 1), (37, .getfield 60, 3), (40, .bipush 46, 2), (42, .iconst 5, 1), (43, .aload_n 0, 1), (44, .getfield 63, 3), (47, .iconst 0, 1), (48, .iaload, 1), (49, .imul, 1), (50, .iadd, 1), (51, .aload_n 0, 1), (52, .getfield 63, 3), (55, .iconst 1, 1), (56, .iaload, 1), (57, .iadd, 1), (58, .iload_n 1, 1), (59, .aload_n 0, 1), (60, .getfield 63, 3), (63, .iconst 2, 1), (64, .iaload, 1), (65, .imul, 1), (66, .iastore, 1), (67, .iconst 1, 1), (68, .ireturn, 1)]
abbrev ax_i207 : ax_I := (10, yX10_takesBook, cX10_takesBook, 2, (some .boolean), 1, false)
def ax_c208 : List (Nat × Instr × Nat) := [(0, .aload_n 0, 1), (1, .iconst 4, 1), (2, .bipush 100, 2), (4, .bipush 105, 2), (6, .bipush 115, 2), (8, .bipush 104, 2), (10, .iconst 0, 1), (11, .invokevirtual 287, 3), (14, .ifCond .eq 8, 3), (17, .aload_n 0, 1), (18, .invokevirtual 294, 3), (21, .ireturn, 1), (22, .aload_n 0, 1), (23, .iconst 4, 1), (24, .bipush 109, 2), (26, .bipush 111, 2), (28, .bipush 114, 2), (30, .bipush 101, 2), (32, .iconst 0, 1), (33, .invokevirtual 287, 3), (36, .ifCond .eq 9, 3), (39, .aload_n 0, 1), (40, .iconst 1, 1), (41, .invokevirtual 298, 3), (44, .ireturn, 1), (45, .aload_n 0, 1), (46, .iconst 4, 1), (47, .bipush 108, 2), (49, .bipush 101, 2), (51, .bipush 115, 2), (53, .bipush 115, 2), (55, .iconst 0, 1), (56, .invokevirtual 287, 3), (59, .ifCond .eq 15, 3), (62, .aload_n 0, 1), (63, .iconst (-1), 1), (64, .invokevirtual 298, 3), (67, .ifCond .eq 7, 3), (70, .iconst 1, 1), (71, .goto 4, 3), (74, .iconst 0, 1), (75, .ireturn, 1)]
abbrev ax_i208 : ax_I := (10, yX10_takesItem, cX10_takesItem, 1, (some .boolean), 0, false)
def ax_c209 : List (Nat × Instr × Nat) := [(0, .aload_n 0, 1), (1, .iconst 0, 1), (2, .invokevirtual 281, 3), (5, .aload_n 0, 1), (6, .invokevirtual 301, 3), (9, .ifCond .ne 11, 3), (12, .bipush (-10), 2), (14, .aload_n 0, 1), (15, .getfield 263, 3), (18, .isub, 1), (19, .ireturn, 1), (20, .aload_n 0, 1), (21, .invokevirtual 284, 3), (24, .iconst 1, 1), (25, .istore_n 1, 1), (26, .aload_n 0, 1), (27, .getfield 269, 3), (30, .ifCond .eq 36, 3), (33, .aload_n 0, 1), (34, .invokevirtual 304, 3), (37, .ifCond .eq 11, 3), (40, .aload_n 0, 1), (41, .getfield 269, 3), (44, .iconst 3, 1), (45, .if_icmp .eq 11, 3), (48, .bipush (-10), 2), (50, .aload_n 0, 1), (51, .getfield 263, 3), (54, .isub, 1), (55, .ireturn, 1), (56, .aload_n 0, 1), (57, .invokevirtual 284, 3), (60, .iinc 1 1, 3), (63, .goto (-37), 3), (66, .iconst 0, 1), (67, .istore_n 2, 1), (68, .iload_n 2, 1), (69, .sipush 181, 3), (72, .if_icmp .ge 21, 3), (75, .aload_n 0, 1), (76, .getfield 7, 3), (79, .iload_n 2, 1), (80, .aload_n 0, 1), (81, .getfield 60, 3), (84, .iload_n 2, 1), (85, .iaload, 1), (86, .iastore, 1), (87, .iinc 2 1, 3), (90, .goto (-22), 3), (93, .iload_n 1, 1), (94, .ireturn, 1)]
abbrev ax_i209 : ax_I := (10, yX10_read, cX10_read, 3, (some .int), 0, false)
def ax_c210 : List (Nat × Instr × Nat) := [(0, .iload_n 1, 1), (1, .ifCond .ne 10, 3), (4, .aload_n 0, 1), (5, .getfield 229, 3), (8, .goto 22, 3), (11, .iload_n 1, 1), (12, .iconst 1, 1), (13, .if_icmp .ne 10, 3), (16, .aload_n 0, 1), (17, .getfield 23, 3), (20, .goto 10, 3), (23, .aload_n 0, 1), (24, .bipush (-2), 2), (26, .invokevirtual 82, 3), (29, .i2l, 1), (30, .lreturn, 1)]
abbrev ax_i210 : ax_I := (10, yX10_part, cX10_part, 2, (some .long), 1, false)
def ax_c211 : List (Nat × Instr × Nat) := [(0, .iload_n 1, 1), (1, .i2l, 1), (2, .lconst 0, 1), (3, .lconst 1, 1), (4, .invokestatic 74, 3), (7, .ifCond .ne 10, 3), (10, .aload_n 0, 1), (11, .bipush (-2), 2), (13, .invokevirtual 82, 3), (16, .ireturn, 1), (17, .iconst 0, 1), (18, .istore_n 2, 1), (19, .iload_n 2, 1), (20, .sipush 181, 3), (23, .if_icmp .ge 27, 3), (26, .aload_n 0, 1), (27, .getfield 13, 3), (30, .sipush 181, 3), (33, .iload_n 1, 1), (34, .imul, 1), (35, .iload_n 2, 1), (36, .iadd, 1), (37, .aload_n 0, 1), (38, .getfield 7, 3), (41, .iload_n 2, 1), (42, .iaload, 1), (43, .iastore, 1), (44, .iinc 2 1, 3), (47, .goto (-28), 3), (50, .aload_n 0, 1), (51, .getfield 16, 3), (54, .iload_n 1, 1), (55, .iconst 1, 1), (56, .bastore, 1), (57, .iconst 1, 1), (58, .ireturn, 1)]
abbrev ax_i211 : ax_I := (10, yX10_image, cX10_image, 3, (some .int), 1, false)
def ax_c212 : List (Nat × Instr × Nat) := [(0, .iload_n 1, 1), (1, .i2l, 1), (2, .lconst 0, 1), (3, .lconst 1, 1), (4, .invokestatic 74, 3), (7, .ifCond .ne 10, 3), (10, .aload_n 0, 1), (11, .bipush (-2), 2), (13, .invokevirtual 82, 3), (16, .ireturn, 1), (17, .aload_n 0, 1), (18, .getfield 16, 3), (21, .iload_n 1, 1), (22, .baload, 1), (23, .ifCond .ne 8, 3), (26, .aload_n 0, 1), (27, .invokevirtual 160, 3), (30, .ireturn, 1), (31, .iconst 0, 1), (32, .istore_n 2, 1), (33, .iload_n 2, 1), (34, .sipush 181, 3), (37, .if_icmp .ge 27, 3), (40, .aload_n 0, 1), (41, .getfield 7, 3), (44, .iload_n 2, 1), (45, .aload_n 0, 1), (46, .getfield 13, 3), (49, .sipush 181, 3), (52, .iload_n 1, 1), (53, .imul, 1), (54, .iload_n 2, 1), (55, .iadd, 1), (56, .iaload, 1), (57, .iastore, 1), (58, .iinc 2 1, 3), (61, .goto (-28), 3), (64, .iconst 1, 1), (65, .ireturn, 1)]
abbrev ax_i212 : ax_I := (10, yX10_from, cX10_from, 3, (some .int), 1, false)
def ax_c213 : List (Nat × Instr × Nat) := [(0, .iload_n 1, 1), (1, .i2l, 1), (2, .lconst 0, 1), (3, .ldc2_w 92, 3), (6, .invokestatic 74, 3), (9, .ifCond .eq 12, 3), (12, .aload_n 0, 1), (13, .getfield 20, 3), (16, .iload_n 1, 1), (17, .iaload, 1), (18, .goto 8, 3), (21, .aload_n 0, 1), (22, .iconst (-1), 1), (23, .invokevirtual 82, 3), (26, .ireturn, 1)]
abbrev ax_i213 : ax_I := (10, yX10_status, cX10_status, 2, (some .int), 1, false)
def ax_c214 : List (Nat × Instr × Nat) := [(0, .iload_n 1, 1), (1, .tableswitch 70 0 4 #[35, 40, 49, 56, 63], 35), (36, .aload_n 0, 1), (37, .invokevirtual 70, 3), (40, .ireturn, 1), (41, .aload_n 0, 1), (42, .invokevirtual 154, 3), (45, .aload_n 0, 1), (46, .invokevirtual 132, 3), (49, .ireturn, 1), (50, .aload_n 0, 1), (51, .getfield 7, 3), (54, .iconst 3, 1), (55, .iaload, 1), (56, .ireturn, 1), (57, .aload_n 0, 1), (58, .getfield 7, 3), (61, .iconst 4, 1), (62, .iaload, 1), (63, .ireturn, 1), (64, .aload_n 0, 1), (65, .getfield 7, 3), (68, .iconst 5, 1), (69, .iaload, 1), (70, .ireturn, 1), (71, .aload_n 0, 1), (72, .getfield 252, 3), (75, .ireturn, 1)]
abbrev ax_i214 : ax_I := (10, yX10_counted, cX10_counted, 2, (some .int), 1, false)
def ax_c215 : List (Nat × Instr × Nat) := [(0, .iload_n 1, 1), (1, .i2l, 1), (2, .lconst 0, 1), (3, .ldc2_w 86, 3), (6, .invokestatic 74, 3), (9, .ifCond .eq 11, 3), (12, .aload_n 0, 1), (13, .iload_n 1, 1), (14, .invokevirtual 307, 3), (17, .goto 9, 3), (20, .aload_n 0, 1), (21, .bipush (-2), 2), (23, .invokevirtual 82, 3), (26, .ireturn, 1)]
abbrev ax_i215 : ax_I := (10, yX10_count, cX10_count, 2, (some .int), 1, false)
def ax_c216 : List (Nat × Instr × Nat) := [(0, .lload_n 1, 1), (1, .lstore 5, 2), (3, .iconst 0, 1), (4, .istore 7, 2), (6, .iload 7, 2), (8, .iload 4, 2), (10, .if_icmp .ge 28, 3), (13, .ldc2_w 310, 3), (16, .lload 5, 2), (18, .lmul, 1), (19, .aload_n 0, 1), (20, .getfield 7, 3), (23, .iload_n 3, 1), (24, .iload 7, 2), (26, .iadd, 1), (27, .iaload, 1), (28, .i2l, 1), (29, .ladd, 1), (30, .lstore 5, 2), (32, .iinc 7 1, 3), (35, .goto (-29), 3), (38, .lload 5, 2), (40, .lreturn, 1)]
abbrev ax_i216 : ax_I := (10, yX10_sums, cX10_sums, 8, (some .long), 3, false)
def ax_c217 : List (Nat × Instr × Nat) := [(0, .ldc2_w 312, 3), (3, .lstore_n 1, 1), (4, .iconst 0, 1), (5, .istore_n 3, 1), (6, .iload_n 3, 1), (7, .bipush 6, 2), (9, .if_icmp .ge 22, 3), (12, .ldc2_w 310, 3), (15, .lload_n 1, 1), (16, .lmul, 1), (17, .aload_n 0, 1), (18, .iload_n 3, 1), (19, .invokevirtual 307, 3), (22, .i2l, 1), (23, .ladd, 1), (24, .lstore_n 1, 1), (25, .iinc 3 1, 3), (28, .goto (-22), 3), (31, .ldc2_w 310, 3), (34, .lload_n 1, 1), (35, .lmul, 1), (36, .aload_n 0, 1), (37, .getfield 7, 3), (40, .iconst 2, 1), (41, .iaload, 1), (42, .i2l, 1), (43, .ladd, 1), (44, .lstore_n 1, 1), (45, .aload_n 0, 1), (46, .lload_n 1, 1), (47, .bipush 46, 2), (49, .bipush 25, 2), (51, .invokevirtual 314, 3), (54, .lstore_n 1, 1), (55, .aload_n 0, 1), (56, .lload_n 1, 1), (57, .bipush 6, 2), (59, .iconst 5, 1), (60, .aload_n 0, 1), (61, .invokevirtual 70, 3), (64, .imul, 1), (65, .invokevirtual 314, 3), (68, .lstore_n 1, 1), (69, .iconst 0, 1), (70, .istore_n 3, 1), (71, .iload_n 3, 1), (72, .aload_n 0, 1), (73, .getfield 7, 3), (76, .iconst 3, 1), (77, .iaload, 1), (78, .if_icmp .ge 22, 3), (81, .aload_n 0, 1), (82, .lload_n 1, 1), (83, .bipush 71, 2), (85, .iconst 4, 1), (86, .iload_n 3, 1), (87, .imul, 1), (88, .iadd, 1), (89, .iconst 3, 1), (90, .invokevirtual 314, 3), (93, .lstore_n 1, 1), (94, .iinc 3 1, 3), (97, .goto (-26), 3), (100, .aload_n 0, 1), (101, .lload_n 1, 1), (102, .bipush 107, 2), (104, .aload_n 0, 1), (105, .getfield 7, 3), (108, .iconst 4, 1), (109, .iaload, 1), (110, .invokevirtual 314, 3), (113, .lstore_n 1, 1), (114, .iconst 0, 1), (115, .istore_n 3, 1), (116, .iload_n 3, 1), (117, .aload_n 0, 1), (118, .getfield 7, 3), (121, .iconst 5, 1), (122, .iaload, 1), (123, .if_icmp .ge 38, 3), (126, .aload_n 0, 1), (127, .lload_n 1, 1), (128, .bipush 115, 2), (130, .bipush 11, 2), (132, .iload_n 3, 1), (133, .imul, 1), (134, .iadd, 1), (135, .iconst 3, 1), (136, .aload_n 0, 1), (137, .getfield 7, 3), (140, .bipush 115, 2), (142, .bipush 11, 2), (144, .iload_n 3, 1), (145, .imul, 1), (146, .iadd, 1), (147, .iconst 2, 1), (148, .iadd, 1), (149, .iaload, 1), (150, .iadd, 1), (151, .invokevirtual 314, 3), (154, .lstore_n 1, 1), (155, .iinc 3 1, 3), (158, .goto (-42), 3), (161, .ldc2_w 310, 3), (164, .ldc2_w 310, 3), (167, .lload_n 1, 1), (168, .lmul, 1), (169, .aload_n 0, 1), (170, .getfield 229, 3), (173, .ladd, 1), (174, .lmul, 1), (175, .aload_n 0, 1), (176, .getfield 23, 3), (179, .ladd, 1), (180, .lreturn, 1)]
abbrev ax_i217 : ax_I := (10, yX10_digest, cX10_digest, 4, (some .long), 0, false)
def ax_c218 : List (Nat × Instr × Nat) := [(0, .iload_n 0, 1), (1, .iload_n 0, 1), (2, .iconst 1, 1), (3, .iushr, 1), (4, .ldc_w 265, 3), (7, .iand, 1), (8, .isub, 1), (9, .istore_n 0, 1), (10, .iload_n 0, 1), (11, .ldc_w 266, 3), (14, .iand, 1), (15, .iload_n 0, 1), (16, .iconst 2, 1), (17, .iushr, 1), (18, .ldc_w 266, 3), (21, .iand, 1), (22, .iadd, 1), (23, .istore_n 0, 1), (24, .iload_n 0, 1), (25, .iload_n 0, 1), (26, .iconst 4, 1), (27, .iushr, 1), (28, .iadd, 1), (29, .ldc_w 267, 3), (32, .iand, 1), (33, .istore_n 0, 1), (34, .iload_n 0, 1), (35, .iload_n 0, 1), (36, .bipush 8, 2), (38, .iushr, 1), (39, .iadd, 1), (40, .istore_n 0, 1), (41, .iload_n 0, 1), (42, .iload_n 0, 1), (43, .bipush 16, 2), (45, .iushr, 1), (46, .iadd, 1), (47, .istore_n 0, 1), (48, .iload_n 0, 1), (49, .bipush 63, 2), (51, .iand, 1), (52, .ireturn, 1)]
abbrev ax_i218 : ax_I := (14, yJ6_bitCount_0f7a4, cJ6_bitCount_0f7a4, 1, (some .int), 1, true)
def ax_c219 : List (Nat × Instr × Nat) := [(0, .aload_n 0, 1), (1, .getfield 9, 3), (4, .arraylength, 1), (5, .aload_n 0, 1), (6, .invokevirtual 335, 3), (9, .ishr, 1), (10, .ireturn, 1)]
abbrev ax_i219 : ax_I := (12, yJ0_length_8abf5, cJ0_length_8abf5, 1, (some .int), 0, false)
def ax_c220 : List (Nat × Instr × Nat) := [(0, .aload_n 0, 1), (1, .invokevirtual 492, 3), (4, .ifCond .eq 12, 3), (7, .aload_n 0, 1), (8, .getfield 9, 3), (11, .iload_n 1, 1), (12, .invokestatic 495, 3), (15, .ireturn, 1), (16, .aload_n 0, 1), (17, .getfield 9, 3), (20, .iload_n 1, 1), (21, .invokestatic 498, 3), (24, .ireturn, 1)]
abbrev ax_i220 : ax_I := (12, yJ0_charAt_5068e, cJ0_charAt_5068e, 2, (some .char), 1, false)
def ax_c221 : List (Nat × Instr × Nat) := [(0, .getstatic 38, 3), (3, .ifCond .eq 10, 3), (6, .aload_n 0, 1), (7, .getfield 15, 3), (10, .goto 4, 3), (13, .iconst 1, 1), (14, .ireturn, 1)]
abbrev ax_i221 : ax_I := (12, yJ0_coder_7d493, cJ0_coder_7d493, 1, (some .byte), 0, false)
def ax_c222 : List (Nat × Instr × Nat) := [(0, .getstatic 38, 3), (3, .ifCond .eq 14, 3), (6, .aload_n 0, 1), (7, .getfield 15, 3), (10, .ifCond .ne 7, 3), (13, .iconst 1, 1), (14, .goto 4, 3), (17, .iconst 0, 1), (18, .ireturn, 1)]
abbrev ax_i222 : ax_I := (12, yJ0_isLatin1_aae02, cJ0_isLatin1_aae02, 1, (some .boolean), 0, false)
def ax_c223 : List (Nat × Instr × Nat) := [(0, .iload_n 0, 1), (1, .iload_n 1, 1), (2, .getstatic 1053, 3), (5, .invokestatic 1059, 3), (8, .pop, 1), (9, .return_, 1)]
abbrev ax_i223 : ax_I := (12, yJ0_checkIndex_df160, cJ0_checkIndex_df160, 2, none, 2, true)
def ax_c224 : List (Nat × Instr × Nat) := [(0, .iload_n 1, 1), (1, .aload_n 0, 1), (2, .arraylength, 1), (3, .invokestatic 9, 3), (6, .aload_n 0, 1), (7, .iload_n 1, 1), (8, .baload, 1), (9, .sipush 255, 3), (12, .iand, 1), (13, .i2c, 1), (14, .ireturn, 1)]
abbrev ax_i224 : ax_I := (13, yJ1_charAt_3b067, cJ1_charAt_3b067, 2, (some .char), 2, true)
def ax_c225 : List (Nat × Instr × Nat) := [(0, .iload_n 0, 1), (1, .ifCond .lt 8, 3), (4, .iload_n 0, 1), (5, .iload_n 1, 1), (6, .if_icmp .lt 10, 3), (9, .aload_n 2, 1), (10, .iload_n 0, 1), (11, .iload_n 1, 1), (12, .invokestatic 95, 3), (15, .athrow, 1), (16, .iload_n 0, 1), (17, .ireturn, 1)]
abbrev ax_i225 : ax_I := (16, yJ3_checkIndex_8e157, cJ3_checkIndex_8e157, 3, (some .int), 3, true)
def ax_c226 : List (Nat × Instr × Nat) := [(0, .new 7, 3), (3, .dup, 1), (4, .invokespecial 9, 3), (7, .astore_n 1, 1), (8, .new 10, 3), (11, .dup, 1), (12, .invokespecial 12, 3), (15, .astore_n 2, 1), (16, .iconst 0, 1), (17, .istore_n 3, 1), (18, .iload_n 3, 1), (19, .aload_n 0, 1), (20, .arraylength, 1), (21, .bipush 6, 2), (23, .isub, 1), (24, .if_icmp .gt 1067, 3), (27, .aload_n 0, 1), (28, .iload_n 3, 1), (29, .iaload, 1), (30, .bipush 63, 2), (32, .iand, 1), (33, .tableswitch 1052 0 34 #[155, 178, 241, 284, 307, 330, 343, 356, 389, 402, 435, 468, 481, 494, 517, 530, 553, 586, 619, 652, 685, 708, 731, 764, 777, 800, 823, 846, 889, 922, 946, 969, 992, 1015, 1038], 155), (188, .aload_n 1, 1), (189, .aload_n 0, 1), (190, .iload_n 3, 1), (191, .iconst 1, 1), (192, .iadd, 1), (193, .iaload, 1), (194, .invokevirtual 13, 3), (197, .aload_n 2, 1), (198, .aload_n 0, 1), (199, .iload_n 3, 1), (200, .iconst 1, 1), (201, .iadd, 1), (202, .iaload, 1), (203, .invokevirtual 17, 3), (206, .if_icmp .eq 879, 3), (209, .iconst 0, 1), (210, .ireturn, 1), (211, .aload_n 1, 1), (212, .aload_n 0, 1), (213, .iload_n 3, 1), (214, .iconst 1, 1), (215, .iadd, 1), (216, .iaload, 1), (217, .aload_n 0, 1), (218, .iload_n 3, 1), (219, .iconst 2, 1), (220, .iadd, 1), (221, .iaload, 1), (222, .aload_n 0, 1), (223, .iload_n 3, 1), (224, .iconst 3, 1), (225, .iadd, 1), (226, .iaload, 1), (227, .aload_n 0, 1), (228, .iload_n 3, 1), (229, .iconst 4, 1), (230, .iadd, 1), (231, .iaload, 1), (232, .aload_n 0, 1), (233, .iload_n 3, 1), (234, .iconst 5, 1), (235, .iadd, 1), (236, .iaload, 1), (237, .invokevirtual 18, 3), (240, .aload_n 2, 1), (241, .aload_n 0, 1), (242, .iload_n 3, 1), (243, .iconst 1, 1), (244, .iadd, 1), (245, .iaload, 1), (246, .aload_n 0, 1), (247, .iload_n 3, 1), (248, .iconst 2, 1), (249, .iadd, 1), (250, .iaload, 1), (251, .aload_n 0, 1), (252, .iload_n 3, 1), (253, .iconst 3, 1), (254, .iadd, 1), (255, .iaload, 1), (256, .aload_n 0, 1), (257, .iload_n 3, 1), (258, .iconst 4, 1), (259, .iadd, 1), (260, .iaload, 1), (261, .aload_n 0, 1), (262, .iload_n 3, 1), (263, .iconst 5, 1), (264, .iadd, 1), (265, .iaload, 1), (266, .invokevirtual 22, 3), (269, .if_icmp .eq 816, 3), (272, .iconst 0, 1), (273, .ireturn, 1), (274, .aload_n 1, 1), (275, .aload_n 0, 1), (276, .iload_n 3, 1), (277, .iconst 1, 1), (278, .iadd, 1), (279, .iaload, 1), (280, .aload_n 0, 1), (281, .iload_n 3, 1), (282, .iconst 2, 1), (283, .iadd, 1), (284, .iaload, 1), (285, .aload_n 0, 1), (286, .iload_n 3, 1), (287, .iconst 3, 1), (288, .iadd, 1), (289, .iaload, 1), (290, .invokevirtual 23, 3), (293, .aload_n 2, 1), (294, .aload_n 0, 1), (295, .iload_n 3, 1), (296, .iconst 1, 1), (297, .iadd, 1), (298, .iaload, 1), (299, .aload_n 0, 1), (300, .iload_n 3, 1), (301, .iconst 2, 1), (302, .iadd, 1), (303, .iaload, 1), (304, .aload_n 0, 1), (305, .iload_n 3, 1), (306, .iconst 3, 1), (307, .iadd, 1), (308, .iaload, 1), (309, .invokevirtual 27, 3), (312, .if_icmp .eq 773, 3), (315, .iconst 0, 1), (316, .ireturn, 1), (317, .aload_n 1, 1), (318, .aload_n 0, 1), (319, .iload_n 3, 1), (320, .iconst 1, 1), (321, .iadd, 1), (322, .iaload, 1), (323, .invokevirtual 28, 3), (326, .aload_n 2, 1), (327, .aload_n 0, 1), (328, .iload_n 3, 1), (329, .iconst 1, 1), (330, .iadd, 1), (331, .iaload, 1), (332, .invokevirtual 31, 3), (335, .if_icmp .eq 750, 3), (338, .iconst 0, 1), (339, .ireturn, 1), (340, .aload_n 1, 1), (341, .aload_n 0, 1), (342, .iload_n 3, 1), (343, .iconst 1, 1), (344, .iadd, 1), (345, .iaload, 1), (346, .invokevirtual 32, 3), (349, .aload_n 2, 1), (350, .aload_n 0, 1), (351, .iload_n 3, 1), (352, .iconst 1, 1), (353, .iadd, 1), (354, .iaload, 1), (355, .invokevirtual 35, 3), (358, .if_icmp .eq 727, 3), (361, .iconst 0, 1), (362, .ireturn, 1), (363, .aload_n 1, 1), (364, .invokevirtual 36, 3), (367, .aload_n 2, 1), (368, .invokevirtual 40, 3), (371, .if_icmp .eq 714, 3), (374, .iconst 0, 1), (375, .ireturn, 1), (376, .aload_n 1, 1), (377, .invokevirtual 41, 3), (380, .aload_n 2, 1), (381, .invokevirtual 44, 3), (384, .if_icmp .eq 701, 3), (387, .iconst 0, 1), (388, .ireturn, 1), (389, .aload_n 1, 1), (390, .aload_n 0, 1), (391, .iload_n 3, 1), (392, .iconst 1, 1), (393, .iadd, 1), (394, .iaload, 1), (395, .aload_n 0, 1), (396, .iload_n 3, 1), (397, .iconst 2, 1), (398, .iadd, 1), (399, .iaload, 1), (400, .invokevirtual 45, 3), (403, .aload_n 2, 1), (404, .aload_n 0, 1), (405, .iload_n 3, 1), (406, .iconst 1, 1), (407, .iadd, 1), (408, .iaload, 1), (409, .aload_n 0, 1), (410, .iload_n 3, 1), (411, .iconst 2, 1), (412, .iadd, 1), (413, .iaload, 1), (414, .invokevirtual 49, 3), (417, .if_icmp .eq 668, 3), (420, .iconst 0, 1), (421, .ireturn, 1), (422, .aload_n 1, 1), (423, .invokevirtual 50, 3), (426, .aload_n 2, 1), (427, .invokevirtual 53, 3), (430, .if_icmp .eq 655, 3), (433, .iconst 0, 1), (434, .ireturn, 1), (435, .aload_n 1, 1), (436, .aload_n 0, 1), (437, .iload_n 3, 1), (438, .iconst 1, 1), (439, .iadd, 1), (440, .iaload, 1), (441, .aload_n 0, 1), (442, .iload_n 3, 1), (443, .iconst 2, 1), (444, .iadd, 1), (445, .iaload, 1), (446, .invokevirtual 54, 3), (449, .aload_n 2, 1), (450, .aload_n 0, 1), (451, .iload_n 3, 1), (452, .iconst 1, 1), (453, .iadd, 1), (454, .iaload, 1), (455, .aload_n 0, 1), (456, .iload_n 3, 1), (457, .iconst 2, 1), (458, .iadd, 1), (459, .iaload, 1), (460, .invokevirtual 57, 3), (463, .if_icmp .eq 622, 3), (466, .iconst 0, 1), (467, .ireturn, 1), (468, .aload_n 1, 1), (469, .aload_n 0, 1), (470, .iload_n 3, 1), (471, .iconst 1, 1), (472, .iadd, 1), (473, .iaload, 1), (474, .aload_n 0, 1), (475, .iload_n 3, 1), (476, .iconst 2, 1), (477, .iadd, 1), (478, .iaload, 1), (479, .invokevirtual 58, 3), (482, .aload_n 2, 1), (483, .aload_n 0, 1), (484, .iload_n 3, 1), (485, .iconst 1, 1), (486, .iadd, 1), (487, .iaload, 1), (488, .aload_n 0, 1), (489, .iload_n 3, 1), (490, .iconst 2, 1), (491, .iadd, 1), (492, .iaload, 1), (493, .invokevirtual 61, 3), (496, .if_icmp .eq 589, 3), (499, .iconst 0, 1), (500, .ireturn, 1), (501, .aload_n 1, 1), (502, .invokevirtual 62, 3), (505, .aload_n 2, 1), (506, .invokevirtual 65, 3), (509, .if_icmp .eq 576, 3), (512, .iconst 0, 1), (513, .ireturn, 1), (514, .aload_n 1, 1), (515, .invokevirtual 66, 3), (518, .aload_n 2, 1), (519, .invokevirtual 69, 3), (522, .if_icmp .eq 563, 3), (525, .iconst 0, 1), (526, .ireturn, 1), (527, .aload_n 1, 1), (528, .aload_n 0, 1), (529, .iload_n 3, 1), (530, .iconst 1, 1), (531, .iadd, 1), (532, .iaload, 1), (533, .invokevirtual 70, 3), (536, .aload_n 2, 1), (537, .aload_n 0, 1), (538, .iload_n 3, 1), (539, .iconst 1, 1), (540, .iadd, 1), (541, .iaload, 1), (542, .invokevirtual 73, 3), (545, .if_icmp .eq 540, 3), (548, .iconst 0, 1), (549, .ireturn, 1), (550, .aload_n 1, 1), (551, .invokevirtual 74, 3), (554, .aload_n 2, 1), (555, .invokevirtual 77, 3), (558, .if_icmp .eq 527, 3), (561, .iconst 0, 1), (562, .ireturn, 1), (563, .aload_n 1, 1), (564, .aload_n 0, 1), (565, .iload_n 3, 1), (566, .iconst 1, 1), (567, .iadd, 1), (568, .iaload, 1), (569, .invokevirtual 78, 3), (572, .aload_n 2, 1), (573, .aload_n 0, 1), (574, .iload_n 3, 1), (575, .iconst 1, 1), (576, .iadd, 1), (577, .iaload, 1), (578, .invokevirtual 81, 3), (581, .if_icmp .eq 504, 3), (584, .iconst 0, 1), (585, .ireturn, 1), (586, .aload_n 1, 1), (587, .aload_n 0, 1), (588, .iload_n 3, 1), (589, .iconst 1, 1), (590, .iadd, 1), (591, .iaload, 1), (592, .aload_n 0, 1), (593, .iload_n 3, 1), (594, .iconst 2, 1), (595, .iadd, 1), (596, .iaload, 1), (597, .invokevirtual 82, 3), (600, .aload_n 2, 1), (601, .aload_n 0, 1), (602, .iload_n 3, 1), (603, .iconst 1, 1), (604, .iadd, 1), (605, .iaload, 1), (606, .aload_n 0, 1), (607, .iload_n 3, 1), (608, .iconst 2, 1), (609, .iadd, 1), (610, .iaload, 1), (611, .invokevirtual 85, 3), (614, .if_icmp .eq 471, 3), (617, .iconst 0, 1), (618, .ireturn, 1), (619, .aload_n 1, 1), (620, .aload_n 0, 1), (621, .iload_n 3, 1), (622, .iconst 1, 1), (623, .iadd, 1), (624, .iaload, 1), (625, .aload_n 0, 1), (626, .iload_n 3, 1), (627, .iconst 2, 1), (628, .iadd, 1), (629, .iaload, 1), (630, .invokevirtual 86, 3), (633, .aload_n 2, 1), (634, .aload_n 0, 1), (635, .iload_n 3, 1), (636, .iconst 1, 1), (637, .iadd, 1), (638, .iaload, 1), (639, .aload_n 0, 1), (640, .iload_n 3, 1), (641, .iconst 2, 1), (642, .iadd, 1), (643, .iaload, 1), (644, .invokevirtual 89, 3), (647, .if_icmp .eq 438, 3), (650, .iconst 0, 1), (651, .ireturn, 1), (652, .aload_n 1, 1), (653, .aload_n 0, 1), (654, .iload_n 3, 1), (655, .iconst 1, 1), (656, .iadd, 1), (657, .iaload, 1), (658, .aload_n 0, 1), (659, .iload_n 3, 1), (660, .iconst 2, 1), (661, .iadd, 1), (662, .iaload, 1), (663, .invokevirtual 90, 3), (666, .aload_n 2, 1), (667, .aload_n 0, 1), (668, .iload_n 3, 1), (669, .iconst 1, 1), (670, .iadd, 1), (671, .iaload, 1), (672, .aload_n 0, 1), (673, .iload_n 3, 1), (674, .iconst 2, 1), (675, .iadd, 1), (676, .iaload, 1), (677, .invokevirtual 93, 3), (680, .if_icmp .eq 405, 3), (683, .iconst 0, 1), (684, .ireturn, 1), (685, .aload_n 1, 1), (686, .aload_n 0, 1), (687, .iload_n 3, 1), (688, .iconst 1, 1), (689, .iadd, 1), (690, .iaload, 1), (691, .aload_n 0, 1), (692, .iload_n 3, 1), (693, .iconst 2, 1), (694, .iadd, 1), (695, .iaload, 1), (696, .invokevirtual 94, 3), (699, .aload_n 2, 1), (700, .aload_n 0, 1), (701, .iload_n 3, 1), (702, .iconst 1, 1), (703, .iadd, 1), (704, .iaload, 1), (705, .aload_n 0, 1), (706, .iload_n 3, 1), (707, .iconst 2, 1), (708, .iadd, 1), (709, .iaload, 1), (710, .invokevirtual 97, 3), (713, .if_icmp .eq 372, 3), (716, .iconst 0, 1), (717, .ireturn, 1), (718, .aload_n 1, 1), (719, .aload_n 0, 1), (720, .iload_n 3, 1), (721, .iconst 1, 1), (722, .iadd, 1), (723, .iaload, 1), (724, .invokevirtual 98, 3), (727, .aload_n 2, 1), (728, .aload_n 0, 1), (729, .iload_n 3, 1), (730, .iconst 1, 1), (731, .iadd, 1), (732, .iaload, 1), (733, .invokevirtual 101, 3), (736, .if_icmp .eq 349, 3), (739, .iconst 0, 1), (740, .ireturn, 1), (741, .aload_n 1, 1), (742, .aload_n 0, 1), (743, .iload_n 3, 1), (744, .iconst 1, 1), (745, .iadd, 1), (746, .iaload, 1), (747, .invokevirtual 102, 3), (750, .aload_n 2, 1), (751, .aload_n 0, 1), (752, .iload_n 3, 1), (753, .iconst 1, 1), (754, .iadd, 1), (755, .iaload, 1), (756, .invokevirtual 105, 3), (759, .if_icmp .eq 326, 3), (762, .iconst 0, 1), (763, .ireturn, 1), (764, .aload_n 1, 1), (765, .aload_n 0, 1), (766, .iload_n 3, 1), (767, .iconst 1, 1), (768, .iadd, 1), (769, .iaload, 1), (770, .aload_n 0, 1), (771, .iload_n 3, 1), (772, .iconst 2, 1), (773, .iadd, 1), (774, .iaload, 1), (775, .invokevirtual 106, 3), (778, .aload_n 2, 1), (779, .aload_n 0, 1), (780, .iload_n 3, 1), (781, .iconst 1, 1), (782, .iadd, 1), (783, .iaload, 1), (784, .aload_n 0, 1), (785, .iload_n 3, 1), (786, .iconst 2, 1), (787, .iadd, 1), (788, .iaload, 1), (789, .invokevirtual 109, 3), (792, .if_icmp .eq 293, 3), (795, .iconst 0, 1), (796, .ireturn, 1), (797, .aload_n 1, 1), (798, .invokevirtual 110, 3), (801, .aload_n 2, 1), (802, .invokevirtual 113, 3), (805, .if_icmp .eq 280, 3), (808, .iconst 0, 1), (809, .ireturn, 1), (810, .aload_n 1, 1), (811, .aload_n 0, 1), (812, .iload_n 3, 1), (813, .iconst 1, 1), (814, .iadd, 1), (815, .iaload, 1), (816, .invokevirtual 114, 3), (819, .aload_n 2, 1), (820, .aload_n 0, 1), (821, .iload_n 3, 1), (822, .iconst 1, 1), (823, .iadd, 1), (824, .iaload, 1), (825, .invokevirtual 117, 3), (828, .if_icmp .eq 257, 3), (831, .iconst 0, 1), (832, .ireturn, 1), (833, .aload_n 1, 1), (834, .aload_n 0, 1), (835, .iload_n 3, 1), (836, .iconst 1, 1), (837, .iadd, 1), (838, .iaload, 1), (839, .invokevirtual 118, 3), (842, .aload_n 2, 1), (843, .aload_n 0, 1), (844, .iload_n 3, 1), (845, .iconst 1, 1), (846, .iadd, 1), (847, .iaload, 1), (848, .invokevirtual 121, 3), (851, .if_icmp .eq 234, 3), (854, .iconst 0, 1), (855, .ireturn, 1), (856, .aload_n 1, 1), (857, .aload_n 0, 1), (858, .iload_n 3, 1), (859, .iconst 1, 1), (860, .iadd, 1), (861, .iaload, 1), (862, .invokevirtual 122, 3), (865, .aload_n 2, 1), (866, .aload_n 0, 1), (867, .iload_n 3, 1), (868, .iconst 1, 1), (869, .iadd, 1), (870, .iaload, 1), (871, .invokevirtual 125, 3), (874, .if_icmp .eq 211, 3), (877, .iconst 0, 1), (878, .ireturn, 1), (879, .aload_n 1, 1), (880, .aload_n 0, 1), (881, .iload_n 3, 1), (882, .iconst 1, 1), (883, .iadd, 1), (884, .iaload, 1), (885, .aload_n 0, 1), (886, .iload_n 3, 1), (887, .iconst 2, 1), (888, .iadd, 1), (889, .iaload, 1), (890, .aload_n 0, 1), (891, .iload_n 3, 1), (892, .iconst 3, 1), (893, .iadd, 1), (894, .iaload, 1), (895, .invokevirtual 126, 3), (898, .aload_n 2, 1), (899, .aload_n 0, 1), (900, .iload_n 3, 1), (901, .iconst 1, 1), (902, .iadd, 1), (903, .iaload, 1), (904, .aload_n 0, 1), (905, .iload_n 3, 1), (906, .iconst 2, 1), (907, .iadd, 1), (908, .iaload, 1), (909, .aload_n 0, 1), (910, .iload_n 3, 1), (911, .iconst 3, 1), (912, .iadd, 1), (913, .iaload, 1), (914, .invokevirtual 129, 3), (917, .if_icmp .eq 168, 3), (920, .iconst 0, 1), (921, .ireturn, 1), (922, .aload_n 1, 1), (923, .aload_n 0, 1), (924, .iload_n 3, 1), (925, .iconst 1, 1), (926, .iadd, 1), (927, .iaload, 1), (928, .aload_n 0, 1), (929, .iload_n 3, 1), (930, .iconst 2, 1), (931, .iadd, 1), (932, .iaload, 1), (933, .invokevirtual 130, 3), (936, .aload_n 2, 1), (937, .aload_n 0, 1), (938, .iload_n 3, 1), (939, .iconst 1, 1), (940, .iadd, 1), (941, .iaload, 1), (942, .aload_n 0, 1), (943, .iload_n 3, 1), (944, .iconst 2, 1), (945, .iadd, 1), (946, .iaload, 1), (947, .invokevirtual 133, 3), (950, .if_icmp .eq 135, 3), (953, .iconst 0, 1), (954, .ireturn, 1), (955, .aload_n 1, 1), (956, .aload_n 0, 1), (957, .iload_n 3, 1), (958, .iconst 1, 1), (959, .iadd, 1), (960, .iaload, 1), (961, .invokevirtual 134, 3), (964, .aload_n 2, 1), (965, .aload_n 0, 1), (966, .iload_n 3, 1), (967, .iconst 1, 1), (968, .iadd, 1), (969, .iaload, 1), (970, .invokevirtual 138, 3), (973, .lcmp, 1), (974, .ifCond .eq 111, 3), (977, .iconst 0, 1), (978, .ireturn, 1), (979, .aload_n 1, 1), (980, .aload_n 0, 1), (981, .iload_n 3, 1), (982, .iconst 1, 1), (983, .iadd, 1), (984, .iaload, 1), (985, .invokevirtual 139, 3), (988, .aload_n 2, 1), (989, .aload_n 0, 1), (990, .iload_n 3, 1), (991, .iconst 1, 1), (992, .iadd, 1), (993, .iaload, 1), (994, .invokevirtual 142, 3), (997, .if_icmp .eq 88, 3), (1000, .iconst 0, 1), (1001, .ireturn, 1), (1002, .aload_n 1, 1), (1003, .aload_n 0, 1), (1004, .iload_n 3, 1), (1005, .iconst 1, 1), (1006, .iadd, 1), (1007, .iaload, 1), (1008, .invokevirtual 143, 3), (1011, .aload_n 2, 1), (1012, .aload_n 0, 1), (1013, .iload_n 3, 1), (1014, .iconst 1, 1), (1015, .iadd, 1), (1016, .iaload, 1), (1017, .invokevirtual 146, 3), (1020, .if_icmp .eq 65, 3), (1023, .iconst 0, 1), (1024, .ireturn, 1), (1025, .aload_n 1, 1), (1026, .aload_n 0, 1), (1027, .iload_n 3, 1), (1028, .iconst 1, 1), (1029, .iadd, 1), (1030, .iaload, 1), (1031, .invokevirtual 147, 3), (1034, .aload_n 2, 1), (1035, .aload_n 0, 1), (1036, .iload_n 3, 1), (1037, .iconst 1, 1), (1038, .iadd, 1), (1039, .iaload, 1), (1040, .invokevirtual 150, 3), (1043, .if_icmp .eq 42, 3), (1046, .iconst 0, 1), (1047, .ireturn, 1), (1048, .aload_n 1, 1), (1049, .aload_n 0, 1), (1050, .iload_n 3, 1), (1051, .iconst 1, 1), (1052, .iadd, 1), (1053, .iaload, 1), (1054, .invokevirtual 151, 3), (1057, .aload_n 2, 1), (1058, .aload_n 0, 1), (1059, .iload_n 3, 1), (1060, .iconst 1, 1), (1061, .iadd, 1), (1062, .iaload, 1), (1063, .invokevirtual 154, 3), (1066, .if_icmp .eq 19, 3), (1069, .iconst 0, 1), (1070, .ireturn, 1), (1071, .aload_n 1, 1), (1072, .invokevirtual 155, 3), (1075, .aload_n 2, 1), (1076, .invokevirtual 159, 3), (1079, .lcmp, 1), (1080, .ifCond .eq 5, 3), (1083, .iconst 0, 1), (1084, .ireturn, 1), (1085, .iinc 3 6, 3), (1088, .goto (-1070), 3), (1091, .iconst 1, 1), (1092, .ireturn, 1)]
abbrev ax_i226 : ax_I := (11, yL_law, cL_law, 4, (some .boolean), 1, true)
def ax_codes : List (List (Nat × Instr × Nat)) := [ax_c0, ax_c1, ax_c2, ax_c3, ax_c4, ax_c5, ax_c6, ax_c7, ax_c8, ax_c9, ax_c10, ax_c11, ax_c12, ax_c13, ax_c14, ax_c15, ax_c16, ax_c17, ax_c18, ax_c19, ax_c20, ax_c21, ax_c22, ax_c23, ax_c24, ax_c25, ax_c26, ax_c27, ax_c28, ax_c29, ax_c30, ax_c31, ax_c32, ax_c33, ax_c34, ax_c35, ax_c36, ax_c37, ax_c38, ax_c39, ax_c40, ax_c41, ax_c42, ax_c43, ax_c44, ax_c45, ax_c46, ax_c47, ax_c48, ax_c49, ax_c50, ax_c51, ax_c52, ax_c53, ax_c54, ax_c55, ax_c56, ax_c57, ax_c58, ax_c59, ax_c60, ax_c61, ax_c62, ax_c63, ax_c64, ax_c65, ax_c66, ax_c67, ax_c68, ax_c69, ax_c70, ax_c71, ax_c72, ax_c73, ax_c74, ax_c75, ax_c76, ax_c77, ax_c78, ax_c79, ax_c80, ax_c81, ax_c82, ax_c83, ax_c84, ax_c85, ax_c86, ax_c87, ax_c88, ax_c89, ax_c90, ax_c91, ax_c92, ax_c93, ax_c94, ax_c95, ax_c96, ax_c97, ax_c98, ax_c99, ax_c100, ax_c101, ax_c102, ax_c103, ax_c104, ax_c105, ax_c106, ax_c107, ax_c108, ax_c109, ax_c110, ax_c111, ax_c112, ax_c113, ax_c114, ax_c115, ax_c116, ax_c117, ax_c118, ax_c119, ax_c120, ax_c121, ax_c122, ax_c123, ax_c124, ax_c125, ax_c126, ax_c127, ax_c128, ax_c129, ax_c130, ax_c131, ax_c132, ax_c133, ax_c134, ax_c135, ax_c136, ax_c137, ax_c138, ax_c139, ax_c140, ax_c141, ax_c142, ax_c143, ax_c144, ax_c145, ax_c146, ax_c147, ax_c148, ax_c149, ax_c150, ax_c151, ax_c152, ax_c153, ax_c154, ax_c155, ax_c156, ax_c157, ax_c158, ax_c159, ax_c160, ax_c161, ax_c162, ax_c163, ax_c164, ax_c165, ax_c166, ax_c167, ax_c168, ax_c169, ax_c170, ax_c171, ax_c172, ax_c173, ax_c174, ax_c175, ax_c176, ax_c177, ax_c178, ax_c179, ax_c180, ax_c181, ax_c182, ax_c183, ax_c184, ax_c185, ax_c186, ax_c187, ax_c188, ax_c189, ax_c190, ax_c191, ax_c192, ax_c193, ax_c194, ax_c195, ax_c196, ax_c197, ax_c198, ax_c199, ax_c200, ax_c201, ax_c202, ax_c203, ax_c204, ax_c205, ax_c206, ax_c207, ax_c208, ax_c209, ax_c210, ax_c211, ax_c212, ax_c213, ax_c214, ax_c215, ax_c216, ax_c217, ax_c218, ax_c219, ax_c220, ax_c221, ax_c222, ax_c223, ax_c224, ax_c225, ax_c226]
def ax_infs : List ax_I := [ax_i0, ax_i1, ax_i2, ax_i3, ax_i4, ax_i5, ax_i6, ax_i7, ax_i8, ax_i9, ax_i10, ax_i11, ax_i12, ax_i13, ax_i14, ax_i15, ax_i16, ax_i17, ax_i18, ax_i19, ax_i20, ax_i21, ax_i22, ax_i23, ax_i24, ax_i25, ax_i26, ax_i27, ax_i28, ax_i29, ax_i30, ax_i31, ax_i32, ax_i33, ax_i34, ax_i35, ax_i36, ax_i37, ax_i38, ax_i39, ax_i40, ax_i41, ax_i42, ax_i43, ax_i44, ax_i45, ax_i46, ax_i47, ax_i48, ax_i49, ax_i50, ax_i51, ax_i52, ax_i53, ax_i54, ax_i55, ax_i56, ax_i57, ax_i58, ax_i59, ax_i60, ax_i61, ax_i62, ax_i63, ax_i64, ax_i65, ax_i66, ax_i67, ax_i68, ax_i69, ax_i70, ax_i71, ax_i72, ax_i73, ax_i74, ax_i75, ax_i76, ax_i77, ax_i78, ax_i79, ax_i80, ax_i81, ax_i82, ax_i83, ax_i84, ax_i85, ax_i86, ax_i87, ax_i88, ax_i89, ax_i90, ax_i91, ax_i92, ax_i93, ax_i94, ax_i95, ax_i96, ax_i97, ax_i98, ax_i99, ax_i100, ax_i101, ax_i102, ax_i103, ax_i104, ax_i105, ax_i106, ax_i107, ax_i108, ax_i109, ax_i110, ax_i111, ax_i112, ax_i113, ax_i114, ax_i115, ax_i116, ax_i117, ax_i118, ax_i119, ax_i120, ax_i121, ax_i122, ax_i123, ax_i124, ax_i125, ax_i126, ax_i127, ax_i128, ax_i129, ax_i130, ax_i131, ax_i132, ax_i133, ax_i134, ax_i135, ax_i136, ax_i137, ax_i138, ax_i139, ax_i140, ax_i141, ax_i142, ax_i143, ax_i144, ax_i145, ax_i146, ax_i147, ax_i148, ax_i149, ax_i150, ax_i151, ax_i152, ax_i153, ax_i154, ax_i155, ax_i156, ax_i157, ax_i158, ax_i159, ax_i160, ax_i161, ax_i162, ax_i163, ax_i164, ax_i165, ax_i166, ax_i167, ax_i168, ax_i169, ax_i170, ax_i171, ax_i172, ax_i173, ax_i174, ax_i175, ax_i176, ax_i177, ax_i178, ax_i179, ax_i180, ax_i181, ax_i182, ax_i183, ax_i184, ax_i185, ax_i186, ax_i187, ax_i188, ax_i189, ax_i190, ax_i191, ax_i192, ax_i193, ax_i194, ax_i195, ax_i196, ax_i197, ax_i198, ax_i199, ax_i200, ax_i201, ax_i202, ax_i203, ax_i204, ax_i205, ax_i206, ax_i207, ax_i208, ax_i209, ax_i210, ax_i211, ax_i212, ax_i213, ax_i214, ax_i215, ax_i216, ax_i217, ax_i218, ax_i219, ax_i220, ax_i221, ax_i222, ax_i223, ax_i224, ax_i225, ax_i226]
def ax_flds : List (Nat × Nat × Nat × Nat × Bool × Nat) := [(6, 21, 6, 0, false, 42), (6, 24, 6, 1, false, 43), (6, 27, 6, 2, false, 44), (6, 9, 6, 3, false, 45), (0, 14, 0, 0, false, 56), (9, 113, 0, 0, true, 57), (4, 31, 0, 0, true, 58), (5, 91, 0, 0, true, 59), (3, 62, 0, 0, true, 60), (0, 20, 0, 1, false, 61), (9, 135, 0, 1, true, 62), (5, 113, 0, 1, true, 63), (0, 23, 0, 2, false, 64), (9, 169, 0, 2, true, 65), (0, 26, 0, 3, false, 66), (8, 100, 0, 3, true, 67), (9, 192, 0, 3, true, 68), (0, 29, 0, 4, false, 69), (8, 61, 0, 4, true, 70), (9, 243, 0, 4, true, 71), (0, 32, 0, 5, false, 72), (0, 36, 0, 6, false, 73), (1, 34, 0, 6, true, 74), (3, 43, 0, 6, true, 75), (9, 141, 0, 6, true, 76), (8, 74, 0, 6, true, 77), (2, 10, 2, 0, false, 101), (2, 16, 2, 1, false, 102), (5, 33, 5, 0, false, 118), (5, 14, 5, 1, false, 119), (5, 20, 5, 2, false, 120), (5, 24, 5, 3, false, 121), (5, 27, 5, 4, false, 122), (5, 30, 5, 5, false, 123), (1, 21, 1, 0, false, 143), (1, 9, 1, 1, false, 144), (8, 101, 1, 1, true, 145), (1, 15, 1, 2, false, 146), (1, 18, 1, 3, false, 147), (8, 24, 8, 0, false, 167), (8, 33, 8, 1, false, 168), (8, 14, 8, 2, false, 169), (8, 20, 8, 3, false, 170), (4, 18, 4, 0, false, 186), (4, 9, 4, 1, false, 187), (4, 15, 4, 2, false, 188), (3, 27, 3, 0, false, 204), (3, 14, 3, 1, false, 205), (3, 20, 3, 2, false, 206), (3, 23, 3, 3, false, 207), (7, 9, 7, 0, false, 223), (7, 15, 7, 1, false, 224), (9, 10, 9, 0, false, 249), (9, 16, 9, 1, false, 250), (9, 22, 9, 2, false, 251), (9, 26, 9, 3, false, 252), (9, 34, 9, 4, false, 253), (9, 43, 9, 5, false, 254), (9, 52, 9, 6, false, 255), (9, 59, 9, 7, false, 256), (9, 66, 9, 8, false, 257), (9, 73, 9, 9, false, 258), (9, 80, 9, 10, false, 259), (9, 84, 9, 11, false, 260), (9, 88, 9, 12, false, 261), (9, 91, 9, 13, false, 262), (9, 95, 9, 14, false, 263), (9, 98, 9, 15, false, 264), (10, 7, 10, 0, false, 933), (10, 13, 10, 1, false, 934), (10, 16, 10, 2, false, 935), (10, 20, 10, 3, false, 936), (10, 229, 10, 4, false, 937), (10, 23, 10, 5, false, 938), (10, 109, 10, 6, false, 939), (10, 113, 10, 7, false, 940), (10, 116, 10, 8, false, 941), (10, 119, 10, 9, false, 942), (10, 27, 10, 10, false, 943), (10, 30, 10, 11, false, 944), (10, 33, 10, 12, false, 945), (10, 36, 10, 13, false, 946), (10, 39, 10, 14, false, 947), (10, 42, 10, 15, false, 948), (10, 45, 10, 16, false, 949), (10, 181, 10, 17, false, 950), (10, 48, 10, 18, false, 951), (10, 198, 10, 19, false, 952), (10, 201, 10, 20, false, 953), (10, 51, 10, 21, false, 954), (10, 54, 10, 22, false, 955), (10, 57, 10, 23, false, 956), (10, 252, 10, 24, false, 957), (10, 263, 10, 25, false, 958), (10, 266, 10, 26, false, 959), (10, 269, 10, 27, false, 960), (10, 272, 10, 28, false, 961), (10, 60, 10, 29, false, 962), (10, 63, 10, 30, false, 963), (12, 9, 12, 0, false, 1374), (12, 15, 12, 1, false, 1375)]
def ax_mths : List (Nat × Nat × Nat × Bool × Nat) := [(11, 9, 80, false, 21), (9, 1, 900, false, 24), (9, 9, 0, true, 29), (0, 3, 900, false, 32), (0, 11, 52, false, 35), (6, 3, 900, false, 38), (6, 15, 902, false, 39), (9, 21, 23, true, 95), (2, 1, 900, false, 98), (2, 9, 0, true, 100), (9, 31, 52, false, 109), (9, 40, 42, false, 112), (5, 3, 900, false, 115), (5, 11, 52, false, 117), (9, 49, 14, false, 139), (1, 3, 900, false, 142), (9, 58, 69, false, 159), (8, 3, 900, false, 162), (8, 11, 52, false, 164), (8, 30, 14, false, 166), (9, 65, 34, false, 182), (4, 3, 900, false, 185), (9, 72, 27, false, 198), (3, 3, 900, false, 201), (3, 11, 52, false, 203), (9, 79, 61, true, 219), (7, 3, 900, false, 222), (9, 101, 1, false, 230), (0, 39, 57, false, 234), (6, 35, 903, false, 238), (0, 43, 56, false, 241), (6, 31, 55, false, 245), (11, 13, 81, false, 298), (9, 105, 121, false, 302), (9, 109, 116, false, 305), (9, 116, 53, false, 309), (11, 18, 82, false, 313), (9, 120, 125, false, 317), (9, 124, 56, false, 324), (9, 127, 55, false, 325), (11, 23, 83, false, 326), (9, 131, 123, false, 330), (9, 138, 54, false, 333), (11, 28, 84, false, 337), (11, 32, 85, false, 341), (11, 36, 86, false, 345), (9, 144, 57, false, 349), (11, 41, 87, false, 350), (9, 147, 43, false, 354), (5, 36, 53, false, 358), (5, 40, 50, false, 359), (5, 81, 54, false, 363), (5, 128, 51, false, 364), (5, 43, 44, false, 367), (5, 49, 49, false, 372), (5, 119, 219, false, 376), (12, 335, 221, false, 380), (5, 124, 220, false, 386), (12, 492, 222, false, 390), (12, 495, 224, false, 394), (13, 9, 223, false, 397), (12, 1059, 225, false, 402), (5, 53, 45, false, 424), (5, 77, 48, false, 432), (5, 116, 57, false, 436), (5, 94, 56, false, 437), (5, 103, 55, false, 438), (5, 85, 1, false, 439), (5, 59, 46, false, 441), (5, 64, 47, false, 448), (9, 151, 2, false, 457), (0, 47, 58, false, 461), (6, 38, 901, false, 465), (11, 45, 88, false, 469), (9, 154, 3, false, 473), (0, 51, 53, false, 477), (0, 54, 121, true, 478), (9, 157, 122, false, 479), (9, 160, 5, false, 482), (0, 58, 54, false, 486), (0, 62, 130, true, 487), (9, 163, 9, false, 490), (0, 75, 8, false, 494), (0, 65, 129, true, 498), (0, 69, 218, false, 501), (9, 166, 11, false, 507), (0, 90, 5, false, 511), (0, 93, 6, false, 512), (0, 96, 10, false, 516), (0, 78, 7, false, 520), (0, 81, 127, true, 524), (0, 85, 902, false, 527), (0, 100, 55, false, 528), (0, 104, 128, true, 529), (11, 50, 89, false, 532), (9, 172, 12, false, 536), (11, 54, 90, false, 540), (9, 175, 129, false, 544), (9, 178, 6, false, 545), (9, 181, 10, false, 546), (11, 58, 91, false, 547), (11, 62, 92, false, 551), (11, 66, 93, false, 555), (9, 185, 126, false, 559), (11, 70, 94, false, 562), (9, 189, 4, false, 566), (11, 74, 95, false, 570), (11, 78, 96, false, 574), (9, 195, 73, false, 578), (8, 45, 78, false, 582), (8, 58, 57, false, 586), (8, 37, 53, false, 587), (8, 66, 56, false, 588), (8, 41, 54, false, 589), (8, 69, 55, false, 590), (8, 48, 15, false, 591), (1, 25, 5, false, 595), (1, 31, 6, false, 596), (8, 51, 79, false, 597), (8, 104, 8, false, 601), (8, 107, 17, false, 602), (1, 37, 10, false, 606), (1, 41, 128, true, 607), (1, 45, 130, true, 608), (8, 110, 128, true, 609), (9, 198, 72, false, 610), (11, 82, 97, false, 614), (9, 201, 71, false, 618), (9, 204, 904, false, 622), (11, 86, 98, false, 625), (9, 209, 37, false, 629), (4, 22, 5, false, 633), (4, 28, 6, false, 634), (4, 35, 53, false, 635), (4, 40, 9, false, 636), (4, 44, 39, false, 637), (4, 56, 10, false, 641), (4, 60, 130, true, 642), (4, 64, 41, false, 643), (4, 67, 902, false, 647), (4, 52, 40, false, 648), (4, 48, 38, false, 652), (9, 212, 35, false, 656), (9, 215, 128, false, 660), (11, 90, 99, false, 661), (9, 218, 36, false, 665), (11, 94, 100, false, 669), (9, 221, 31, false, 673), (3, 39, 57, false, 677), (3, 48, 126, true, 678), (3, 52, 5, false, 679), (3, 55, 6, false, 680), (3, 58, 32, false, 681), (3, 31, 53, false, 685), (3, 35, 54, false, 686), (3, 65, 9, false, 687), (3, 69, 33, false, 688), (3, 73, 56, false, 692), (3, 76, 55, false, 693), (3, 80, 10, false, 694), (3, 84, 128, true, 695), (3, 87, 58, false, 696), (3, 91, 130, true, 697), (9, 224, 28, false, 698), (9, 227, 29, false, 702), (9, 228, 30, false, 706), (11, 98, 101, false, 710), (9, 231, 19, false, 714), (1, 52, 22, false, 718), (1, 56, 15, false, 722), (1, 83, 8, false, 723), (1, 65, 17, false, 724), (11, 102, 102, false, 725), (9, 234, 20, false, 729), (1, 59, 9, false, 733), (1, 62, 18, false, 734), (1, 48, 126, true, 738), (11, 106, 103, false, 739), (9, 237, 124, false, 743), (9, 240, 13, false, 746), (11, 110, 104, false, 750), (11, 114, 105, false, 754), (9, 246, 119, false, 758), (9, 320, 62, false, 762), (9, 323, 75, false, 766), (8, 55, 16, false, 770), (9, 326, 65, false, 774), (7, 24, 67, false, 778), (7, 18, 902, false, 782), (7, 27, 68, false, 783), (7, 30, 903, false, 787), (9, 249, 64, false, 788), (9, 252, 63, false, 792), (11, 118, 106, false, 796), (9, 255, 74, false, 800), (9, 258, 66, false, 804), (9, 261, 902, false, 808), (11, 122, 107, false, 809), (9, 264, 70, false, 813), (11, 126, 108, false, 817), (9, 265, 76, false, 821), (8, 73, 70, false, 825), (8, 77, 77, false, 826), (8, 93, 129, true, 830), (8, 97, 71, false, 831), (8, 81, 126, true, 832), (8, 84, 218, false, 833), (8, 89, 132, true, 834), (9, 271, 132, false, 838), (9, 275, 120, false, 839), (9, 329, 133, false, 843), (11, 130, 109, false, 846), (9, 280, 21, false, 851), (1, 68, 218, false, 855), (9, 284, 18, false, 861), (11, 134, 110, false, 862), (11, 139, 111, false, 866), (9, 287, 118, false, 870), (9, 291, 25, false, 874), (2, 20, 2, false, 878), (11, 143, 112, false, 879), (9, 294, 24, false, 883), (9, 298, 26, false, 887), (11, 147, 113, false, 891), (11, 151, 114, false, 895), (9, 301, 117, false, 899), (9, 317, 7, false, 903), (11, 155, 115, false, 904), (9, 306, 131, false, 909), (9, 310, 59, false, 913), (6, 44, 60, false, 917), (6, 48, 54, false, 921), (6, 51, 131, true, 922), (9, 313, 60, false, 923), (11, 12, 134, false, 926), (10, 1, 900, false, 929), (10, 66, 139, false, 930), (11, 17, 145, false, 1028), (10, 74, 135, false, 1033), (10, 82, 136, false, 1036), (10, 70, 140, false, 1040), (11, 22, 147, false, 1044), (10, 88, 143, false, 1049), (10, 94, 138, false, 1054), (10, 97, 146, false, 1058), (11, 27, 148, false, 1061), (11, 31, 149, false, 1067), (11, 49, 161, false, 1073), (10, 148, 141, false, 1077), (10, 151, 142, false, 1081), (10, 154, 151, false, 1084), (10, 122, 150, false, 1088), (10, 157, 159, false, 1092), (10, 141, 157, false, 1096), (10, 144, 158, false, 1100), (10, 125, 144, false, 1104), (10, 160, 137, false, 1108), (10, 163, 156, false, 1112), (10, 138, 155, false, 1116), (10, 135, 154, false, 1120), (10, 129, 153, false, 1124), (10, 132, 152, false, 1128), (11, 53, 162, false, 1132), (11, 57, 163, false, 1136), (11, 61, 164, false, 1141), (11, 65, 165, false, 1145), (11, 69, 166, false, 1149), (10, 169, 160, false, 1153), (11, 73, 167, false, 1156), (11, 77, 168, false, 1160), (11, 81, 171, false, 1164), (10, 176, 170, false, 1168), (10, 172, 169, false, 1172), (11, 85, 172, false, 1176), (11, 89, 177, false, 1180), (10, 195, 176, false, 1184), (10, 184, 173, false, 1188), (10, 188, 174, false, 1193), (10, 191, 175, false, 1197), (11, 93, 178, false, 1201), (11, 97, 182, false, 1205), (10, 210, 181, false, 1209), (10, 204, 179, false, 1213), (10, 207, 180, false, 1217), (11, 101, 184, false, 1221), (10, 213, 183, false, 1225), (11, 105, 185, false, 1229), (10, 217, 166, false, 1233), (11, 109, 186, false, 1234), (11, 113, 187, false, 1238), (11, 117, 191, false, 1242), (10, 223, 189, false, 1246), (10, 220, 188, false, 1250), (10, 226, 190, false, 1254), (11, 121, 192, false, 1258), (11, 125, 193, false, 1262), (11, 129, 195, false, 1266), (10, 234, 194, false, 1271), (11, 133, 196, false, 1275), (11, 35, 197, false, 1285), (11, 40, 198, false, 1290), (11, 44, 209, false, 1294), (10, 281, 201, false, 1298), (10, 275, 199, false, 1302), (10, 278, 200, false, 1307), (10, 301, 205, false, 1312), (10, 287, 203, false, 1316), (10, 284, 202, false, 1320), (10, 291, 204, false, 1324), (10, 304, 208, false, 1328), (10, 294, 206, false, 1332), (10, 298, 207, false, 1336), (11, 138, 210, false, 1340), (11, 142, 211, false, 1344), (11, 146, 212, false, 1348), (11, 150, 213, false, 1352), (11, 154, 215, false, 1356), (10, 307, 214, false, 1360), (11, 159, 217, false, 1364), (10, 314, 216, false, 1370)]
def ax_stas : List (Nat × Nat × Value × String × String × String × Bool × Nat) := [(9, 332, .ref 1, "DinnerPleas", "DISH_LEAST", "[I", false, 320), (9, 336, .ref 2, "DinnerPleas", "DISH_MOST", "[I", false, 322), (12, 38, .int 1, "java/lang/String", "COMPACT_STRINGS", "Z", false, 384), (12, 1053, .retAddr 0, "jdk/internal/util/Preconditions", "SIOOBE_FORMATTER", "Ljava/util/function/BiFunction;", false, 400), (5, 70, .ref 3, "DinnerPleas$Reader", "COURT_LEAST", "[I", false, 428), (5, 74, .ref 4, "DinnerPleas$Reader", "COURT_MOST", "[I", false, 430), (5, 97, .ref 1, "DinnerPleas", "DISH_LEAST", "[I", true, 445), (5, 100, .ref 2, "DinnerPleas", "DISH_MOST", "[I", true, 446), (5, 107, .ref 5, "DinnerPleas$Reader", "BOOK_LEAST", "[I", false, 452), (5, 110, .ref 6, "DinnerPleas$Reader", "BOOK_MOST", "[I", false, 454)]
def ax_csis : List (Nat × Nat × Int32 × Nat) := [(14, 265, 1431655765, 504), (14, 266, 858993459, 505), (14, 267, 252645135, 506), (9, 279, 999999, 850), (10, 180, 1000000, 1192)]
def ax_csls : List (Nat × Nat × Int64 × Nat) := [(9, 269, 10, 837), (1, 73, 1103515245, 856), (1, 75, 12345, 857), (1, 77, 2147483648, 858), (1, 79, 65536, 859), (1, 81, 9, 860), (9, 304, 1019, 908), (9, 339, 31, 912), (10, 80, 9, 1032), (10, 86, 5, 1048), (10, 78, 4, 1052), (10, 92, 2, 1053), (10, 101, -3, 1065), (10, 103, 3, 1066), (10, 105, -30, 1071), (10, 107, 30, 1072), (10, 167, 6, 1140), (10, 232, 10, 1270), (10, 238, 999999, 1279), (10, 240, 60, 1280), (10, 242, 1103515245, 1281), (10, 244, 12345, 1282), (10, 246, 2147483648, 1283), (10, 248, 65536, 1284), (10, 250, 127, 1289), (10, 255, 97, 1305), (10, 257, 122, 1306), (10, 259, 48, 1310), (10, 261, 57, 1311), (10, 312, 1019, 1368), (10, 310, 31, 1369)]
def ax_strs : List (Nat × Nat × String × Nat) := [(5, 47, "court", 7), (5, 57, "dish", 8), (5, 62, "more", 9), (5, 68, "less", 10)]
def ax_clss : List (Nat × Nat × Nat × Nat) := [(11, 7, 9, 19), (9, 7, 0, 27), (0, 9, 6, 33), (9, 19, 2, 93), (2, 7, 0, 99), (9, 29, 6, 108), (9, 38, 5, 110), (5, 9, 6, 116), (9, 47, 1, 137), (9, 56, 8, 157), (8, 9, 6, 163), (8, 28, 1, 165), (9, 63, 4, 180), (9, 70, 3, 196), (3, 9, 6, 202), (9, 77, 7, 217), (11, 10, 10, 924)]
def ax_ftys : List (List FieldType) := [[.object "DinnerPleas$Rows", .object "DinnerPleas$Rows", .object "DinnerPleas$Rows", .object "DinnerPleas$Rows", .object "DinnerPleas$Rows", .int, .int], [.object "DinnerPleas$Court", .int, .int, .int], [.object "DinnerPleas$Court", .boolean], [.object "DinnerPleas$Court", .object "DinnerPleas$Rows", .object "DinnerPleas$Rows", .int], [.object "DinnerPleas$Court", .int, .int], [.object "DinnerPleas$Rows", .object "DinnerPleas$Rows", .int, .int, .int, .int], [.int, .int, .array .int, .int], [.int, .int], [.object "DinnerPleas$Court", .object "DinnerPleas$Evening", .object "DinnerPleas$Rows", .int], [.object "DinnerPleas$Court", .object "DinnerPleas$Court", .object "DinnerPleas$Image", .object "DinnerPleas$Image", .object "DinnerPleas$Rows", .object "DinnerPleas$Reader", .object "DinnerPleas$Evening", .object "DinnerPleas$Tasting", .object "DinnerPleas$Play", .object "DinnerPleas$Pardon", .object "DinnerPleas$Span", .long, .long, .int, .int, .int], [.array .int, .array .int, .array .boolean, .array .int, .long, .long, .int, .int, .int, .int, .array .int, .array .int, .array .int, .array .int, .array .int, .array .int, .array .int, .int, .array .int, .int, .int, .array .int, .array .int, .array .int, .int, .int, .int, .int, .int, .array .int, .array .int]]
def ax_fins : List (List Bool) := [[true, true, true, true, true, false, false], [true, false, false, false], [true, false], [true, true, true, false], [true, false, false], [true, true, false, false, false, false], [true, true, true, false], [false, false], [true, true, true, false], [true, true, true, true, true, true, true, true, true, true, true, false, false, false, false, false], [true, true, true, true, false, false, false, false, false, false, true, true, true, true, true, true, true, false, true, false, false, true, true, true, false, false, false, false, false, true, true]]
def ax_news : List (List Value) := [[.null, .null, .null, .null, .null, .int 0, .int 0], [.null, .int 0, .int 0, .int 0], [.null, .int 0], [.null, .null, .null, .int 0], [.null, .int 0, .int 0], [.null, .null, .int 0, .int 0, .int 0, .int 0], [.int 0, .int 0, .null, .int 0], [.int 0, .int 0], [.null, .null, .null, .int 0], [.null, .null, .null, .null, .null, .null, .null, .null, .null, .null, .null, .long 0, .long 0, .int 0, .int 0, .int 0], [.null, .null, .null, .null, .long 0, .long 0, .int 0, .int 0, .int 0, .int 0, .null, .null, .null, .null, .null, .null, .null, .int 0, .null, .int 0, .int 0, .null, .null, .null, .int 0, .int 0, .int 0, .int 0, .int 0, .null, .null]]
def ax_cns : List String := [RX0, RX1, RX2, RX3, RX4, RX5, RX6, RX7, RX8, RX9, RX10, RL, RJ0, RJ1, RJ6, RJ9, RJ3]
end
section
/-! ===== THE SMALL MACHINE: the code of the claim's methods, run over plain data (a heap is a function of places, a place below 20 is one that was there before) ===== -/
abbrev ax_E : Type := (Nat × Nat × (Nat → Int32)) ⊕ (Nat × List Value)
abbrev ax_H : Type := Nat → ax_E
def ax_dead : ax_E := .inr (99, [])
abbrev ax_dm : Value := .float 0
def ax_up (h : ax_H) (a : Nat) (e : ax_E) : ax_H := fun j => if j = a then e else h j
abbrev ax_R : Type := Option Value × Nat × ax_H
def ax_len (i : Instr) : Nat := match i with
  | .bipush _ => 2
  | .iload _ => 2
  | .istore _ => 2
  | .lload _ => 2
  | .lstore _ => 2
  | .ldc _ => 2
  | .newarray _ => 2
  | .sipush _ => 3
  | .ldc_w _ => 3
  | .ldc2_w _ => 3
  | .iinc _ _ => 3
  | .goto _ => 3
  | .if_icmp _ _ => 3
  | .ifCond _ _ => 3
  | .getfield _ => 3
  | .putfield _ => 3
  | .getstatic _ => 3
  | .new _ => 3
  | .invokevirtual _ => 3
  | .invokestatic _ => 3
  | .invokespecial _ => 3
  | .tableswitch _ _ _ _ => 0
  | _ => 1
def ax_at (y pc : Nat) : Option Instr := ((ax_codes.getD y []).find? (fun q => q.1 == pc)).map (fun q => q.2.1)
def ax_fld (c k : Nat) : Option (Nat × Nat) := (ax_flds.find? (fun q => q.1 == c && q.2.1 == k)).map (fun q => (q.2.2.1, q.2.2.2.1))
def ax_mth (c k : Nat) : Option Nat := (ax_mths.find? (fun q => q.1 == c && q.2.1 == k)).map (fun q => q.2.2.1)
def ax_sta (c k : Nat) : Option Value := (ax_stas.find? (fun q => q.1 == c && q.2.1 == k)).map (fun q => q.2.2.1)
def ax_csi (c k : Nat) : Option Int32 := (ax_csis.find? (fun q => q.1 == c && q.2.1 == k)).map (fun q => q.2.2.1)
def ax_csl (c k : Nat) : Option Int64 := (ax_csls.find? (fun q => q.1 == c && q.2.1 == k)).map (fun q => q.2.2.1)
def ax_str (c k : Nat) : Option Nat := (ax_strs.find? (fun q => q.1 == c && q.2.1 == k)).map (fun q => q.2.2.2)
def ax_cls (c k : Nat) : Option Nat := (ax_clss.find? (fun q => q.1 == c && q.2.1 == k)).map (fun q => q.2.2.1)
def ax_inf (y : Nat) : ax_I := ax_infs.getD y ax_i0
abbrev ax_cl (y : Nat) : Nat := (ax_inf y).1
abbrev ax_nm (y : Nat) : MethodName := (ax_inf y).2.1
abbrev ax_by (y : Nat) : ByteArray := (ax_inf y).2.2.1
abbrev ax_ml (y : Nat) : Nat := (ax_inf y).2.2.2.1
abbrev ax_rt (y : Nat) : Option FieldType := (ax_inf y).2.2.2.2.1
abbrev ax_np (y : Nat) : Nat := (ax_inf y).2.2.2.2.2.1
abbrev ax_sc (y : Nat) : Bool := (ax_inf y).2.2.2.2.2.2
def ax_ii (f : Int32 → Int32 → Int32) (st : List Value) : Option (List Value) := match st with
  | .int y :: .int x :: r => some (.int (f x y) :: r)
  | _ => none
def ax_ll (f : Int64 → Int64 → Int64) (st : List Value) : Option (List Value) := match st with
  | .long y :: .long x :: r => some (.long (f x y) :: r)
  | _ => none
def ax_ld (f : Int64 → Int64 → Int64) (st : List Value) : Option (List Value) := match st with
  | .long y :: .long x :: r => if y = 0 then none else some (.long (f x y) :: r)
  | _ => none
def ax_id (f : Int32 → Int32 → Int32) (st : List Value) : Option (List Value) := match st with
  | .int y :: .int x :: r => if y = 0 then none else some (.int (f x y) :: r)
  | _ => none
def ax_u1 (f : Int32 → Value) (st : List Value) : Option (List Value) := match st with
  | .int x :: r => some (f x :: r)
  | _ => none
/-- the operand stack alone -/
def ax_st (i : Instr) (st : List Value) : Option (List Value) := match i with
  | .iadd => ax_ii (fun x y => x + y) st
  | .isub => ax_ii (fun x y => x - y) st
  | .imul => ax_ii (fun x y => x * y) st
  | .iand => ax_ii (fun x y => x &&& y) st
  | .ior => ax_ii (fun x y => x ||| y) st
  | .ishl => ax_ii (fun x y => x <<< (y &&& 31)) st
  | .ishr => ax_ii (fun x y => x >>> (y &&& 31)) st
  | .iushr => ax_ii (fun x y => (x.toUInt32 >>> (y.toUInt32 &&& Int32.toUInt32 31)).toInt32) st
  | .irem => ax_id (fun x y => x - x / y * y) st
  | .ineg => ax_u1 (fun x => .int (-x)) st
  | .i2l => ax_u1 (fun x => .long x.toInt64) st
  | .i2c => ax_u1 (fun x => .int (x.toUInt32 % 65536).toInt32) st
  | .l2i => match st with
    | .long x :: r => some (.int x.toInt32 :: r)
    | _ => none
  | .ladd => ax_ll (fun x y => x + y) st
  | .lmul => ax_ll (fun x y => x * y) st
  | .ldiv => ax_ld (fun x y => x / y) st
  | .lrem => ax_ld (fun x y => x - x / y * y) st
  | .lcmp => match st with
    | .long y :: .long x :: r => some (.int (lg_cmp x y) :: r)
    | _ => none
  | .iconst n => some (.int (Int32.ofInt n) :: st)
  | .bipush n => some (.int (Int8.ofInt n).toInt32 :: st)
  | .sipush n => some (.int (Int16.ofInt n).toInt32 :: st)
  | .lconst n => some (.long (Int64.ofNat (n : Nat)) :: st)
  | .dup => match st with
    | v :: r => if v.category = 1 then some (v :: v :: r) else none
    | _ => none
  | .pop => match st with
    | v :: r => if v.category = 1 then some r else none
    | _ => none
  | .dup2 => match st with
    | v :: w :: r => if v.category = 1 ∧ w.category = 1 then some (v :: w :: v :: w :: r) else none
    | _ => none
  | _ => none
def ax_put : List Value → Nat → Value → List Value
  | [], _, _ => []
  | _ :: l, 0, v => v :: (if v.category = 2 then (match l with
    | [] => []
    | _ :: l2 => ax_dm :: l2) else l)
  | w :: l, i + 1, v => (if i = 0 ∧ w.category = 2 then ax_dm else w) :: ax_put l i v
def ax_ldi (k : Nat) (lc st : List Value) : Option (List Value × List Value) := match lc[k]? with
  | some (.int x) => some (lc, .int x :: st)
  | _ => none
def ax_ldl (k : Nat) (lc st : List Value) : Option (List Value × List Value) := match lc[k]? with
  | some (.long x) => some (lc, .long x :: st)
  | _ => none
def ax_lda (k : Nat) (lc st : List Value) : Option (List Value × List Value) := match lc[k]? with
  | some (.ref x) => some (lc, .ref x :: st)
  | _ => none
def ax_sti (k : Nat) (lc st : List Value) : Option (List Value × List Value) := match st with
  | .int x :: r => if k < lc.length then some (ax_put lc k (.int x), r) else none
  | _ => none
def ax_sta1 (k : Nat) (lc st : List Value) : Option (List Value × List Value) := match st with
  | .ref x :: r => if k < lc.length then some (ax_put lc k (.ref x), r) else none
  | _ => none
def ax_stl (k : Nat) (lc st : List Value) : Option (List Value × List Value) := match st with
  | .long x :: r => if k + 1 < lc.length then some (ax_put lc k (.long x), r) else none
  | _ => none
/-- the locals -/
def ax_lc (i : Instr) (lc st : List Value) : Option (List Value × List Value) := match i with
  | .iload k => ax_ldi k lc st
  | .iload_n k => ax_ldi k lc st
  | .lload k => ax_ldl k lc st
  | .lload_n k => ax_ldl k lc st
  | .aload_n k => ax_lda k lc st
  | .istore k => ax_sti k lc st
  | .istore_n k => ax_sti k lc st
  | .lstore k => ax_stl k lc st
  | .lstore_n k => ax_stl k lc st
  | .astore_n k => ax_sta1 k lc st
  | .iinc k n => match lc[k]? with
    | some (.int x) => if k < lc.length then some (ax_put lc k (.int (x + Int32.ofInt n)), st) else none
    | _ => none
  | _ => none
def ax_cmp (c : Jvm.ClassFile.Cond) (x y : Int32) : Bool := match c with
  | .eq => decide (x = y)
  | .ne => decide (¬ x = y)
  | .lt => decide (x < y)
  | .ge => decide (y ≤ x)
  | .gt => decide (y < x)
  | .le => decide (x ≤ y)
/-- where it goes on -/
def ax_br (i : Instr) (pc : Nat) (st : List Value) : Option (Nat × List Value) := match i with
  | .goto off => if 0 ≤ (pc : Int) + off then some (((pc : Int) + off).toNat, st) else none
  | .if_icmp c off => match st with
    | .int y :: .int x :: r => if 0 ≤ (pc : Int) + off then some (if ax_cmp c x y then ((pc : Int) + off).toNat else pc + 3, r) else none
    | _ => none
  | .ifCond c off => match st with
    | .int x :: r => if 0 ≤ (pc : Int) + off then some (if ax_cmp c x 0 then ((pc : Int) + off).toNat else pc + 3, r) else none
    | _ => none
  | .tableswitch dflt lo hi offs => match st with
    | .int x :: r => if x.toInt < lo ∨ hi < x.toInt then (if 0 ≤ (pc : Int) + dflt then some (((pc : Int) + dflt).toNat, r) else none) else (match offs[(x.toInt - lo).toNat]? with
      | some off => if 0 ≤ (pc : Int) + off then some (((pc : Int) + off).toNat, r) else none
      | none => none)
    | _ => none
  | _ => none
def ax_fty (ci j : Nat) : FieldType := (ax_ftys.getD ci []).getD j .int
def ax_fin (ci j : Nat) : Bool := (ax_fins.getD ci []).getD j true
def ax_getf (c k a : Nat) (r : List Value) (h : ax_H) : Option (List Value) := match ax_fld c k with
  | some q => (match h a with
    | .inr (ci, fs) => if ci = q.1 then (match fs[q.2]? with
      | some v => some (v :: r)
      | none => none) else none
    | .inl _ => none)
  | none => none
def ax_putf (c : Nat) (ini : Bool) (k a : Nat) (v : Value) (h : ax_H) : Option ax_H := match ax_fld c k with
  | some q => (match h a with
    | .inr (ci, fs) => if ci = q.1 ∧ ci < 11 ∧ q.2 < fs.length ∧ 20 ≤ a ∧ narrow (ax_fty q.1 q.2) v = v ∧ fits (ax_fty q.1 q.2) v = true ∧ (ax_fin q.1 q.2 = false ∨ (ini = true ∧ q.1 = c)) then some (ax_up h a (.inr (ci, fs.set q.2 v))) else none
    | .inl _ => none)
  | none => none
/-- the heap -/
def ax_hp (c : Nat) (ini : Bool) (i : Instr) (st : List Value) (n : Nat) (h : ax_H) : Option (List Value × Nat × ax_H) := match i with
  | .getfield k => match st with
    | .ref a :: r => (ax_getf c k a r h).map (fun s => (s, n, h))
    | _ => none
  | .putfield k => match st with
    | v :: .ref a :: r => (ax_putf c ini k a v h).map (fun h1 => (r, n, h1))
    | _ => none
  | .getstatic k => (ax_sta c k).map (fun v => (v :: st, n, h))
  | .ldc k => match ax_csi c k with
    | some v => some (.int v :: st, n, h)
    | none => (ax_str c k).map (fun a => (.ref a :: st, n, h))
  | .ldc_w k => (ax_csi c k).map (fun v => (.int v :: st, n, h))
  | .ldc2_w k => (ax_csl c k).map (fun v => (.long v :: st, n, h))
  | .arraylength => match st with
    | .ref a :: r => (match h a with
      | .inl (_, len, _) => some (.int (nI len) :: r, n, h)
      | .inr _ => none)
    | _ => none
  | .iaload => match st with
    | .int x :: .ref a :: r => (match h a with
      | .inl (t, len, f) => if t = 0 ∧ ¬ (x < 0 ∨ len ≤ x.toNatClampNeg) then some (.int (f x.toNatClampNeg) :: r, n, h) else none
      | .inr _ => none)
    | _ => none
  | .baload => match st with
    | .int x :: .ref a :: r => (match h a with
      | .inl (t, len, f) => if (t = 1 ∨ t = 2) ∧ ¬ (x < 0 ∨ len ≤ x.toNatClampNeg) then some (.int (f x.toNatClampNeg) :: r, n, h) else none
      | .inr _ => none)
    | _ => none
  | .iastore => match st with
    | .int v :: .int x :: .ref a :: r => (match h a with
      | .inl (t, len, f) => if t = 0 ∧ 20 ≤ a ∧ ¬ (x < 0 ∨ len ≤ x.toNatClampNeg) then some (r, n, ax_up h a (.inl (0, len, upd f x.toNatClampNeg v))) else none
      | .inr _ => none)
    | _ => none
  | .bastore => match st with
    | .int v :: .int x :: .ref a :: r => (match h a with
      | .inl (t, len, f) => if t = 1 ∧ 20 ≤ a ∧ (v = 0 ∨ v = 1) ∧ ¬ (x < 0 ∨ len ≤ x.toNatClampNeg) then some (r, n, ax_up h a (.inl (1, len, upd f x.toNatClampNeg v))) else none
      | .inr _ => none)
    | _ => none
  | .newarray ty => match st with
    | .int x :: r => if (ty = .int ∨ ty = .boolean) ∧ ¬ x < 0 ∧ x.toNatClampNeg ≤ 400 then some (.ref (n + 20) :: r, n + 1, ax_up h (n + 20) (.inl (if ty = .int then 0 else 1, x.toNatClampNeg, fun _ => 0))) else none
    | _ => none
  | .new k => (ax_cls c k).map (fun ci => (.ref (n + 20) :: st, n + 1, ax_up h (n + 20) (.inr (ci, ax_news.getD ci []))))
  | _ => none
/-- as many values off the stack, the first below -/
def ax_pop : Nat → List Value → List Value → Option (List Value × List Value)
  | 0, as, st => some (as, st)
  | k + 1, as, v :: st => ax_pop k (v :: as) st
  | _ + 1, _, [] => none
def ax_spread : List Value → List Value
  | [] => []
  | v :: l => if v.category = 2 then v :: ax_dm :: ax_spread l else v :: ax_spread l
/-- the locals at a method's entry -/
def ax_ent (z : Nat) (as : List Value) : List Value := ax_spread as ++ List.replicate (ax_ml z - (ax_spread as).length) ax_dm
/-- a call: the method, its arguments, what stays on the stack -/
def ax_cv (c : Nat) (i : Instr) (st : List Value) (h : ax_H) : Option (Nat × List Value × List Value) := match i with
  | .invokestatic k => (match ax_mth c k with
    | some z => if z < 226 ∧ ax_sc z = true then (match ax_pop (ax_np z) [] st with
      | some (as, r) => if r.length ≤ 4 ∧ (ax_spread as).length ≤ ax_ml z then some (z, as, r) else none
      | none => none) else none
    | none => none)
  | .invokevirtual k => (match ax_mth c k with
    | some z => if z < 226 ∧ ax_sc z = false ∧ ¬ (ax_nm z).name = "<init>" then (match ax_pop (ax_np z) [] st with
      | some (as, .ref b :: r) => (match h b with
        | .inr (ci, _) => if ci = ax_cl z ∧ r.length ≤ 4 ∧ (ax_spread (.ref b :: as)).length ≤ ax_ml z then some (z, .ref b :: as, r) else none
        | .inl _ => none)
      | _ => none) else none
    | none => none)
  | .invokespecial k => (match ax_mth c k with
    | some z => if z < 226 ∧ ax_sc z = false ∧ (ax_nm z).name = "<init>" then (match ax_pop (ax_np z) [] st with
      | some (as, .ref b :: r) => if r.length ≤ 4 ∧ (ax_spread (.ref b :: as)).length ≤ ax_ml z then some (z, .ref b :: as, r) else none
      | _ => none) else none
    | none => none)
  | _ => none
/-- Object's constructor, System.arraycopy -/
def ax_nv (c : Nat) (i : Instr) (st : List Value) (h : ax_H) : Option (List Value × ax_H) := match i with
  | .invokespecial k => if ax_mth c k = some 900 then (match st with
    | .ref _ :: r => if r.length ≤ 4 then some (r, h) else none
    | _ => none) else none
  | .invokestatic k => if ax_mth c k = some 901 then (match st with
    | .int m :: .int dp :: .ref a :: .int sp :: .ref a0 :: r => (match h a0, h a with
      | .inl (t0, n0, f), .inl (t1, n1, g) => if t0 = 0 ∧ t1 = 0 ∧ 20 ≤ a0 ∧ 20 ≤ a ∧ r.length ≤ 4 ∧ ¬ sp < 0 ∧ ¬ dp < 0 ∧ ¬ m < 0 ∧ sp.toNatClampNeg + m.toNatClampNeg ≤ n0 ∧ dp.toNatClampNeg + m.toNatClampNeg ≤ n1 then some (r, ax_up h a (.inl (0, n1, va_cpy f g sp.toNatClampNeg dp.toNatClampNeg m.toNatClampNeg))) else none
      | _, _ => none)
    | _ => none) else (if ax_mth c k = some 902 then (match st with
    | .int y :: .int x :: r => if r.length ≤ 4 then some (.int (if x < y then y else x) :: r, h) else none
    | _ => none) else (if ax_mth c k = some 903 then (match st with
    | .int y :: .int x :: r => if r.length ≤ 4 then some (.int (if y < x then y else x) :: r, h) else none
    | _ => none) else (if ax_mth c k = some 904 then (match st with
    | .int x :: r => if r.length ≤ 4 then some (.int (if 0 ≤ x then x else 0 - x) :: r, h) else none
    | _ => none) else none)))
  | _ => none
/-- the end of a method -/
def ax_rv (y : Nat) (i : Instr) (st : List Value) : Option (Option Value) := match i with
  | .ireturn => match st with
    | [.int v] => (match ax_rt y with
      | some ty => if narrow ty (.int v) = .int v then some (some (.int v)) else none
      | none => none)
    | _ => none
  | .lreturn => match st with
    | [.long v] => if ax_rt y = some .long then some (some (.long v)) else none
    | _ => none
  | .areturn => match st with
    | [.ref a] => (match ax_rt y with
      | some (.object _) => some (some (.ref a))
      | _ => none)
    | _ => none
  | .return_ => match st with
    | [] => if ax_rt y = none then some none else none
    | _ => none
  | _ => none
def ax_ini (y : Nat) : Bool := decide ((ax_nm y).name = "<init>")
def ax_run : Nat → Nat → Nat → Nat → List Value → List Value → Nat → ax_H → Option ax_R
  | 0, _, _, _, _, _, _, _ => none
  | g + 1, d, y, pc, lc, st, n, h => match ax_at y pc with
    | none => none
    | some i => match ax_st i st with
      | some st1 => ax_run g d y (pc + ax_len i) lc st1 n h
      | none => match ax_lc i lc st with
        | some q => ax_run g d y (pc + ax_len i) q.1 q.2 n h
        | none => match ax_br i pc st with
          | some q => ax_run g d y q.1 lc q.2 n h
          | none => match ax_hp (ax_cl y) (ax_ini y) i st n h with
            | some q => ax_run g d y (pc + ax_len i) lc q.1 q.2.1 q.2.2
            | none => match ax_cv (ax_cl y) i st h with
              | some q => (match d with
                | 0 => none
                | d + 1 => (match ax_run g d q.1 0 (ax_ent q.1 q.2.1) [] n h with
                  | none => none
                  | some o => ax_run g (d + 1) y (pc + 3) lc (o.1.toList ++ q.2.2) o.2.1 o.2.2))
              | none => match ax_nv (ax_cl y) i st h with
                | some q => if d = 0 then none else ax_run g d y (pc + 3) lc q.1 n q.2
                | none => (ax_rv y i st).map (fun v => (v, n, h))
/-- it comes to an end, with Q -/
def ax_W (d y pc : Nat) (lc st : List Value) (n : Nat) (h : ax_H) (Q : Option Value → Nat → ax_H → Prop) : Prop := ∃ (g : Nat) (o : ax_R), ax_run g d y pc lc st n h = some o ∧ Q o.1 o.2.1 o.2.2
end
section
/-! ===== the small machine, step by step ===== -/
theorem ax_run_st {g d y pc : Nat} {lc st st1 : List Value} {n : Nat} {h : ax_H} {i : Instr} (ha : ax_at y pc = some i) (h1 : ax_st i st = some st1) : ax_run (g + 1) d y pc lc st n h = ax_run g d y (pc + ax_len i) lc st1 n h := by
  rw [ax_run, ha]; simp only [h1]
theorem ax_run_lc {g d y pc : Nat} {lc st : List Value} {q : List Value × List Value} {n : Nat} {h : ax_H} {i : Instr} (ha : ax_at y pc = some i) (h0 : ax_st i st = none) (h1 : ax_lc i lc st = some q) : ax_run (g + 1) d y pc lc st n h = ax_run g d y (pc + ax_len i) q.1 q.2 n h := by
  rw [ax_run, ha]; simp only [h0, h1]
theorem ax_run_br {g d y pc : Nat} {lc st : List Value} {q : Nat × List Value} {n : Nat} {h : ax_H} {i : Instr} (ha : ax_at y pc = some i) (h0 : ax_st i st = none) (h2 : ax_lc i lc st = none) (h1 : ax_br i pc st = some q) : ax_run (g + 1) d y pc lc st n h = ax_run g d y q.1 lc q.2 n h := by
  rw [ax_run, ha]; simp only [h0, h2, h1]
theorem ax_run_hp {g d y pc : Nat} {lc st : List Value} {q : List Value × Nat × ax_H} {n : Nat} {h : ax_H} {i : Instr} (ha : ax_at y pc = some i) (h0 : ax_st i st = none) (h2 : ax_lc i lc st = none) (h3 : ax_br i pc st = none) (h1 : ax_hp (ax_cl y) (ax_ini y) i st n h = some q) : ax_run (g + 1) d y pc lc st n h = ax_run g d y (pc + ax_len i) lc q.1 q.2.1 q.2.2 := by
  rw [ax_run, ha]; simp only [h0, h2, h3, h1]
theorem ax_run_cv {g d y pc : Nat} {lc st : List Value} {q : Nat × List Value × List Value} {n : Nat} {h : ax_H} {i : Instr} (ha : ax_at y pc = some i) (h0 : ax_st i st = none) (h2 : ax_lc i lc st = none) (h3 : ax_br i pc st = none) (h4 : ax_hp (ax_cl y) (ax_ini y) i st n h = none) (h1 : ax_cv (ax_cl y) i st h = some q) :
    ax_run (g + 1) (d + 1) y pc lc st n h = (match ax_run g d q.1 0 (ax_ent q.1 q.2.1) [] n h with
      | none => none
      | some o => ax_run g (d + 1) y (pc + 3) lc (o.1.toList ++ q.2.2) o.2.1 o.2.2) := by
  rw [ax_run, ha]; simp only [h0, h2, h3, h4, h1]; cases ax_run g d q.1 0 (ax_ent q.1 q.2.1) [] n h <;> rfl
theorem ax_run_nv {g d y pc : Nat} {lc st : List Value} {q : List Value × ax_H} {n : Nat} {h : ax_H} {i : Instr} (ha : ax_at y pc = some i) (h0 : ax_st i st = none) (h2 : ax_lc i lc st = none) (h3 : ax_br i pc st = none) (h4 : ax_hp (ax_cl y) (ax_ini y) i st n h = none) (h5 : ax_cv (ax_cl y) i st h = none) (h1 : ax_nv (ax_cl y) i st h = some q) :
    ax_run (g + 1) (d + 1) y pc lc st n h = ax_run g (d + 1) y (pc + 3) lc q.1 n q.2 := by
  rw [ax_run, ha]; simp only [h0, h2, h3, h4, h5, h1]; rfl
theorem ax_run_rv {g d y pc : Nat} {lc st : List Value} {v : Option Value} {n : Nat} {h : ax_H} {i : Instr} (ha : ax_at y pc = some i) (h0 : ax_st i st = none) (h2 : ax_lc i lc st = none) (h3 : ax_br i pc st = none) (h4 : ax_hp (ax_cl y) (ax_ini y) i st n h = none) (h5 : ax_cv (ax_cl y) i st h = none) (h6 : ax_nv (ax_cl y) i st h = none) (h1 : ax_rv y i st = some v) :
    ax_run (g + 1) d y pc lc st n h = some (v, n, h) := by
  rw [ax_run, ha]; simp only [h0, h2, h3, h4, h5, h6, h1]; rfl
/-- what a step may be -/
theorem ax_run_inv {g d y pc : Nat} {lc st : List Value} {n : Nat} {h : ax_H} {o : ax_R} (hr : ax_run (g + 1) d y pc lc st n h = some o) : ∃ i, ax_at y pc = some i ∧
    ((∃ st1, ax_st i st = some st1 ∧ ax_run g d y (pc + ax_len i) lc st1 n h = some o) ∨
     (ax_st i st = none ∧ ∃ q, ax_lc i lc st = some q ∧ ax_run g d y (pc + ax_len i) q.1 q.2 n h = some o) ∨
     (ax_st i st = none ∧ ax_lc i lc st = none ∧ ∃ q, ax_br i pc st = some q ∧ ax_run g d y q.1 lc q.2 n h = some o) ∨
     (ax_st i st = none ∧ ax_lc i lc st = none ∧ ax_br i pc st = none ∧ ∃ q, ax_hp (ax_cl y) (ax_ini y) i st n h = some q ∧ ax_run g d y (pc + ax_len i) lc q.1 q.2.1 q.2.2 = some o) ∨
     (ax_st i st = none ∧ ax_lc i lc st = none ∧ ax_br i pc st = none ∧ ax_hp (ax_cl y) (ax_ini y) i st n h = none ∧ ∃ q d1 o1, d = d1 + 1 ∧ ax_cv (ax_cl y) i st h = some q ∧ ax_run g d1 q.1 0 (ax_ent q.1 q.2.1) [] n h = some o1 ∧ ax_run g d y (pc + 3) lc (o1.1.toList ++ q.2.2) o1.2.1 o1.2.2 = some o) ∨
     (ax_st i st = none ∧ ax_lc i lc st = none ∧ ax_br i pc st = none ∧ ax_hp (ax_cl y) (ax_ini y) i st n h = none ∧ ax_cv (ax_cl y) i st h = none ∧ ∃ q d1, d = d1 + 1 ∧ ax_nv (ax_cl y) i st h = some q ∧ ax_run g d y (pc + 3) lc q.1 n q.2 = some o) ∨
     (ax_st i st = none ∧ ax_lc i lc st = none ∧ ax_br i pc st = none ∧ ax_hp (ax_cl y) (ax_ini y) i st n h = none ∧ ax_cv (ax_cl y) i st h = none ∧ ax_nv (ax_cl y) i st h = none ∧ ∃ v, ax_rv y i st = some v ∧ o = (v, n, h))) := by
  cases ha : ax_at y pc with
  | none => rw [ax_run, ha] at hr; simp at hr
  | some i =>
    refine ⟨i, rfl, ?_⟩
    cases h0 : ax_st i st with
    | some st1 => rw [ax_run_st ha h0] at hr; exact Or.inl ⟨st1, rfl, hr⟩
    | none =>
    refine Or.inr ?_
    cases h1 : ax_lc i lc st with
    | some q => rw [ax_run_lc ha h0 h1] at hr; exact Or.inl ⟨rfl, q, rfl, hr⟩
    | none =>
    refine Or.inr ?_
    cases h2 : ax_br i pc st with
    | some q => rw [ax_run_br ha h0 h1 h2] at hr; exact Or.inl ⟨rfl, rfl, q, rfl, hr⟩
    | none =>
    refine Or.inr ?_
    cases h3 : ax_hp (ax_cl y) (ax_ini y) i st n h with
    | some q => rw [ax_run_hp ha h0 h1 h2 h3] at hr; exact Or.inl ⟨rfl, rfl, rfl, q, rfl, hr⟩
    | none =>
    refine Or.inr ?_
    cases h4 : ax_cv (ax_cl y) i st h with
    | some q =>
      refine Or.inl ⟨rfl, rfl, rfl, rfl, q, ?_⟩
      cases d with
      | zero => rw [ax_run, ha] at hr; simp only [h0, h1, h2, h3, h4] at hr; simp at hr
      | succ d1 =>
        rw [ax_run_cv ha h0 h1 h2 h3 h4] at hr
        cases h5 : ax_run g d1 q.1 0 (ax_ent q.1 q.2.1) [] n h with
        | none => rw [h5] at hr; simp at hr
        | some o1 => rw [h5] at hr; exact ⟨d1, o1, rfl, rfl, h5, hr⟩
    | none =>
    refine Or.inr ?_
    cases h5 : ax_nv (ax_cl y) i st h with
    | some q =>
      refine Or.inl ⟨rfl, rfl, rfl, rfl, rfl, q, ?_⟩
      cases d with
      | zero => rw [ax_run, ha] at hr; simp only [h0, h1, h2, h3, h4, h5] at hr; simp at hr
      | succ d1 => rw [ax_run_nv ha h0 h1 h2 h3 h4 h5] at hr; exact ⟨d1, rfl, rfl, hr⟩
    | none =>
    refine Or.inr ⟨rfl, rfl, rfl, rfl, rfl, rfl, ?_⟩
    cases h6 : ax_rv y i st with
    | none => rw [ax_run, ha] at hr; simp only [h0, h1, h2, h3, h4, h5, h6] at hr; simp at hr
    | some v => rw [ax_run_rv ha h0 h1 h2 h3 h4 h5 h6] at hr; exact ⟨v, rfl, (Option.some.inj hr).symm⟩
theorem ax_mono : ∀ (g : Nat) (d y pc : Nat) (lc st : List Value) (n : Nat) (h : ax_H) (o : ax_R), ax_run g d y pc lc st n h = some o → ax_run (g + 1) d y pc lc st n h = some o := by
  intro g
  induction g with
  | zero => intro d y pc lc st n h o hr; rw [ax_run] at hr; cases hr
  | succ g ih =>
    intro d y pc lc st n h o hr
    obtain ⟨i, ha, hc⟩ := ax_run_inv hr
    rcases hc with ⟨st1, h1, hr⟩ | ⟨h0, q, h1, hr⟩ | ⟨h0, h1, q, h2, hr⟩ | ⟨h0, h1, h2, q, h3, hr⟩ | ⟨h0, h1, h2, h3, q, d1, o1, rfl, h4, hr1, hr⟩ | ⟨h0, h1, h2, h3, h4, q, d1, rfl, h5, hr⟩ | ⟨h0, h1, h2, h3, h4, h5, v, h6, rfl⟩
    · rw [ax_run_st ha h1]; exact ih _ _ _ _ _ _ _ _ hr
    · rw [ax_run_lc ha h0 h1]; exact ih _ _ _ _ _ _ _ _ hr
    · rw [ax_run_br ha h0 h1 h2]; exact ih _ _ _ _ _ _ _ _ hr
    · rw [ax_run_hp ha h0 h1 h2 h3]; exact ih _ _ _ _ _ _ _ _ hr
    · rw [ax_run_cv ha h0 h1 h2 h3 h4, ih _ _ _ _ _ _ _ _ hr1]; exact ih _ _ _ _ _ _ _ _ hr
    · rw [ax_run_nv ha h0 h1 h2 h3 h4 h5]; exact ih _ _ _ _ _ _ _ _ hr
    · exact ax_run_rv ha h0 h1 h2 h3 h4 h5 h6
theorem ax_monoN {g k : Nat} (hk : g ≤ k) {d y pc : Nat} {lc st : List Value} {n : Nat} {h : ax_H} {o : ax_R} (hr : ax_run g d y pc lc st n h = some o) : ax_run k d y pc lc st n h = some o := by
  induction hk with
  | refl => exact hr
  | step _ ih => exact ax_mono _ _ _ _ _ _ _ _ _ ih
theorem ax_hp_n {c : Nat} {ini : Bool} {i : Instr} {st : List Value} {n : Nat} {h : ax_H} {q : List Value × Nat × ax_H} (hh : ax_hp c ini i st n h = some q) : q.2.1 = n ∨ q.2.1 = n + 1 := by
  unfold ax_hp at hh
  split at hh <;> (try split at hh) <;> (try split at hh) <;> (try split at hh) <;> (try simp only [Option.map_eq_some_iff] at hh) <;> first
    | (obtain ⟨x, -, rfl⟩ := hh; first | exact Or.inl rfl | exact Or.inr rfl)
    | (cases hh <;> first | exact Or.inl rfl | exact Or.inr rfl)
theorem ax_grow : ∀ (g : Nat) (d y pc : Nat) (lc st : List Value) (n : Nat) (h : ax_H) (o : ax_R), ax_run g d y pc lc st n h = some o → n ≤ o.2.1 := by
  intro g
  induction g with
  | zero => intro d y pc lc st n h o hr; rw [ax_run] at hr; cases hr
  | succ g ih =>
    intro d y pc lc st n h o hr
    obtain ⟨i, ha, hc⟩ := ax_run_inv hr
    rcases hc with ⟨st1, h1, hr⟩ | ⟨h0, q, h1, hr⟩ | ⟨h0, h1, q, h2, hr⟩ | ⟨h0, h1, h2, q, h3, hr⟩ | ⟨h0, h1, h2, h3, q, d1, o1, rfl, h4, hr1, hr⟩ | ⟨h0, h1, h2, h3, h4, q, d1, rfl, h5, hr⟩ | ⟨h0, h1, h2, h3, h4, h5, v, h6, rfl⟩
    · exact ih _ _ _ _ _ _ _ _ hr
    · exact ih _ _ _ _ _ _ _ _ hr
    · exact ih _ _ _ _ _ _ _ _ hr
    · have := ih _ _ _ _ _ _ _ _ hr
      rcases ax_hp_n h3 with e | e <;> omega
    · exact Nat.le_trans (ih _ _ _ _ _ _ _ _ hr1) (ih _ _ _ _ _ _ _ _ hr)
    · exact ih _ _ _ _ _ _ _ _ hr
    · exact Nat.le_refl _
/-! ===== the steps as equations of ax_W ===== -/
theorem ax_W_of {d y pc d2 y2 pc2 : Nat} {lc st lc2 st2 : List Value} {n n2 : Nat} {h h2 : ax_H} {Q : Option Value → Nat → ax_H → Prop} (hs : ∀ g, ax_run (g + 1) d y pc lc st n h = ax_run g d2 y2 pc2 lc2 st2 n2 h2) : ax_W d y pc lc st n h Q = ax_W d2 y2 pc2 lc2 st2 n2 h2 Q := by
  apply propext
  constructor
  · rintro ⟨g, o, hr, hq⟩
    cases g with
    | zero => rw [ax_run] at hr; cases hr
    | succ g => exact ⟨g, o, by rw [← hs]; exact hr, hq⟩
  · rintro ⟨g, o, hr, hq⟩
    exact ⟨g + 1, o, by rw [hs]; exact hr, hq⟩
theorem ax_W_if {c : Prop} [Decidable c] {d y a b : Nat} {lc st : List Value} {n : Nat} {h : ax_H} {Q : Option Value → Nat → ax_H → Prop} : ax_W d y (if c then a else b) lc st n h Q = ((c → ax_W d y a lc st n h Q) ∧ (¬ c → ax_W d y b lc st n h Q)) := by
  by_cases hc : c
  · simp [hc]
  · simp [hc]
section AxEq
variable {d y pc : Nat} {lc st r : List Value} {n : Nat} {h : ax_H} {Q : Option Value → Nat → ax_H → Prop} {i : Instr}
theorem e_st (st1 : List Value) (pc1 : Nat) (ha : ax_at y pc = some i) (h1 : ax_st i st = some st1) (hp : pc + ax_len i = pc1) : ax_W d y pc lc st n h Q = ax_W d y pc1 lc st1 n h Q := by
  subst hp; exact ax_W_of (fun g => ax_run_st ha h1)
theorem e_lc (lc1 st1 : List Value) (pc1 : Nat) (ha : ax_at y pc = some i) (h0 : ax_st i st = none) (h1 : ax_lc i lc st = some (lc1, st1)) (hp : pc + ax_len i = pc1) : ax_W d y pc lc st n h Q = ax_W d y pc1 lc1 st1 n h Q := by
  subst hp; exact ax_W_of (fun g => ax_run_lc ha h0 h1)
theorem e_br (st1 : List Value) (pc1 : Nat) (ha : ax_at y pc = some i) (h0 : ax_st i st = none) (h2 : ax_lc i lc st = none) (h1 : ax_br i pc st = some (pc1, st1)) : ax_W d y pc lc st n h Q = ax_W d y pc1 lc st1 n h Q := ax_W_of (fun g => ax_run_br ha h0 h2 h1)
theorem e_if {c : Prop} [Decidable c] (st1 : List Value) (a b : Nat) (ha : ax_at y pc = some i) (h0 : ax_st i st = none) (h2 : ax_lc i lc st = none) (h1 : ax_br i pc st = some (if c then a else b, st1)) : ax_W d y pc lc st n h Q = ((c → ax_W d y a lc st1 n h Q) ∧ (¬ c → ax_W d y b lc st1 n h Q)) := by
  rw [e_br st1 _ ha h0 h2 h1, ax_W_if]
theorem e_hp (st1 : List Value) (n1 : Nat) (h1 : ax_H) (pc1 : Nat) (ha : ax_at y pc = some i) (h0 : ax_st i st = none) (h2 : ax_lc i lc st = none) (h3 : ax_br i pc st = none) (h4 : ax_hp (ax_cl y) (ax_ini y) i st n h = some (st1, n1, h1)) (hp : pc + ax_len i = pc1) : ax_W d y pc lc st n h Q = ax_W d y pc1 lc st1 n1 h1 Q := by
  subst hp; exact ax_W_of (fun g => ax_run_hp ha h0 h2 h3 h4)
theorem e_cv (z : Nat) (as lc1 : List Value) (pc1 : Nat) (ha : ax_at y pc = some i) (h0 : ax_st i st = none) (h2 : ax_lc i lc st = none) (h3 : ax_br i pc st = none) (h4 : ax_hp (ax_cl y) (ax_ini y) i st n h = none) (h5 : ax_cv (ax_cl y) i st h = some (z, as, r)) (he : ax_ent z as = lc1) (hp : pc + 3 = pc1) :
    ax_W (d + 1) y pc lc st n h Q = ax_W d z 0 lc1 [] n h (fun v n1 h1 => ax_W (d + 1) y pc1 lc (v.toList ++ r) n1 h1 Q) := by
  subst hp; subst he
  apply propext
  constructor
  · rintro ⟨g, o, hr, hq⟩
    cases g with
    | zero => rw [ax_run] at hr; cases hr
    | succ g =>
      rw [ax_run_cv ha h0 h2 h3 h4 h5] at hr
      cases h6 : ax_run g d z 0 (ax_ent z as) [] n h with
      | none => rw [h6] at hr; cases hr
      | some o1 => rw [h6] at hr; exact ⟨g, o1, h6, g, o, hr, hq⟩
  · rintro ⟨g, o1, h6, g2, o, hr, hq⟩
    refine ⟨(g + g2) + 1, o, ?_, hq⟩
    rw [ax_run_cv ha h0 h2 h3 h4 h5]
    dsimp only
    rw [ax_monoN (Nat.le_add_right g g2) h6]
    exact ax_monoN (Nat.le_add_left g2 g) hr
theorem e_nv (st1 : List Value) (h1 : ax_H) (pc1 : Nat) (ha : ax_at y pc = some i) (h0 : ax_st i st = none) (h2 : ax_lc i lc st = none) (h3 : ax_br i pc st = none) (h4 : ax_hp (ax_cl y) (ax_ini y) i st n h = none) (h5 : ax_cv (ax_cl y) i st h = none) (h6 : ax_nv (ax_cl y) i st h = some (st1, h1)) (hp : pc + 3 = pc1) : ax_W (d + 1) y pc lc st n h Q = ax_W (d + 1) y pc1 lc st1 n h1 Q := by
  subst hp; exact ax_W_of (fun g => ax_run_nv ha h0 h2 h3 h4 h5 h6)
theorem e_rv (v : Option Value) (ha : ax_at y pc = some i) (h0 : ax_st i st = none) (h2 : ax_lc i lc st = none) (h3 : ax_br i pc st = none) (h4 : ax_hp (ax_cl y) (ax_ini y) i st n h = none) (h5 : ax_cv (ax_cl y) i st h = none) (h6 : ax_nv (ax_cl y) i st h = none) (h7 : ax_rv y i st = some v) : ax_W d y pc lc st n h Q = Q v n h := by
  apply propext
  constructor
  · rintro ⟨g, o, hr, hq⟩
    cases g with
    | zero => rw [ax_run] at hr; cases hr
    | succ g => rw [ax_run_rv ha h0 h2 h3 h4 h5 h6 h7] at hr; cases hr; exact hq
  · intro hq
    exact ⟨1, (v, n, h), ax_run_rv ha h0 h2 h3 h4 h5 h6 h7, hq⟩
end AxEq
theorem ax_W_mono {d y pc : Nat} {lc st : List Value} {n : Nat} {h : ax_H} {Q Q2 : Option Value → Nat → ax_H → Prop} (k : ax_W d y pc lc st n h Q) (hq : ∀ v n1 h1, Q v n1 h1 → Q2 v n1 h1) : ax_W d y pc lc st n h Q2 := by
  obtain ⟨g, o, a, b⟩ := k
  exact ⟨g, o, a, hq _ _ _ b⟩
end
section
def ax_G : List Cond := lw_tbl.filter goodWord
def ax_isN : Cond → Bool
  | .fieldLinkNest _ _ _ _ _ _ => true
  | .methodLinkNest _ _ _ _ => true
  | _ => false
def ax_N : List Cond := lw_tbl.filter ax_isN
theorem ax_inG {w : Cond} (h : w ∈ tables_1) (hg : goodWord w = true) : w ∈ ax_G := List.mem_filter.mpr ⟨List.mem_append_right _ h, hg⟩
theorem ax_inN {w : Cond} (h : w ∈ tables_1) (hg : ax_isN w = true) : w ∈ ax_N := List.mem_filter.mpr ⟨List.mem_append_right _ h, hg⟩
theorem ax_in1 {w : Cond} (i : Nat) (h : tables_1_1[i]? = some w) : w ∈ tables_1 := List.mem_append_left _ (List.mem_of_getElem? h)
theorem ax_in2 {w : Cond} (i : Nat) (h : tables_1_2[i]? = some w) : w ∈ tables_1 := List.mem_append_right _ (List.mem_append_left _ (List.mem_of_getElem? h))
theorem ax_in3 {w : Cond} (i : Nat) (h : tables_1_3[i]? = some w) : w ∈ tables_1 := List.mem_append_right _ (List.mem_append_right _ (List.mem_append_left _ (List.mem_of_getElem? h)))
theorem ax_in4 {w : Cond} (i : Nat) (h : tables_1_4[i]? = some w) : w ∈ tables_1 := List.mem_append_right _ (List.mem_append_right _ (List.mem_append_right _ (List.mem_append_left _ (List.mem_of_getElem? h))))
theorem ax_in5 {w : Cond} (i : Nat) (h : tables_1_5[i]? = some w) : w ∈ tables_1 := List.mem_append_right _ (List.mem_append_right _ (List.mem_append_right _ (List.mem_append_right _ (List.mem_append_left _ (List.mem_of_getElem? h)))))
theorem ax_in6 {w : Cond} (i : Nat) (h : tables_1_6[i]? = some w) : w ∈ tables_1 := List.mem_append_right _ (List.mem_append_right _ (List.mem_append_right _ (List.mem_append_right _ (List.mem_append_right _ (List.mem_of_getElem? h)))))
def ax_isW (i : Nat) (w : Cond) : Bool := decide (tables_1[i]? = some w)
theorem ax_isW_mem {i : Nat} {w : Cond} (h : ax_isW i w = true) : w ∈ tables_1 := List.mem_of_getElem? (of_decide_eq_true h)
def ax_cn (c : Nat) : String := ax_cns.getD c ""
def ax_TT (ci : Nat) : u_T := (vwCl.getD ci (RX0, TX0, 7)).2.1
def ax_NN (ci : Nat) : Nat := (vwCl.getD ci (RX0, TX0, 7)).2.2
def ax_fd (ci j : Nat) : String × String × String × Bool := if ci = 12 then (if j = 0 then ("java/lang/String", "value", "[B", true) else ("java/lang/String", "coder", "B", true)) else ax_TT ci j
def ax_fw (q : Nat × Nat × Nat × Nat × Bool × Nat) : Cond := if q.2.2.2.2.1 then .fieldLinkNest (ax_cn q.1) q.2.1 (ax_fd q.2.2.1 q.2.2.2.1).1 (ax_fd q.2.2.1 q.2.2.2.1).2.1 (ax_fd q.2.2.1 q.2.2.2.1).2.2.1 "DinnerPleas" else .fieldLink (ax_cn q.1) q.2.1 (ax_fd q.2.2.1 q.2.2.2.1).1 (ax_fd q.2.2.1 q.2.2.2.1).2.1 (ax_fd q.2.2.1 q.2.2.2.1).2.2.1
def ax_mn (z : Nat) : MethodName := if z = 900 then objectInit else if z = 901 then arraycopyName else if z = 902 then Lib.Math.max.name else if z = 903 then Lib.Math.min.name else if z = 904 then Lib.Math.abs.name else ax_nm z
def ax_mw (q : Nat × Nat × Nat × Bool × Nat) : Cond := if q.2.2.2.1 then .methodLinkNest (ax_cn q.1) q.2.1 (ax_mn q.2.2.1) "DinnerPleas" else .methodLink (ax_cn q.1) q.2.1 (ax_mn q.2.2.1)
def ax_sw (q : Nat × Nat × Value × String × String × String × Bool × Nat) : Cond := if q.2.2.2.2.2.2.1 then .fieldLinkNest (ax_cn q.1) q.2.1 q.2.2.2.1 q.2.2.2.2.1 q.2.2.2.2.2.1 "DinnerPleas" else .fieldLink (ax_cn q.1) q.2.1 q.2.2.2.1 q.2.2.2.2.1 q.2.2.2.2.2.1
theorem ax_fw_ok : ∀ q ∈ ax_flds, ax_isW q.2.2.2.2.2 (ax_fw q) = true ∧ (q.2.2.1 = 12 ∨ (q.2.2.1 < 11 ∧ q.2.2.2.1 < ax_NN q.2.2.1)) := by decide +kernel
theorem ax_mw_ok : ∀ q ∈ ax_mths, ax_isW q.2.2.2.2 (ax_mw q) = true := by decide +kernel
theorem ax_sw_ok : ∀ q ∈ ax_stas, ax_isW q.2.2.2.2.2.2.2 (ax_sw q) = true := by decide +kernel
theorem ax_ci_ok : ∀ q ∈ ax_csis, ax_isW q.2.2.2 (.constant (ax_cn q.1) q.2.1 q.2.2.1) = true := by decide +kernel
theorem ax_cl_ok : ∀ q ∈ ax_csls, ax_isW q.2.2.2 (.constantLong (ax_cn q.1) q.2.1 q.2.2.1) = true := by decide +kernel
theorem ax_nw_ok : ∀ q ∈ ax_clss, ax_isW q.2.2.2 (.classLink (ax_cn q.1) q.2.1 (ax_cn q.2.2.1)) = true ∧ q.2.2.1 < 11 := by decide +kernel
def ax_insi : List Nat := [28, 138, 94, 197, 181, 111, 34, 218, 158, 20, 925]
def ax_inii : List Nat := [2, 7, 5, 10, 9, 6, 3, 11, 8, 1, 12, 0, 13, 14, 18, 4, 15]
theorem ax_ins_ok : ∀ ci, ci < 11 → ax_isW (ax_insi.getD ci 0) (.instantiable (ax_cn ci) (ax_NN ci)) = true := by decide +kernel
theorem ax_ini_ok : ∀ c, c < 17 → ax_isW (ax_inii.getD c 0) (.initialized (ax_cn c)) = true := by decide +kernel
theorem ax_vw : ∀ ci, ci < 11 → (vwCl[ci]? = some (ax_cn ci, ax_TT ci, ax_NN ci)) := by
  intro ci h
  match ci, h with
  | 0, _ => rfl
  | 1, _ => rfl
  | 2, _ => rfl
  | 3, _ => rfl
  | 4, _ => rfl
  | 5, _ => rfl
  | 6, _ => rfl
  | 7, _ => rfl
  | 8, _ => rfl
  | 9, _ => rfl
  | 10, _ => rfl
def ax_lays : List (List Nat) := [[78, 80, 82, 84, 86, 88, 90], [148, 150, 152, 154], [103, 105], [208, 210, 212, 214], [189, 191, 193], [124, 126, 128, 130, 132, 134], [46, 48, 50, 52], [225, 227], [171, 173, 175, 177], [265, 267, 269, 271, 273, 275, 277, 279, 281, 283, 285, 287, 289, 291, 293, 295], [964, 966, 968, 970, 972, 974, 976, 978, 980, 982, 984, 986, 988, 990, 992, 994, 996, 998, 1000, 1002, 1004, 1006, 1008, 1010, 1012, 1014, 1016, 1018, 1020, 1022, 1024]]
theorem ax_lay_ok : ∀ ci, ci < 11 → ∀ j, j < ax_NN ci → ax_isW ((ax_lays.getD ci []).getD j 0) (u_lay (ax_cn ci) (ax_TT ci) j) = true := by decide +kernel
theorem ax_fty_ok : ∀ ci, ci < 11 → ∀ j, j < ax_NN ci → parseFieldDescriptor (ax_TT ci j).2.2.1 = some (ax_fty ci j) ∧ (ax_TT ci j).2.2.2 = ax_fin ci j ∧ (ax_TT ci j).1 = ax_cn ci := by decide +kernel
theorem ax_fnm_ok : ∀ ci, ci < 11 → ∀ a, a < ax_NN ci → ∀ b, b < ax_NN ci → a ≠ b → (ax_TT ci a).2.1 ≠ (ax_TT ci b).2.1 := by decide +kernel
theorem ax_new_ok : ∀ ci, ci < 11 → ∀ j, j < ax_NN ci → defaultValue (ax_fty ci j) = vp_V (ax_news.getD ci []) j ∧ (ax_news.getD ci []).length = ax_NN ci := by decide +kernel
theorem ax_newl_ok : ∀ ci, ci < 11 → (ax_news.getD ci []).length = ax_NN ci ∧ ax_NN ci ≤ 400 ∧ ∀ v ∈ ax_news.getD ci [], (v = .null ∨ v = .int 0 ∨ v = .long 0) := by decide +kernel
def ax_mks : List (Nat × Nat × Nat) := [(30, 0, 0), (231, 1, 232), (458, 1, 459), (474, 1, 475), (567, 1, 568), (483, 1, 484), (513, 1, 514), (521, 1, 522), (495, 1, 496), (491, 1, 492), (517, 1, 518), (508, 1, 509), (537, 1, 538), (747, 1, 748), (140, 0, 0), (592, 1, 593), (771, 1, 772), (603, 1, 604), (735, 1, 736), (715, 1, 716), (730, 1, 731), (852, 1, 853), (720, 2, 16), (96, 0, 0), (884, 1, 885), (875, 1, 876), (888, 1, 889), (199, 0, 0), (699, 1, 700), (703, 1, 704), (707, 1, 708), (674, 1, 675), (683, 2, 14), (690, 2, 15), (183, 0, 0), (657, 1, 658), (666, 1, 667), (630, 1, 631), (654, 2, 13), (639, 2, 10), (650, 2, 12), (645, 2, 11), (113, 0, 0), (355, 1, 356), (369, 2, 2), (426, 2, 4), (443, 2, 6), (450, 2, 7), (434, 2, 5), (374, 2, 3), (361, 2, 1), (365, 0, 0), (36, 0, 0), (310, 1, 311), (334, 1, 335), (246, 1, 247), (242, 1, 243), (235, 1, 236), (462, 1, 463), (914, 1, 915), (918, 1, 919), (220, 0, 0), (763, 1, 764), (793, 1, 794), (789, 1, 790), (775, 1, 776), (805, 1, 806), (780, 2, 18), (785, 2, 19), (160, 0, 0), (814, 1, 815), (619, 1, 620), (611, 1, 612), (579, 1, 580), (801, 1, 802), (767, 1, 768), (822, 1, 823), (828, 2, 20), (584, 2, 8), (599, 2, 9), (22, 0, 0), (299, 1, 300), (314, 1, 315), (327, 1, 328), (338, 1, 339), (342, 1, 343), (346, 1, 347), (351, 1, 352), (470, 1, 471), (533, 1, 534), (541, 1, 542), (548, 1, 549), (552, 1, 553), (556, 1, 557), (563, 1, 564), (571, 1, 572), (575, 1, 576), (615, 1, 616), (626, 1, 627), (662, 1, 663), (670, 1, 671), (711, 1, 712), (726, 1, 727), (740, 1, 741), (751, 1, 752), (755, 1, 756), (797, 1, 798), (810, 1, 811), (818, 1, 819), (847, 1, 848), (863, 1, 864), (867, 1, 868), (880, 1, 881), (892, 1, 893), (896, 1, 897), (905, 1, 906), (307, 2, 0), (901, 2, 23), (872, 2, 22), (760, 2, 17), (841, 2, 21), (303, 0, 0), (480, 0, 0), (331, 0, 0), (744, 0, 0), (318, 0, 0), (560, 0, 0), (525, 0, 0), (530, 0, 0), (499, 0, 0), (488, 0, 0), (910, 0, 0), (835, 0, 0), (844, 0, 0), (927, 0, 0), (1034, 0, 0), (1038, 2, 24), (1110, 2, 34), (1056, 2, 26), (931, 0, 0), (1042, 2, 25), (1079, 2, 27), (1082, 0, 0), (1050, 0, 0), (1106, 2, 33), (1029, 1, 1030), (1059, 0, 0), (1045, 1, 1046), (1062, 1, 1063), (1068, 1, 1069), (1090, 2, 29), (1086, 2, 28), (1130, 2, 39), (1126, 2, 38), (1122, 2, 37), (1118, 2, 36), (1114, 2, 35), (1098, 2, 31), (1102, 2, 32), (1094, 2, 30), (1154, 0, 0), (1074, 1, 1075), (1133, 1, 1134), (1137, 1, 1138), (1142, 1, 1143), (1146, 1, 1147), (1150, 1, 1151), (1157, 1, 1158), (1161, 1, 1162), (1174, 2, 41), (1170, 2, 40), (1165, 1, 1166), (1177, 1, 1178), (1190, 2, 43), (1195, 2, 44), (1199, 2, 45), (1186, 2, 42), (1181, 1, 1182), (1202, 1, 1203), (1215, 2, 47), (1219, 2, 48), (1211, 2, 46), (1206, 1, 1207), (1227, 2, 49), (1222, 1, 1223), (1230, 1, 1231), (1235, 1, 1236), (1239, 1, 1240), (1252, 2, 51), (1248, 2, 50), (1256, 2, 52), (1243, 1, 1244), (1259, 1, 1260), (1263, 1, 1264), (1273, 2, 53), (1267, 1, 1268), (1276, 1, 1277), (1286, 1, 1287), (1291, 1, 1292), (1303, 0, 0), (1308, 0, 0), (1300, 2, 54), (1322, 2, 57), (1318, 2, 56), (1326, 2, 58), (1314, 2, 55), (1334, 2, 60), (1338, 2, 61), (1330, 2, 59), (1295, 1, 1296), (1341, 1, 1342), (1345, 1, 1346), (1349, 1, 1350), (1353, 1, 1354), (1362, 2, 62), (1357, 1, 1358), (1372, 2, 63), (1365, 1, 1366), (502, 0, 0), (377, 1, 378), (387, 1, 388), (381, 1, 382), (391, 1, 392), (398, 0, 0), (395, 0, 0), (403, 0, 0)]
def ax_kw (z : Nat) : Cond := if ax_sc z then .static (ax_nm z) else .instanceMethod (ax_nm z)
theorem ax_mk1 : ∀ z, z < 226 → ax_isW (ax_mks.getD z (0, 0, 0)).1 (ax_kw z) = true := by decide +kernel
theorem ax_mk2 : ∀ z, z < 226 → (ax_nm z).cls = ax_cn (ax_cl z) ∧ ax_cl z < 17 ∧ ax_ml z ≤ 40 := by decide +kernel
theorem ax_mk3 : ∀ z, z < 226 → (parseMethodDescriptor (ax_nm z).desc).map (fun d => d.parameters.length) = some (ax_np z) := by decide +kernel
theorem ax_mk4 : ∀ z, z < 226 → _root_.Jvm.plainName (ax_nm z).cls = true := by decide +kernel
def ax_mkS (z : Nat) : Bool := match ax_mks.getD z (0, 0, 0) with
  | (_, b, e) => (if b = 0 then (ax_sc z || ax_ini z) else if b = 1 then ax_isW e (.selects (ax_nm z).cls (ax_nm z) (ax_nm z)) else decide ((k2_sels lw_privs)[e]? = some (Cond.selects (ax_nm z).cls (ax_nm z) (ax_nm z))))
theorem ax_mk5 : ∀ z, z < 226 → ax_mkS z = true := by decide +kernel
theorem ax_k0 : Cond.code yX0_init cX0_init 1 none ∈ tables_1 := ax_in1 31 rfl
theorem ax_k1 : Cond.code yX0_startAnew cX0_startAnew 3 none ∈ tables_1 := ax_in1 233 rfl
theorem ax_k2 : Cond.code yX0_takeFrom cX0_takeFrom 2 none ∈ tables_1 := ax_in2 220 rfl
theorem ax_k3 : Cond.code yX0_hasDish cX0_hasDish 2 (some .boolean) ∈ tables_1 := ax_in2 236 rfl
theorem ax_k4 : Cond.code yX0_isOnMenu cX0_isOnMenu 3 (some .boolean) ∈ tables_1 := ax_in3 89 rfl
theorem ax_k5 : Cond.code yX0_servedSet cX0_servedSet 3 (some .int) ∈ tables_1 := ax_in3 5 rfl
theorem ax_k6 : Cond.code yX0_lastDish cX0_lastDish 2 (some .int) ∈ tables_1 := ax_in3 35 rfl
theorem ax_k7 : Cond.code yX0_hungerBehind cX0_hungerBehind 2 (some .int) ∈ tables_1 := ax_in3 43 rfl
theorem ax_k8 : Cond.code yX0_isFree cX0_isFree 3 (some .boolean) ∈ tables_1 := ax_in3 17 rfl
theorem ax_k9 : Cond.code yX0_mayServe cX0_mayServe 5 (some .boolean) ∈ tables_1 := ax_in3 13 rfl
theorem ax_k10 : Cond.code yX0_does cX0_does 12 (some .int) ∈ tables_1 := ax_in3 39 rfl
theorem ax_k11 : Cond.code yX0_addCourse cX0_addCourse 5 (some .int) ∈ tables_1 := ax_in3 30 rfl
theorem ax_k12 : Cond.code yX0_dropCourse cX0_dropCourse 2 none ∈ tables_1 := ax_in3 59 rfl
theorem ax_k13 : Cond.code yX0_addReading cX0_addReading 5 (some .boolean) ∈ tables_1 := ax_in4 29 rfl
theorem ax_k14 : Cond.code yX1_init cX1_init 2 none ∈ tables_1 := ax_in1 141 rfl
theorem ax_k15 : Cond.code yX1_beginNow cX1_beginNow 1 none ∈ tables_1 := ax_in3 114 rfl
theorem ax_k16 : Cond.code yX1_beginFromNothing cX1_beginFromNothing 1 none ∈ tables_1 := ax_in4 53 rfl
theorem ax_k17 : Cond.code yX1_serveBy cX1_serveBy 4 (some .int) ∈ tables_1 := ax_in3 125 rfl
theorem ax_k18 : Cond.code yX1_verdictNow cX1_verdictNow 1 (some .int) ∈ tables_1 := ax_in4 17 rfl
theorem ax_k19 : Cond.code yX1_cancels cX1_cancels 3 (some .boolean) ∈ tables_1 := ax_in3 237 rfl
theorem ax_k20 : Cond.code yX1_overturns cX1_overturns 4 (some .boolean) ∈ tables_1 := ax_in4 12 rfl
theorem ax_k21 : Cond.code yX1_dineBy cX1_dineBy 6 (some .long) ∈ tables_1 := ax_in4 134 rfl
theorem ax_k22 : Cond.code yX1_staysBehind cX1_staysBehind 4 (some .boolean) ∈ tables_1 := ax_in4 1 rfl
theorem ax_k23 : Cond.code yX2_init cX2_init 1 none ∈ tables_1 := ax_in1 97 rfl
theorem ax_k24 : Cond.code yX2_isKept cX2_isKept 1 (some .boolean) ∈ tables_1 := ax_in4 166 rfl
theorem ax_k25 : Cond.code yX2_keep cX2_keep 2 none ∈ tables_1 := ax_in4 157 rfl
theorem ax_k26 : Cond.code yX2_giveTo cX2_giveTo 2 none ∈ tables_1 := ax_in4 170 rfl
theorem ax_k27 : Cond.code yX3_init cX3_init 2 none ∈ tables_1 := ax_in1 200 rfl
theorem ax_k28 : Cond.code yX3_spent cX3_spent 1 (some .int) ∈ tables_1 := ax_in3 221 rfl
theorem ax_k29 : Cond.code yX3_many cX3_many 1 (some .int) ∈ tables_1 := ax_in3 225 rfl
theorem ax_k30 : Cond.code yX3_dishAt cX3_dishAt 2 (some .int) ∈ tables_1 := ax_in3 229 rfl
theorem ax_k31 : Cond.code yX3_seek cX3_seek 2 none ∈ tables_1 := ax_in3 196 rfl
theorem ax_k32 : Cond.code yX3_tryBehind cX3_tryBehind 10 none ∈ tables_1 := ax_in3 204 rfl
theorem ax_k33 : Cond.code yX3_isBetter cX3_isBetter 3 (some .boolean) ∈ tables_1 := ax_in3 211 rfl
theorem ax_k34 : Cond.code yX4_init cX4_init 2 none ∈ tables_1 := ax_in1 184 rfl
theorem ax_k35 : Cond.code yX4_gain cX4_gain 1 (some .int) ∈ tables_1 := ax_in3 179 rfl
theorem ax_k36 : Cond.code yX4_opening cX4_opening 1 (some .int) ∈ tables_1 := ax_in3 188 rfl
theorem ax_k37 : Cond.code yX4_solve cX4_solve 6 none ∈ tables_1 := ax_in3 152 rfl
theorem ax_k38 : Cond.code yX4_takeIfBetter cX4_takeIfBetter 3 none ∈ tables_1 := ax_in3 175 rfl
theorem ax_k39 : Cond.code yX4_ifServed cX4_ifServed 9 (some .int) ∈ tables_1 := ax_in3 160 rfl
theorem ax_k40 : Cond.code yX4_ifNone cX4_ifNone 7 (some .int) ∈ tables_1 := ax_in3 171 rfl
theorem ax_k41 : Cond.code yX4_gains cX4_gains 9 (some .int) ∈ tables_1 := ax_in3 166 rfl
theorem ax_k42 : Cond.code yX5_init cX5_init 2 none ∈ tables_1 := ax_in1 114 rfl
theorem ax_k43 : Cond.code yX5_readInto cX5_readInto 3 (some .int) ∈ tables_1 := ax_in2 117 rfl
theorem ax_k44 : Cond.code yX5_takesItem cX5_takesItem 3 (some .boolean) ∈ tables_1 := ax_in2 130 rfl
theorem ax_k45 : Cond.code yX5_takesCourt cX5_takesCourt 2 (some .boolean) ∈ tables_1 := ax_in2 187 rfl
theorem ax_k46 : Cond.code yX5_takesDish cX5_takesDish 4 (some .boolean) ∈ tables_1 := ax_in2 204 rfl
theorem ax_k47 : Cond.code yX5_takesFollows cX5_takesFollows 3 (some .boolean) ∈ tables_1 := ax_in2 211 rfl
theorem ax_k48 : Cond.code yX5_takesNumbers cX5_takesNumbers 4 (some .boolean) ∈ tables_1 := ax_in2 195 rfl
theorem ax_k49 : Cond.code yX5_isWord cX5_isWord 3 (some .boolean) ∈ tables_1 := ax_in2 135 rfl
theorem ax_k50 : Cond.code yX5_next cX5_next 2 none ∈ tables_1 := ax_in2 122 rfl
theorem ax_k51 : Cond.code yX5_sortOf cX5_sortOf 1 (some .int) ∈ tables_1 := ax_in2 126 rfl
theorem ax_k52 : Cond.code yX6_init cX6_init 3 none ∈ tables_1 := ax_in1 37 rfl
theorem ax_k53 : Cond.code yX6_many cX6_many 1 (some .int) ∈ tables_1 := ax_in2 72 rfl
theorem ax_k54 : Cond.code yX6_cell cX6_cell 4 (some .int) ∈ tables_1 := ax_in2 96 rfl
theorem ax_k55 : Cond.code yX6_put cX6_put 4 none ∈ tables_1 := ax_in2 8 rfl
theorem ax_k56 : Cond.code yX6_grow cX6_grow 2 (some .int) ∈ tables_1 := ax_in2 4 rfl
theorem ax_k57 : Cond.code yX6_cut cX6_cut 2 none ∈ tables_1 := ax_in1 237 rfl
theorem ax_k58 : Cond.code yX6_takeFrom cX6_takeFrom 2 none ∈ tables_1 := ax_in2 224 rfl
theorem ax_k59 : Cond.code yX6_mixInto cX6_mixInto 5 (some .long) ∈ tables_1 := ax_in4 196 rfl
theorem ax_k60 : Cond.code yX6_mixRowInto cX6_mixRowInto 6 (some .long) ∈ tables_1 := ax_in4 200 rfl
theorem ax_k61 : Cond.code yX7_init cX7_init 1 none ∈ tables_1 := ax_in1 221 rfl
theorem ax_k62 : Cond.code yX7_widen cX7_widen 1 none ∈ tables_1 := ax_in4 45 rfl
theorem ax_k63 : Cond.code yX7_least cX7_least 1 (some .int) ∈ tables_1 := ax_in4 75 rfl
theorem ax_k64 : Cond.code yX7_size cX7_size 1 (some .int) ∈ tables_1 := ax_in4 71 rfl
theorem ax_k65 : Cond.code yX7_narrow cX7_narrow 3 none ∈ tables_1 := ax_in4 57 rfl
theorem ax_k66 : Cond.code yX7_left cX7_left 3 (some .int) ∈ tables_1 := ax_in4 87 rfl
theorem ax_k67 : Cond.code yX7_leastFor cX7_leastFor 3 (some .int) ∈ tables_1 := ax_in4 61 rfl
theorem ax_k68 : Cond.code yX7_mostFor cX7_mostFor 3 (some .int) ∈ tables_1 := ax_in4 66 rfl
theorem ax_k69 : Cond.code yX8_init cX8_init 2 none ∈ tables_1 := ax_in1 161 rfl
theorem ax_k70 : Cond.code yX8_many cX8_many 1 (some .int) ∈ tables_1 := ax_in4 96 rfl
theorem ax_k71 : Cond.code yX8_pull cX8_pull 2 (some .int) ∈ tables_1 := ax_in3 141 rfl
theorem ax_k72 : Cond.code yX8_pulled cX8_pulled 1 (some .int) ∈ tables_1 := ax_in3 133 rfl
theorem ax_k73 : Cond.code yX8_menuFromNow cX8_menuFromNow 2 none ∈ tables_1 := ax_in3 101 rfl
theorem ax_k74 : Cond.code yX8_menuFromNothing cX8_menuFromNothing 2 none ∈ tables_1 := ax_in4 83 rfl
theorem ax_k75 : Cond.code yX8_readingFromNothing cX8_readingFromNothing 3 none ∈ tables_1 := ax_in4 49 rfl
theorem ax_k76 : Cond.code yX8_waysTo cX8_waysTo 7 (some .long) ∈ tables_1 := ax_in4 104 rfl
theorem ax_k77 : Cond.code yX8_pullOf cX8_pullOf 4 (some .int) ∈ tables_1 := ax_in4 109 rfl
theorem ax_k78 : Cond.code yX8_takeMenu cX8_takeMenu 2 none ∈ tables_1 := ax_in3 105 rfl
theorem ax_k79 : Cond.code yX8_serveAll cX8_serveAll 6 none ∈ tables_1 := ax_in3 120 rfl
theorem ax_k80 : Cond.code yX9_init cX9_init 1 none ∈ tables_1 := ax_in1 23 rfl
theorem ax_k81 : Cond.code yX9_court cX9_court 3 (some .int) ∈ tables_1 := ax_in2 61 rfl
theorem ax_k82 : Cond.code yX9_dish cX9_dish 7 (some .int) ∈ tables_1 := ax_in2 76 rfl
theorem ax_k83 : Cond.code yX9_book cX9_book 5 (some .int) ∈ tables_1 := ax_in2 89 rfl
theorem ax_k84 : Cond.code yX9_lean cX9_lean 3 (some .int) ∈ tables_1 := ax_in2 100 rfl
theorem ax_k85 : Cond.code yX9_type cX9_type 3 (some .int) ∈ tables_1 := ax_in2 104 rfl
theorem ax_k86 : Cond.code yX9_clear cX9_clear 2 (some .int) ∈ tables_1 := ax_in2 108 rfl
theorem ax_k87 : Cond.code yX9_read cX9_read 2 (some .int) ∈ tables_1 := ax_in2 113 rfl
theorem ax_k88 : Cond.code yX9_serve cX9_serve 3 (some .int) ∈ tables_1 := ax_in2 232 rfl
theorem ax_k89 : Cond.code yX9_undo cX9_undo 1 (some .int) ∈ tables_1 := ax_in3 55 rfl
theorem ax_k90 : Cond.code yX9_of cX9_of 3 (some .int) ∈ tables_1 := ax_in3 63 rfl
theorem ax_k91 : Cond.code yX9_course cX9_course 3 (some .int) ∈ tables_1 := ax_in3 70 rfl
theorem ax_k92 : Cond.code yX9_leans cX9_leans 1 (some .int) ∈ tables_1 := ax_in3 74 rfl
theorem ax_k93 : Cond.code yX9_verdict cX9_verdict 1 (some .int) ∈ tables_1 := ax_in3 78 rfl
theorem ax_k94 : Cond.code yX9_menu cX9_menu 2 (some .int) ∈ tables_1 := ax_in3 85 rfl
theorem ax_k95 : Cond.code yX9_wipe cX9_wipe 2 (some .int) ∈ tables_1 := ax_in3 93 rfl
theorem ax_k96 : Cond.code yX9_comes cX9_comes 2 (some .int) ∈ tables_1 := ax_in3 97 rfl
theorem ax_k97 : Cond.code yX9_did cX9_did 3 (some .int) ∈ tables_1 := ax_in3 137 rfl
theorem ax_k98 : Cond.code yX9_play cX9_play 3 (some .int) ∈ tables_1 := ax_in3 148 rfl
theorem ax_k99 : Cond.code yX9_first cX9_first 3 (some .int) ∈ tables_1 := ax_in3 184 rfl
theorem ax_k100 : Cond.code yX9_pardon cX9_pardon 3 (some .int) ∈ tables_1 := ax_in3 192 rfl
theorem ax_k101 : Cond.code yX9_cancel cX9_cancel 5 (some .int) ∈ tables_1 := ax_in3 233 rfl
theorem ax_k102 : Cond.code yX9_undoes cX9_undoes 4 (some .int) ∈ tables_1 := ax_in4 8 rfl
theorem ax_k103 : Cond.code yX9_reading cX9_reading 3 (some .int) ∈ tables_1 := ax_in4 22 rfl
theorem ax_k104 : Cond.code yX9_forget cX9_forget 2 (some .int) ∈ tables_1 := ax_in4 33 rfl
theorem ax_k105 : Cond.code yX9_before cX9_before 2 (some .int) ∈ tables_1 := ax_in4 37 rfl
theorem ax_k106 : Cond.code yX9_tells cX9_tells 4 (some .int) ∈ tables_1 := ax_in4 79 rfl
theorem ax_k107 : Cond.code yX9_sure cX9_sure 4 (some .int) ∈ tables_1 := ax_in4 92 rfl
theorem ax_k108 : Cond.code yX9_burnt cX9_burnt 4 (some .int) ∈ tables_1 := ax_in4 100 rfl
theorem ax_k109 : Cond.code yX9_dinners cX9_dinners 7 (some .int) ∈ tables_1 := ax_in4 129 rfl
theorem ax_k110 : Cond.code yX9_part cX9_part 2 (some .long) ∈ tables_1 := ax_in4 145 rfl
theorem ax_k111 : Cond.code yX9_image cX9_image 2 (some .int) ∈ tables_1 := ax_in4 149 rfl
theorem ax_k112 : Cond.code yX9_from cX9_from 2 (some .int) ∈ tables_1 := ax_in4 162 rfl
theorem ax_k113 : Cond.code yX9_status cX9_status 2 (some .int) ∈ tables_1 := ax_in4 174 rfl
theorem ax_k114 : Cond.code yX9_count cX9_count 2 (some .int) ∈ tables_1 := ax_in4 178 rfl
theorem ax_k115 : Cond.code yX9_digest cX9_digest 4 (some .long) ∈ tables_1 := ax_in4 187 rfl
theorem ax_k116 : Cond.code yX9_refuse cX9_refuse 3 (some .int) ∈ tables_1 := ax_in2 68 rfl
theorem ax_k117 : Cond.code yX9_howMany cX9_howMany 2 (some .int) ∈ tables_1 := ax_in4 182 rfl
theorem ax_k118 : Cond.code yX9_imageAt cX9_imageAt 2 (some (.object "DinnerPleas$Image")) ∈ tables_1 := ax_in4 153 rfl
theorem ax_k119 : Cond.code yX9_fitReadings cX9_fitReadings 2 none ∈ tables_1 := ax_in4 41 rfl
theorem ax_k120 : Cond.code yX9_setFraction cX9_setFraction 7 none ∈ tables_1 := ax_in4 122 rfl
theorem ax_k121 : Cond.code yX9_isWithin cX9_isWithin 3 (some .boolean) ∈ tables_1 := ax_in2 64 rfl
theorem ax_k122 : Cond.code yX9_isSide cX9_isSide 1 (some .boolean) ∈ tables_1 := ax_in3 1 rfl
theorem ax_k123 : Cond.code yX9_isTaste cX9_isTaste 1 (some .boolean) ∈ tables_1 := ax_in2 92 rfl
theorem ax_k124 : Cond.code yX9_isVerdict cX9_isVerdict 1 (some .boolean) ∈ tables_1 := ax_in4 25 rfl
theorem ax_k125 : Cond.code yX9_fitsDish cX9_fitsDish 2 (some .boolean) ∈ tables_1 := ax_in2 79 rfl
theorem ax_k126 : Cond.code yX9_verdictOf cX9_verdictOf 1 (some .int) ∈ tables_1 := ax_in3 81 rfl
theorem ax_k127 : Cond.code yX9_power cX9_power 8 (some .int) ∈ tables_1 := ax_in3 46 rfl
theorem ax_k128 : Cond.code yX9_toSide cX9_toSide 2 (some .int) ∈ tables_1 := ax_in3 51 rfl
theorem ax_k129 : Cond.code yX9_holds cX9_holds 2 (some .boolean) ∈ tables_1 := ax_in3 20 rfl
theorem ax_k130 : Cond.code yX9_with cX9_with 2 (some .int) ∈ tables_1 := ax_in3 9 rfl
theorem ax_k131 : Cond.code yX9_mix cX9_mix 4 (some .long) ∈ tables_1 := ax_in4 191 rfl
theorem ax_k132 : Cond.code yX9_toPower cX9_toPower 6 (some .long) ∈ tables_1 := ax_in4 116 rfl
theorem ax_k133 : Cond.code yX9_commonDivisor cX9_commonDivisor 7 (some .long) ∈ tables_1 := ax_in4 125 rfl
theorem ax_k134 : Cond.code yX10_init cX10_init 1 none ∈ tables_1 := ax_in4 208 rfl
theorem ax_k135 : Cond.code yX10_in cX10_in 6 (some .boolean) ∈ tables_1 := ax_in5 75 rfl
theorem ax_k136 : Cond.code yX10_bad cX10_bad 2 (some .int) ∈ tables_1 := ax_in5 79 rfl
theorem ax_k137 : Cond.code yX10_no cX10_no 1 (some .int) ∈ tables_1 := ax_in5 151 rfl
theorem ax_k138 : Cond.code yX10_full cX10_full 1 (some .int) ∈ tables_1 := ax_in5 97 rfl
theorem ax_k139 : Cond.code yX10_begin cX10_begin 3 none ∈ tables_1 := ax_in4 212 rfl
theorem ax_k140 : Cond.code yX10_dishes cX10_dishes 1 (some .int) ∈ tables_1 := ax_in5 83 rfl
theorem ax_k141 : Cond.code yX10_isDish cX10_isDish 2 (some .boolean) ∈ tables_1 := ax_in5 120 rfl
theorem ax_k142 : Cond.code yX10_isSide cX10_isSide 1 (some .boolean) ∈ tables_1 := ax_in5 123 rfl
theorem ax_k143 : Cond.code yX10_isTaste cX10_isTaste 1 (some .boolean) ∈ tables_1 := ax_in5 91 rfl
theorem ax_k144 : Cond.code yX10_get cX10_get 3 (some .int) ∈ tables_1 := ax_in5 147 rfl
theorem ax_k145 : Cond.code yX10_court cX10_court 3 (some .int) ∈ tables_1 := ax_in5 71 rfl
theorem ax_k146 : Cond.code yX10_layDish cX10_layDish 7 none ∈ tables_1 := ax_in5 100 rfl
theorem ax_k147 : Cond.code yX10_dish cX10_dish 6 (some .int) ∈ tables_1 := ax_in5 87 rfl
theorem ax_k148 : Cond.code yX10_book cX10_book 5 (some .int) ∈ tables_1 := ax_in5 104 rfl
theorem ax_k149 : Cond.code yX10_lean cX10_lean 3 (some .int) ∈ tables_1 := ax_in5 110 rfl
theorem ax_k150 : Cond.code yX10_layEmpty cX10_layEmpty 1 none ∈ tables_1 := ax_in5 131 rfl
theorem ax_k151 : Cond.code yX10_layHand cX10_layHand 2 none ∈ tables_1 := ax_in5 127 rfl
theorem ax_k152 : Cond.code yX10_hungry cX10_hungry 1 (some .int) ∈ tables_1 := ax_in5 171 rfl
theorem ax_k153 : Cond.code yX10_sauce cX10_sauce 2 (some .int) ∈ tables_1 := ax_in5 167 rfl
theorem ax_k154 : Cond.code yX10_power cX10_power 2 (some .int) ∈ tables_1 := ax_in5 163 rfl
theorem ax_k155 : Cond.code yX10_does cX10_does 3 (some .int) ∈ tables_1 := ax_in5 159 rfl
theorem ax_k156 : Cond.code yX10_comesOn cX10_comesOn 5 (some .int) ∈ tables_1 := ax_in5 155 rfl
theorem ax_k157 : Cond.code yX10_wasServed cX10_wasServed 2 (some .boolean) ∈ tables_1 := ax_in5 139 rfl
theorem ax_k158 : Cond.code yX10_isOf cX10_isOf 3 (some .boolean) ∈ tables_1 := ax_in5 143 rfl
theorem ax_k159 : Cond.code yX10_mayServe cX10_mayServe 3 (some .boolean) ∈ tables_1 := ax_in5 135 rfl
theorem ax_k160 : Cond.code yX10_verdictOf cX10_verdictOf 1 (some .int) ∈ tables_1 := ax_in5 195 rfl
theorem ax_k161 : Cond.code yX10_serve cX10_serve 5 (some .int) ∈ tables_1 := ax_in5 116 rfl
theorem ax_k162 : Cond.code yX10_undo cX10_undo 1 (some .int) ∈ tables_1 := ax_in5 175 rfl
theorem ax_k163 : Cond.code yX10_of cX10_of 3 (some .int) ∈ tables_1 := ax_in5 179 rfl
theorem ax_k164 : Cond.code yX10_course cX10_course 3 (some .int) ∈ tables_1 := ax_in5 184 rfl
theorem ax_k165 : Cond.code yX10_leans cX10_leans 1 (some .int) ∈ tables_1 := ax_in5 188 rfl
theorem ax_k166 : Cond.code yX10_verdict cX10_verdict 1 (some .int) ∈ tables_1 := ax_in5 192 rfl
theorem ax_k167 : Cond.code yX10_menu cX10_menu 3 (some .int) ∈ tables_1 := ax_in5 199 rfl
theorem ax_k168 : Cond.code yX10_wipe cX10_wipe 2 (some .int) ∈ tables_1 := ax_in5 203 rfl
theorem ax_k169 : Cond.code yX10_goMenu cX10_goMenu 8 none ∈ tables_1 := ax_in5 215 rfl
theorem ax_k170 : Cond.code yX10_goNow cX10_goNow 3 none ∈ tables_1 := ax_in5 211 rfl
theorem ax_k171 : Cond.code yX10_comes cX10_comes 2 (some .int) ∈ tables_1 := ax_in5 207 rfl
theorem ax_k172 : Cond.code yX10_did cX10_did 3 (some .int) ∈ tables_1 := ax_in5 219 rfl
theorem ax_k173 : Cond.code yX10_layTurn cX10_layTurn 2 none ∈ tables_1 := ax_in5 231 rfl
theorem ax_k174 : Cond.code yX10_backTo cX10_backTo 2 none ∈ tables_1 := ax_in5 236 rfl
theorem ax_k175 : Cond.code yX10_judge cX10_judge 5 none ∈ tables_1 := ax_in6 0 rfl
theorem ax_k176 : Cond.code yX10_layPlay cX10_layPlay 6 (some .int) ∈ tables_1 := ax_in5 227 rfl
theorem ax_k177 : Cond.code yX10_play cX10_play 3 (some .int) ∈ tables_1 := ax_in5 223 rfl
theorem ax_k178 : Cond.code yX10_first cX10_first 4 (some .int) ∈ tables_1 := ax_in6 4 rfl
theorem ax_k179 : Cond.code yX10_judgeRow cX10_judgeRow 5 none ∈ tables_1 := ax_in6 16 rfl
theorem ax_k180 : Cond.code yX10_butterOf cX10_butterOf 4 (some .int) ∈ tables_1 := ax_in6 20 rfl
theorem ax_k181 : Cond.code yX10_layPardon cX10_layPardon 5 none ∈ tables_1 := ax_in6 12 rfl
theorem ax_k182 : Cond.code yX10_pardon cX10_pardon 3 (some .int) ∈ tables_1 := ax_in6 8 rfl
theorem ax_k183 : Cond.code yX10_cancels cX10_cancels 6 (some .boolean) ∈ tables_1 := ax_in6 28 rfl
theorem ax_k184 : Cond.code yX10_cancel cX10_cancel 7 (some .int) ∈ tables_1 := ax_in6 24 rfl
theorem ax_k185 : Cond.code yX10_undoes cX10_undoes 6 (some .int) ∈ tables_1 := ax_in6 32 rfl
theorem ax_k186 : Cond.code yX10_reading cX10_reading 5 (some .int) ∈ tables_1 := ax_in6 37 rfl
theorem ax_k187 : Cond.code yX10_forget cX10_forget 2 (some .int) ∈ tables_1 := ax_in6 41 rfl
theorem ax_k188 : Cond.code yX10_turnsBy cX10_turnsBy 4 (some .int) ∈ tables_1 := ax_in6 53 rfl
theorem ax_k189 : Cond.code yX10_layTurns cX10_layTurns 3 none ∈ tables_1 := ax_in6 49 rfl
theorem ax_k190 : Cond.code yX10_canBe cX10_canBe 4 (some .boolean) ∈ tables_1 := ax_in6 57 rfl
theorem ax_k191 : Cond.code yX10_before cX10_before 5 (some .int) ∈ tables_1 := ax_in6 45 rfl
theorem ax_k192 : Cond.code yX10_tells cX10_tells 5 (some .int) ∈ tables_1 := ax_in6 61 rfl
theorem ax_k193 : Cond.code yX10_sure cX10_sure 5 (some .int) ∈ tables_1 := ax_in6 65 rfl
theorem ax_k194 : Cond.code yX10_fraction cX10_fraction 11 none ∈ tables_1 := ax_in6 74 rfl
theorem ax_k195 : Cond.code yX10_burnt cX10_burnt 12 (some .int) ∈ tables_1 := ax_in6 69 rfl
theorem ax_k196 : Cond.code yX10_dinners cX10_dinners 11 (some .int) ∈ tables_1 := ax_in6 78 rfl
theorem ax_k197 : Cond.code yX10_type cX10_type 2 (some .int) ∈ tables_1 := ax_in6 88 rfl
theorem ax_k198 : Cond.code yX10_clear cX10_clear 2 (some .int) ∈ tables_1 := ax_in6 93 rfl
theorem ax_k199 : Cond.code yX10_isSmall cX10_isSmall 1 (some .boolean) ∈ tables_1 := ax_in6 104 rfl
theorem ax_k200 : Cond.code yX10_isFigure cX10_isFigure 1 (some .boolean) ∈ tables_1 := ax_in6 109 rfl
theorem ax_k201 : Cond.code yX10_lookAt cX10_lookAt 5 none ∈ tables_1 := ax_in6 101 rfl
theorem ax_k202 : Cond.code yX10_goBehind cX10_goBehind 1 none ∈ tables_1 := ax_in6 123 rfl
theorem ax_k203 : Cond.code yX10_isWord cX10_isWord 9 (some .boolean) ∈ tables_1 := ax_in6 119 rfl
theorem ax_k204 : Cond.code yX10_takes cX10_takes 4 (some .boolean) ∈ tables_1 := ax_in6 127 rfl
theorem ax_k205 : Cond.code yX10_takesFirst cX10_takesFirst 1 (some .boolean) ∈ tables_1 := ax_in6 115 rfl
theorem ax_k206 : Cond.code yX10_takesDish cX10_takesDish 1 (some .boolean) ∈ tables_1 := ax_in6 135 rfl
theorem ax_k207 : Cond.code yX10_takesBook cX10_takesBook 2 (some .boolean) ∈ tables_1 := ax_in6 139 rfl
theorem ax_k208 : Cond.code yX10_takesItem cX10_takesItem 1 (some .boolean) ∈ tables_1 := ax_in6 131 rfl
theorem ax_k209 : Cond.code yX10_read cX10_read 3 (some .int) ∈ tables_1 := ax_in6 97 rfl
theorem ax_k210 : Cond.code yX10_part cX10_part 2 (some .long) ∈ tables_1 := ax_in6 143 rfl
theorem ax_k211 : Cond.code yX10_image cX10_image 3 (some .int) ∈ tables_1 := ax_in6 147 rfl
theorem ax_k212 : Cond.code yX10_from cX10_from 3 (some .int) ∈ tables_1 := ax_in6 151 rfl
theorem ax_k213 : Cond.code yX10_status cX10_status 2 (some .int) ∈ tables_1 := ax_in6 155 rfl
theorem ax_k214 : Cond.code yX10_counted cX10_counted 2 (some .int) ∈ tables_1 := ax_in6 163 rfl
theorem ax_k215 : Cond.code yX10_count cX10_count 2 (some .int) ∈ tables_1 := ax_in6 159 rfl
theorem ax_k216 : Cond.code yX10_sums cX10_sums 8 (some .long) ∈ tables_1 := ax_in6 173 rfl
theorem ax_k217 : Cond.code yX10_digest cX10_digest 4 (some .long) ∈ tables_1 := ax_in6 167 rfl
theorem ax_k218 : Cond.code yJ6_bitCount_0f7a4 cJ6_bitCount_0f7a4 1 (some .int) ∈ tables_1 := ax_in3 23 rfl
theorem ax_k219 : Cond.code yJ0_length_8abf5 cJ0_length_8abf5 1 (some .int) ∈ tables_1 := ax_in2 139 rfl
theorem ax_k220 : Cond.code yJ0_charAt_5068e cJ0_charAt_5068e 2 (some .char) ∈ tables_1 := ax_in2 149 rfl
theorem ax_k221 : Cond.code yJ0_coder_7d493 cJ0_coder_7d493 1 (some .byte) ∈ tables_1 := ax_in2 143 rfl
theorem ax_k222 : Cond.code yJ0_isLatin1_aae02 cJ0_isLatin1_aae02 1 (some .boolean) ∈ tables_1 := ax_in2 153 rfl
theorem ax_k223 : Cond.code yJ0_checkIndex_df160 cJ0_checkIndex_df160 2 none ∈ tables_1 := ax_in2 159 rfl
theorem ax_k224 : Cond.code yJ1_charAt_3b067 cJ1_charAt_3b067 2 (some .char) ∈ tables_1 := ax_in2 156 rfl
theorem ax_k225 : Cond.code yJ3_checkIndex_8e157 cJ3_checkIndex_8e157 3 (some .int) ∈ tables_1 := ax_in2 164 rfl
end
section
theorem ax_kc : ∀ z, z < 226 → Cond.code (ax_nm z) (ax_by z) (ax_ml z) (ax_rt z) ∈ tables_1 := by
  intro z h
  match z, h with
  | 0, _ => exact ax_k0
  | 1, _ => exact ax_k1
  | 2, _ => exact ax_k2
  | 3, _ => exact ax_k3
  | 4, _ => exact ax_k4
  | 5, _ => exact ax_k5
  | 6, _ => exact ax_k6
  | 7, _ => exact ax_k7
  | 8, _ => exact ax_k8
  | 9, _ => exact ax_k9
  | 10, _ => exact ax_k10
  | 11, _ => exact ax_k11
  | 12, _ => exact ax_k12
  | 13, _ => exact ax_k13
  | 14, _ => exact ax_k14
  | 15, _ => exact ax_k15
  | 16, _ => exact ax_k16
  | 17, _ => exact ax_k17
  | 18, _ => exact ax_k18
  | 19, _ => exact ax_k19
  | 20, _ => exact ax_k20
  | 21, _ => exact ax_k21
  | 22, _ => exact ax_k22
  | 23, _ => exact ax_k23
  | 24, _ => exact ax_k24
  | 25, _ => exact ax_k25
  | 26, _ => exact ax_k26
  | 27, _ => exact ax_k27
  | 28, _ => exact ax_k28
  | 29, _ => exact ax_k29
  | 30, _ => exact ax_k30
  | 31, _ => exact ax_k31
  | 32, _ => exact ax_k32
  | 33, _ => exact ax_k33
  | 34, _ => exact ax_k34
  | 35, _ => exact ax_k35
  | 36, _ => exact ax_k36
  | 37, _ => exact ax_k37
  | 38, _ => exact ax_k38
  | 39, _ => exact ax_k39
  | 40, _ => exact ax_k40
  | 41, _ => exact ax_k41
  | 42, _ => exact ax_k42
  | 43, _ => exact ax_k43
  | 44, _ => exact ax_k44
  | 45, _ => exact ax_k45
  | 46, _ => exact ax_k46
  | 47, _ => exact ax_k47
  | 48, _ => exact ax_k48
  | 49, _ => exact ax_k49
  | 50, _ => exact ax_k50
  | 51, _ => exact ax_k51
  | 52, _ => exact ax_k52
  | 53, _ => exact ax_k53
  | 54, _ => exact ax_k54
  | 55, _ => exact ax_k55
  | 56, _ => exact ax_k56
  | 57, _ => exact ax_k57
  | 58, _ => exact ax_k58
  | 59, _ => exact ax_k59
  | 60, _ => exact ax_k60
  | 61, _ => exact ax_k61
  | 62, _ => exact ax_k62
  | 63, _ => exact ax_k63
  | 64, _ => exact ax_k64
  | 65, _ => exact ax_k65
  | 66, _ => exact ax_k66
  | 67, _ => exact ax_k67
  | 68, _ => exact ax_k68
  | 69, _ => exact ax_k69
  | 70, _ => exact ax_k70
  | 71, _ => exact ax_k71
  | 72, _ => exact ax_k72
  | 73, _ => exact ax_k73
  | 74, _ => exact ax_k74
  | 75, _ => exact ax_k75
  | 76, _ => exact ax_k76
  | 77, _ => exact ax_k77
  | 78, _ => exact ax_k78
  | 79, _ => exact ax_k79
  | 80, _ => exact ax_k80
  | 81, _ => exact ax_k81
  | 82, _ => exact ax_k82
  | 83, _ => exact ax_k83
  | 84, _ => exact ax_k84
  | 85, _ => exact ax_k85
  | 86, _ => exact ax_k86
  | 87, _ => exact ax_k87
  | 88, _ => exact ax_k88
  | 89, _ => exact ax_k89
  | 90, _ => exact ax_k90
  | 91, _ => exact ax_k91
  | 92, _ => exact ax_k92
  | 93, _ => exact ax_k93
  | 94, _ => exact ax_k94
  | 95, _ => exact ax_k95
  | 96, _ => exact ax_k96
  | 97, _ => exact ax_k97
  | 98, _ => exact ax_k98
  | 99, _ => exact ax_k99
  | 100, _ => exact ax_k100
  | 101, _ => exact ax_k101
  | 102, _ => exact ax_k102
  | 103, _ => exact ax_k103
  | 104, _ => exact ax_k104
  | 105, _ => exact ax_k105
  | 106, _ => exact ax_k106
  | 107, _ => exact ax_k107
  | 108, _ => exact ax_k108
  | 109, _ => exact ax_k109
  | 110, _ => exact ax_k110
  | 111, _ => exact ax_k111
  | 112, _ => exact ax_k112
  | 113, _ => exact ax_k113
  | 114, _ => exact ax_k114
  | 115, _ => exact ax_k115
  | 116, _ => exact ax_k116
  | 117, _ => exact ax_k117
  | 118, _ => exact ax_k118
  | 119, _ => exact ax_k119
  | 120, _ => exact ax_k120
  | 121, _ => exact ax_k121
  | 122, _ => exact ax_k122
  | 123, _ => exact ax_k123
  | 124, _ => exact ax_k124
  | 125, _ => exact ax_k125
  | 126, _ => exact ax_k126
  | 127, _ => exact ax_k127
  | 128, _ => exact ax_k128
  | 129, _ => exact ax_k129
  | 130, _ => exact ax_k130
  | 131, _ => exact ax_k131
  | 132, _ => exact ax_k132
  | 133, _ => exact ax_k133
  | 134, _ => exact ax_k134
  | 135, _ => exact ax_k135
  | 136, _ => exact ax_k136
  | 137, _ => exact ax_k137
  | 138, _ => exact ax_k138
  | 139, _ => exact ax_k139
  | 140, _ => exact ax_k140
  | 141, _ => exact ax_k141
  | 142, _ => exact ax_k142
  | 143, _ => exact ax_k143
  | 144, _ => exact ax_k144
  | 145, _ => exact ax_k145
  | 146, _ => exact ax_k146
  | 147, _ => exact ax_k147
  | 148, _ => exact ax_k148
  | 149, _ => exact ax_k149
  | 150, _ => exact ax_k150
  | 151, _ => exact ax_k151
  | 152, _ => exact ax_k152
  | 153, _ => exact ax_k153
  | 154, _ => exact ax_k154
  | 155, _ => exact ax_k155
  | 156, _ => exact ax_k156
  | 157, _ => exact ax_k157
  | 158, _ => exact ax_k158
  | 159, _ => exact ax_k159
  | 160, _ => exact ax_k160
  | 161, _ => exact ax_k161
  | 162, _ => exact ax_k162
  | 163, _ => exact ax_k163
  | 164, _ => exact ax_k164
  | 165, _ => exact ax_k165
  | 166, _ => exact ax_k166
  | 167, _ => exact ax_k167
  | 168, _ => exact ax_k168
  | 169, _ => exact ax_k169
  | 170, _ => exact ax_k170
  | 171, _ => exact ax_k171
  | 172, _ => exact ax_k172
  | 173, _ => exact ax_k173
  | 174, _ => exact ax_k174
  | 175, _ => exact ax_k175
  | 176, _ => exact ax_k176
  | 177, _ => exact ax_k177
  | 178, _ => exact ax_k178
  | 179, _ => exact ax_k179
  | 180, _ => exact ax_k180
  | 181, _ => exact ax_k181
  | 182, _ => exact ax_k182
  | 183, _ => exact ax_k183
  | 184, _ => exact ax_k184
  | 185, _ => exact ax_k185
  | 186, _ => exact ax_k186
  | 187, _ => exact ax_k187
  | 188, _ => exact ax_k188
  | 189, _ => exact ax_k189
  | 190, _ => exact ax_k190
  | 191, _ => exact ax_k191
  | 192, _ => exact ax_k192
  | 193, _ => exact ax_k193
  | 194, _ => exact ax_k194
  | 195, _ => exact ax_k195
  | 196, _ => exact ax_k196
  | 197, _ => exact ax_k197
  | 198, _ => exact ax_k198
  | 199, _ => exact ax_k199
  | 200, _ => exact ax_k200
  | 201, _ => exact ax_k201
  | 202, _ => exact ax_k202
  | 203, _ => exact ax_k203
  | 204, _ => exact ax_k204
  | 205, _ => exact ax_k205
  | 206, _ => exact ax_k206
  | 207, _ => exact ax_k207
  | 208, _ => exact ax_k208
  | 209, _ => exact ax_k209
  | 210, _ => exact ax_k210
  | 211, _ => exact ax_k211
  | 212, _ => exact ax_k212
  | 213, _ => exact ax_k213
  | 214, _ => exact ax_k214
  | 215, _ => exact ax_k215
  | 216, _ => exact ax_k216
  | 217, _ => exact ax_k217
  | 218, _ => exact ax_k218
  | 219, _ => exact ax_k219
  | 220, _ => exact ax_k220
  | 221, _ => exact ax_k221
  | 222, _ => exact ax_k222
  | 223, _ => exact ax_k223
  | 224, _ => exact ax_k224
  | 225, _ => exact ax_k225
  | z + 226, h => exact absurd h (by omega)
def ax_dk (b : ByteArray) (q : Nat × Instr × Nat) : Bool := decide (decode b q.1 = .ok q.2) && (ax_len q.2.1 == 0 || q.2.2 == ax_len q.2.1)
theorem ax_d0 : ∀ q ∈ ax_c0, ax_dk cX0_init q = true := by decide +kernel
theorem ax_d1 : ∀ q ∈ ax_c1, ax_dk cX0_startAnew q = true := by decide +kernel
theorem ax_d2 : ∀ q ∈ ax_c2, ax_dk cX0_takeFrom q = true := by decide +kernel
theorem ax_d3 : ∀ q ∈ ax_c3, ax_dk cX0_hasDish q = true := by decide +kernel
theorem ax_d4 : ∀ q ∈ ax_c4, ax_dk cX0_isOnMenu q = true := by decide +kernel
theorem ax_d5 : ∀ q ∈ ax_c5, ax_dk cX0_servedSet q = true := by decide +kernel
theorem ax_d6 : ∀ q ∈ ax_c6, ax_dk cX0_lastDish q = true := by decide +kernel
theorem ax_d7 : ∀ q ∈ ax_c7, ax_dk cX0_hungerBehind q = true := by decide +kernel
theorem ax_d8 : ∀ q ∈ ax_c8, ax_dk cX0_isFree q = true := by decide +kernel
theorem ax_d9 : ∀ q ∈ ax_c9, ax_dk cX0_mayServe q = true := by decide +kernel
theorem ax_d10_0 : ∀ q ∈ ([(0, .iload_n 2, 1), (1, .invokestatic 69, 3), (4, .istore 4, 2), (6, .aload_n 0, 1), (7, .getfield 14, 3), (10, .iload_n 1, 1), (11, .iconst 0, 1), (12, .invokevirtual 58, 3), (15, .istore 5, 2), (17, .aload_n 0, 1), (18, .getfield 14, 3), (21, .iload_n 1, 1), (22, .iconst 2, 1), (23, .invokevirtual 58, 3), (26, .istore 6, 2), (28, .aload_n 0, 1), (29, .iload 4, 2), (31, .invokevirtual 78, 3), (34, .istore 7, 2), (36, .iload_n 3, 1), (37, .iconst (-1), 1), (38, .if_icmp .ne 17, 3), (41, .iload 5, 2), (43, .iload 6, 2), (45, .iload 4, 2), (47, .iload 7, 2), (49, .iconst 0, 1), (50, .iconst 0, 1), (51, .invokestatic 81, 3), (54, .ireturn, 1), (55, .aload_n 0, 1), (56, .getfield 14, 3), (59, .iload_n 1, 1), (60, .iconst 1, 1), (61, .invokevirtual 58, 3), (64, .istore 8, 2), (66, .aload_n 0, 1), (67, .getfield 14, 3), (70, .iload_n 3, 1), (71, .iconst 1, 1), (72, .invokevirtual 58, 3), (75, .istore 9, 2), (77, .aload_n 0, 1), (78, .getfield 14, 3), (81, .iload_n 1, 1), (82, .iconst 4, 1), (83, .invokevirtual 58, 3), (86, .aload_n 0, 1), (87, .getfield 14, 3), (90, .iload_n 3, 1)] : List (Nat × Instr × Nat)), ax_dk cX0_does q = true := by decide +kernel
theorem ax_d10_1 : ∀ q ∈ ([(91, .iconst 4, 1), (92, .invokevirtual 58, 3), (95, .if_icmp .eq 7, 3), (98, .iconst 1, 1), (99, .goto 4, 3), (102, .iconst 0, 1), (103, .istore 10, 2), (105, .iload 5, 2), (107, .iload 6, 2), (109, .iload 4, 2), (111, .iload 7, 2), (113, .iload 8, 2), (115, .iload 9, 2), (117, .if_icmp .ne 7, 3), (120, .iconst 1, 1), (121, .goto 4, 3), (124, .iconst 0, 1), (125, .iload 10, 2), (127, .invokestatic 81, 3), (130, .istore 11, 2), (132, .iconst 0, 1), (133, .iload 11, 2), (135, .aload_n 0, 1), (136, .getfield 20, 3), (139, .iload 9, 2), (141, .iload 8, 2), (143, .invokevirtual 58, 3), (146, .iadd, 1), (147, .invokestatic 85, 3), (150, .ireturn, 1)] : List (Nat × Instr × Nat)), ax_dk cX0_does q = true := by decide +kernel
theorem ax_d11 : ∀ q ∈ ax_c11, ax_dk cX0_addCourse q = true := by decide +kernel
theorem ax_d12 : ∀ q ∈ ax_c12, ax_dk cX0_dropCourse q = true := by decide +kernel
theorem ax_d13 : ∀ q ∈ ax_c13, ax_dk cX0_addReading q = true := by decide +kernel
theorem ax_d14 : ∀ q ∈ ax_c14, ax_dk cX1_init q = true := by decide +kernel
theorem ax_d15 : ∀ q ∈ ax_c15, ax_dk cX1_beginNow q = true := by decide +kernel
theorem ax_d16 : ∀ q ∈ ax_c16, ax_dk cX1_beginFromNothing q = true := by decide +kernel
theorem ax_d17 : ∀ q ∈ ax_c17, ax_dk cX1_serveBy q = true := by decide +kernel
theorem ax_d18 : ∀ q ∈ ax_c18, ax_dk cX1_verdictNow q = true := by decide +kernel
theorem ax_d19 : ∀ q ∈ ax_c19, ax_dk cX1_cancels q = true := by decide +kernel
theorem ax_d20 : ∀ q ∈ ax_c20, ax_dk cX1_overturns q = true := by decide +kernel
theorem ax_d21 : ∀ q ∈ ax_c21, ax_dk cX1_dineBy q = true := by decide +kernel
theorem ax_d22 : ∀ q ∈ ax_c22, ax_dk cX1_staysBehind q = true := by decide +kernel
theorem ax_d23 : ∀ q ∈ ax_c23, ax_dk cX2_init q = true := by decide +kernel
theorem ax_d24 : ∀ q ∈ ax_c24, ax_dk cX2_isKept q = true := by decide +kernel
theorem ax_d25 : ∀ q ∈ ax_c25, ax_dk cX2_keep q = true := by decide +kernel
theorem ax_d26 : ∀ q ∈ ax_c26, ax_dk cX2_giveTo q = true := by decide +kernel
theorem ax_d27 : ∀ q ∈ ax_c27, ax_dk cX3_init q = true := by decide +kernel
theorem ax_d28 : ∀ q ∈ ax_c28, ax_dk cX3_spent q = true := by decide +kernel
theorem ax_d29 : ∀ q ∈ ax_c29, ax_dk cX3_many q = true := by decide +kernel
theorem ax_d30 : ∀ q ∈ ax_c30, ax_dk cX3_dishAt q = true := by decide +kernel
theorem ax_d31 : ∀ q ∈ ax_c31, ax_dk cX3_seek q = true := by decide +kernel
theorem ax_d32_0 : ∀ q ∈ ([(0, .iload 6, 2), (2, .iconst 4, 1), (3, .if_icmp .lt 4, 3), (6, .return_, 1), (7, .iconst 0, 1), (8, .istore 7, 2), (10, .iload 7, 2), (12, .aload_n 0, 1), (13, .getfield 27, 3), (16, .getfield 62, 3), (19, .invokevirtual 31, 3), (22, .if_icmp .ge 150, 3), (25, .iload 5, 2), (27, .aload_n 0, 1), (28, .getfield 27, 3), (31, .getfield 62, 3), (34, .iload 7, 2), (36, .iconst 3, 1), (37, .invokevirtual 35, 3), (40, .iadd, 1), (41, .istore 8, 2), (43, .aload_n 0, 1), (44, .getfield 27, 3), (47, .iload 7, 2), (49, .iload_n 1, 1), (50, .iload_n 2, 1), (51, .invokevirtual 65, 3), (54, .ifCond .eq 112, 3), (57, .aload_n 0, 1), (58, .iload 8, 2), (60, .iload 6, 2), (62, .iconst 1, 1), (63, .iadd, 1), (64, .invokevirtual 69, 3), (67, .ifCond .eq 99, 3), (70, .aload_n 0, 1), (71, .getfield 14, 3), (74, .iload 6, 2), (76, .invokevirtual 39, 3), (79, .aload_n 0, 1), (80, .getfield 14, 3), (83, .aload_n 0, 1), (84, .getfield 14, 3), (87, .invokevirtual 73, 3), (90, .iconst 0, 1), (91, .iload 7, 2), (93, .invokevirtual 76, 3), (96, .iload 4, 2), (98, .iload_n 1, 1), (99, .aload_n 0, 1)] : List (Nat × Instr × Nat)), ax_dk cX3_tryBehind q = true := by decide +kernel
theorem ax_d32_1 : ∀ q ∈ ([(100, .getfield 27, 3), (103, .iload 7, 2), (105, .iload_n 2, 1), (106, .iload_n 3, 1), (107, .invokevirtual 80, 3), (110, .invokestatic 84, 3), (113, .iadd, 1), (114, .istore 9, 2), (116, .iload 9, 2), (118, .invokestatic 48, 3), (121, .iload_n 1, 1), (122, .if_icmp .ne 23, 3), (125, .aload_n 0, 1), (126, .iload 8, 2), (128, .putfield 23, 3), (131, .aload_n 0, 1), (132, .getfield 20, 3), (135, .aload_n 0, 1), (136, .getfield 14, 3), (139, .invokevirtual 87, 3), (142, .goto 24, 3), (145, .aload_n 0, 1), (146, .iload_n 1, 1), (147, .iload_n 2, 1), (148, .iload 7, 2), (150, .invokestatic 91, 3), (153, .iload 7, 2), (155, .iload 9, 2), (157, .iload 8, 2), (159, .iload 6, 2), (161, .iconst 1, 1), (162, .iadd, 1), (163, .invokevirtual 58, 3), (166, .iinc 7 1, 3), (169, .goto (-159), 3), (172, .return_, 1)] : List (Nat × Instr × Nat)), ax_dk cX3_tryBehind q = true := by decide +kernel
theorem ax_d33 : ∀ q ∈ ax_c33, ax_dk cX3_isBetter q = true := by decide +kernel
theorem ax_d34 : ∀ q ∈ ax_c34, ax_dk cX4_init q = true := by decide +kernel
theorem ax_d35 : ∀ q ∈ ax_c35, ax_dk cX4_gain q = true := by decide +kernel
theorem ax_d36 : ∀ q ∈ ax_c36, ax_dk cX4_opening q = true := by decide +kernel
theorem ax_d37 : ∀ q ∈ ax_c37, ax_dk cX4_solve q = true := by decide +kernel
theorem ax_d38 : ∀ q ∈ ax_c38, ax_dk cX4_takeIfBetter q = true := by decide +kernel
theorem ax_d39 : ∀ q ∈ ax_c39, ax_dk cX4_ifServed q = true := by decide +kernel
theorem ax_d40 : ∀ q ∈ ax_c40, ax_dk cX4_ifNone q = true := by decide +kernel
theorem ax_d41 : ∀ q ∈ ax_c41, ax_dk cX4_gains q = true := by decide +kernel
theorem ax_d42 : ∀ q ∈ ax_c42, ax_dk cX5_init q = true := by decide +kernel
theorem ax_d43 : ∀ q ∈ ax_c43, ax_dk cX5_readInto q = true := by decide +kernel
theorem ax_d44 : ∀ q ∈ ax_c44, ax_dk cX5_takesItem q = true := by decide +kernel
theorem ax_d45 : ∀ q ∈ ax_c45, ax_dk cX5_takesCourt q = true := by decide +kernel
theorem ax_d46 : ∀ q ∈ ax_c46, ax_dk cX5_takesDish q = true := by decide +kernel
theorem ax_d47 : ∀ q ∈ ax_c47, ax_dk cX5_takesFollows q = true := by decide +kernel
theorem ax_d48 : ∀ q ∈ ax_c48, ax_dk cX5_takesNumbers q = true := by decide +kernel
theorem ax_d49 : ∀ q ∈ ax_c49, ax_dk cX5_isWord q = true := by decide +kernel
theorem ax_d50_0 : ∀ q ∈ ([(0, .aload_n 0, 1), (1, .getfield 20, 3), (4, .aload_n 0, 1), (5, .getfield 33, 3), (8, .invokevirtual 36, 3), (11, .if_icmp .ge 33, 3), (14, .aload_n 0, 1), (15, .getfield 33, 3), (18, .aload_n 0, 1), (19, .getfield 20, 3), (22, .iconst 0, 1), (23, .invokevirtual 81, 3), (26, .bipush 32, 2), (28, .if_icmp .ne 16, 3), (31, .aload_n 0, 1), (32, .dup, 1), (33, .getfield 20, 3), (36, .iconst 1, 1), (37, .iadd, 1), (38, .putfield 20, 3), (41, .goto (-41), 3), (44, .aload_n 0, 1), (45, .aload_n 0, 1), (46, .getfield 20, 3), (49, .putfield 24, 3), (52, .aload_n 0, 1), (53, .getfield 20, 3), (56, .aload_n 0, 1), (57, .getfield 33, 3), (60, .invokevirtual 36, 3), (63, .if_icmp .lt 9, 3), (66, .aload_n 0, 1), (67, .iconst 0, 1), (68, .putfield 27, 3), (71, .return_, 1), (72, .aload_n 0, 1), (73, .aload_n 0, 1), (74, .getfield 33, 3), (77, .aload_n 0, 1), (78, .getfield 20, 3), (81, .iconst 0, 1), (82, .invokevirtual 81, 3), (85, .invokestatic 128, 3), (88, .putfield 27, 3), (91, .aload_n 0, 1), (92, .aload_n 0, 1), (93, .getfield 33, 3), (96, .aload_n 0, 1), (97, .getfield 20, 3), (100, .iconst 0, 1)] : List (Nat × Instr × Nat)), ax_dk cX5_next q = true := by decide +kernel
theorem ax_d50_1 : ∀ q ∈ ([(101, .invokevirtual 81, 3), (104, .bipush 48, 2), (106, .isub, 1), (107, .putfield 30, 3), (110, .aload_n 0, 1), (111, .dup, 1), (112, .getfield 20, 3), (115, .iconst 1, 1), (116, .iadd, 1), (117, .putfield 20, 3), (120, .aload_n 0, 1), (121, .getfield 27, 3), (124, .iconst 1, 1), (125, .if_icmp .eq 11, 3), (128, .aload_n 0, 1), (129, .getfield 27, 3), (132, .iconst 2, 1), (133, .if_icmp .ne 7, 3), (136, .iconst 1, 1), (137, .goto 4, 3), (140, .iconst 0, 1), (141, .istore_n 1, 1), (142, .iload_n 1, 1), (143, .ifCond .eq 97, 3), (146, .aload_n 0, 1), (147, .getfield 20, 3), (150, .aload_n 0, 1), (151, .getfield 33, 3), (154, .invokevirtual 36, 3), (157, .if_icmp .ge 83, 3), (160, .aload_n 0, 1), (161, .getfield 33, 3), (164, .aload_n 0, 1), (165, .getfield 20, 3), (168, .iconst 0, 1), (169, .invokevirtual 81, 3), (172, .invokestatic 128, 3), (175, .aload_n 0, 1), (176, .getfield 27, 3), (179, .if_icmp .ne 61, 3), (182, .aload_n 0, 1), (183, .aload_n 0, 1), (184, .getfield 20, 3), (187, .aload_n 0, 1), (188, .getfield 24, 3), (191, .isub, 1), (192, .iconst 2, 1), (193, .if_icmp .ge 29, 3), (196, .bipush 10, 2), (198, .aload_n 0, 1)] : List (Nat × Instr × Nat)), ax_dk cX5_next q = true := by decide +kernel
theorem ax_d50_2 : ∀ q ∈ ([(199, .getfield 30, 3), (202, .imul, 1), (203, .aload_n 0, 1), (204, .getfield 33, 3), (207, .aload_n 0, 1), (208, .getfield 20, 3), (211, .iconst 0, 1), (212, .invokevirtual 81, 3), (215, .iadd, 1), (216, .bipush 48, 2), (218, .isub, 1), (219, .goto 5, 3), (222, .bipush 100, 2), (224, .putfield 30, 3), (227, .aload_n 0, 1), (228, .dup, 1), (229, .getfield 20, 3), (232, .iconst 1, 1), (233, .iadd, 1), (234, .putfield 20, 3), (237, .goto (-95), 3), (240, .return_, 1)] : List (Nat × Instr × Nat)), ax_dk cX5_next q = true := by decide +kernel
theorem ax_d51 : ∀ q ∈ ax_c51, ax_dk cX5_sortOf q = true := by decide +kernel
theorem ax_d52 : ∀ q ∈ ax_c52, ax_dk cX6_init q = true := by decide +kernel
theorem ax_d53 : ∀ q ∈ ax_c53, ax_dk cX6_many q = true := by decide +kernel
theorem ax_d54 : ∀ q ∈ ax_c54, ax_dk cX6_cell q = true := by decide +kernel
theorem ax_d55 : ∀ q ∈ ax_c55, ax_dk cX6_put q = true := by decide +kernel
theorem ax_d56 : ∀ q ∈ ax_c56, ax_dk cX6_grow q = true := by decide +kernel
theorem ax_d57 : ∀ q ∈ ax_c57, ax_dk cX6_cut q = true := by decide +kernel
theorem ax_d58 : ∀ q ∈ ax_c58, ax_dk cX6_takeFrom q = true := by decide +kernel
theorem ax_d59 : ∀ q ∈ ax_c59, ax_dk cX6_mixInto q = true := by decide +kernel
theorem ax_d60 : ∀ q ∈ ax_c60, ax_dk cX6_mixRowInto q = true := by decide +kernel
theorem ax_d61 : ∀ q ∈ ax_c61, ax_dk cX7_init q = true := by decide +kernel
theorem ax_d62 : ∀ q ∈ ax_c62, ax_dk cX7_widen q = true := by decide +kernel
theorem ax_d63 : ∀ q ∈ ax_c63, ax_dk cX7_least q = true := by decide +kernel
theorem ax_d64 : ∀ q ∈ ax_c64, ax_dk cX7_size q = true := by decide +kernel
theorem ax_d65 : ∀ q ∈ ax_c65, ax_dk cX7_narrow q = true := by decide +kernel
theorem ax_d66 : ∀ q ∈ ax_c66, ax_dk cX7_left q = true := by decide +kernel
theorem ax_d67 : ∀ q ∈ ax_c67, ax_dk cX7_leastFor q = true := by decide +kernel
theorem ax_d68 : ∀ q ∈ ax_c68, ax_dk cX7_mostFor q = true := by decide +kernel
theorem ax_d69 : ∀ q ∈ ax_c69, ax_dk cX8_init q = true := by decide +kernel
theorem ax_d70 : ∀ q ∈ ax_c70, ax_dk cX8_many q = true := by decide +kernel
theorem ax_d71 : ∀ q ∈ ax_c71, ax_dk cX8_pull q = true := by decide +kernel
theorem ax_d72 : ∀ q ∈ ax_c72, ax_dk cX8_pulled q = true := by decide +kernel
theorem ax_d73 : ∀ q ∈ ax_c73, ax_dk cX8_menuFromNow q = true := by decide +kernel
theorem ax_d74 : ∀ q ∈ ax_c74, ax_dk cX8_menuFromNothing q = true := by decide +kernel
theorem ax_d75 : ∀ q ∈ ax_c75, ax_dk cX8_readingFromNothing q = true := by decide +kernel
theorem ax_d76 : ∀ q ∈ ax_c76, ax_dk cX8_waysTo q = true := by decide +kernel
theorem ax_d77 : ∀ q ∈ ax_c77, ax_dk cX8_pullOf q = true := by decide +kernel
theorem ax_d78 : ∀ q ∈ ax_c78, ax_dk cX8_takeMenu q = true := by decide +kernel
theorem ax_d79 : ∀ q ∈ ax_c79, ax_dk cX8_serveAll q = true := by decide +kernel
theorem ax_d80_0 : ∀ q ∈ ([(0, .aload_n 0, 1), (1, .invokespecial 1, 3), (4, .aload_n 0, 1), (5, .new 7, 3), (8, .dup, 1), (9, .invokespecial 9, 3), (12, .putfield 10, 3), (15, .aload_n 0, 1), (16, .new 7, 3), (19, .dup, 1), (20, .invokespecial 9, 3), (23, .putfield 16, 3), (26, .aload_n 0, 1), (27, .new 19, 3), (30, .dup, 1), (31, .invokespecial 21, 3), (34, .putfield 22, 3), (37, .aload_n 0, 1), (38, .new 19, 3), (41, .dup, 1), (42, .invokespecial 21, 3), (45, .putfield 26, 3), (48, .aload_n 0, 1), (49, .new 29, 3), (52, .dup, 1), (53, .sipush 150, 3), (56, .iconst 1, 1), (57, .invokespecial 31, 3), (60, .putfield 34, 3), (63, .aload_n 0, 1), (64, .new 38, 3), (67, .dup, 1), (68, .aload_n 0, 1), (69, .getfield 34, 3), (72, .invokespecial 40, 3), (75, .putfield 43, 3), (78, .aload_n 0, 1), (79, .new 47, 3), (82, .dup, 1), (83, .aload_n 0, 1), (84, .getfield 10, 3), (87, .invokespecial 49, 3), (90, .putfield 52, 3), (93, .aload_n 0, 1), (94, .new 56, 3), (97, .dup, 1), (98, .aload_n 0, 1), (99, .getfield 10, 3), (102, .invokespecial 58, 3), (105, .putfield 59, 3)] : List (Nat × Instr × Nat)), ax_dk cX9_init q = true := by decide +kernel
theorem ax_d80_1 : ∀ q ∈ ([(108, .aload_n 0, 1), (109, .new 63, 3), (112, .dup, 1), (113, .aload_n 0, 1), (114, .getfield 10, 3), (117, .invokespecial 65, 3), (120, .putfield 66, 3), (123, .aload_n 0, 1), (124, .new 70, 3), (127, .dup, 1), (128, .aload_n 0, 1), (129, .getfield 10, 3), (132, .invokespecial 72, 3), (135, .putfield 73, 3), (138, .aload_n 0, 1), (139, .new 77, 3), (142, .dup, 1), (143, .invokespecial 79, 3), (146, .putfield 80, 3), (149, .aload_n 0, 1), (150, .lconst 0, 1), (151, .putfield 84, 3), (154, .aload_n 0, 1), (155, .lconst 1, 1), (156, .putfield 88, 3), (159, .aload_n 0, 1), (160, .iconst 0, 1), (161, .putfield 91, 3), (164, .aload_n 0, 1), (165, .iconst 0, 1), (166, .putfield 95, 3), (169, .aload_n 0, 1), (170, .iconst 0, 1), (171, .putfield 98, 3), (174, .aload_n 0, 1), (175, .getfield 10, 3), (178, .iconst 5, 1), (179, .invokevirtual 101, 3), (182, .return_, 1)] : List (Nat × Instr × Nat)), ax_dk cX9_init q = true := by decide +kernel
theorem ax_d81 : ∀ q ∈ ax_c81, ax_dk cX9_court q = true := by decide +kernel
theorem ax_d82_0 : ∀ q ∈ ([(0, .iconst 0, 1), (1, .iload_n 1, 1), (2, .invokestatic 120, 3), (5, .ifCond .eq 37, 3), (8, .iconst 1, 1), (9, .iload_n 2, 1), (10, .invokestatic 120, 3), (13, .ifCond .eq 29, 3), (16, .iconst 2, 1), (17, .iload_n 3, 1), (18, .invokestatic 120, 3), (21, .ifCond .eq 21, 3), (24, .iconst 3, 1), (25, .iload 4, 2), (27, .invokestatic 120, 3), (30, .ifCond .eq 12, 3), (33, .iconst 4, 1), (34, .iload 5, 2), (36, .invokestatic 120, 3), (39, .ifCond .ne 12, 3), (42, .aload_n 0, 1), (43, .bipush (-2), 2), (45, .bipush (-2), 2), (47, .invokevirtual 109, 3), (50, .ireturn, 1), (51, .aload_n 0, 1), (52, .getfield 10, 3), (55, .getfield 113, 3), (58, .invokevirtual 124, 3), (61, .istore 6, 2), (63, .iload 6, 2), (65, .iconst (-1), 1), (66, .if_icmp .ne 12, 3), (69, .aload_n 0, 1), (70, .bipush (-4), 2), (72, .bipush (-4), 2), (74, .invokevirtual 109, 3), (77, .ireturn, 1), (78, .aload_n 0, 1), (79, .getfield 10, 3), (82, .getfield 113, 3), (85, .iload 6, 2), (87, .iconst 0, 1), (88, .iload_n 1, 1), (89, .invokevirtual 127, 3), (92, .aload_n 0, 1), (93, .getfield 10, 3), (96, .getfield 113, 3), (99, .iload 6, 2), (101, .iconst 1, 1)] : List (Nat × Instr × Nat)), ax_dk cX9_dish q = true := by decide +kernel
theorem ax_d82_1 : ∀ q ∈ ([(102, .iload_n 2, 1), (103, .invokevirtual 127, 3), (106, .aload_n 0, 1), (107, .getfield 10, 3), (110, .getfield 113, 3), (113, .iload 6, 2), (115, .iconst 2, 1), (116, .iload_n 3, 1), (117, .invokevirtual 127, 3), (120, .aload_n 0, 1), (121, .getfield 10, 3), (124, .getfield 113, 3), (127, .iload 6, 2), (129, .iconst 3, 1), (130, .iload 4, 2), (132, .invokevirtual 127, 3), (135, .aload_n 0, 1), (136, .getfield 10, 3), (139, .getfield 113, 3), (142, .iload 6, 2), (144, .iconst 4, 1), (145, .iload 5, 2), (147, .invokevirtual 127, 3), (150, .iload 6, 2), (152, .ireturn, 1)] : List (Nat × Instr × Nat)), ax_dk cX9_dish q = true := by decide +kernel
theorem ax_d83 : ∀ q ∈ ax_c83, ax_dk cX9_book q = true := by decide +kernel
theorem ax_d84 : ∀ q ∈ ax_c84, ax_dk cX9_lean q = true := by decide +kernel
theorem ax_d85 : ∀ q ∈ ax_c85, ax_dk cX9_type q = true := by decide +kernel
theorem ax_d86 : ∀ q ∈ ax_c86, ax_dk cX9_clear q = true := by decide +kernel
theorem ax_d87 : ∀ q ∈ ax_c87, ax_dk cX9_read q = true := by decide +kernel
theorem ax_d88 : ∀ q ∈ ax_c88, ax_dk cX9_serve q = true := by decide +kernel
theorem ax_d89 : ∀ q ∈ ax_c89, ax_dk cX9_undo q = true := by decide +kernel
theorem ax_d90 : ∀ q ∈ ax_c90, ax_dk cX9_of q = true := by decide +kernel
theorem ax_d91 : ∀ q ∈ ax_c91, ax_dk cX9_course q = true := by decide +kernel
theorem ax_d92 : ∀ q ∈ ax_c92, ax_dk cX9_leans q = true := by decide +kernel
theorem ax_d93 : ∀ q ∈ ax_c93, ax_dk cX9_verdict q = true := by decide +kernel
theorem ax_d94 : ∀ q ∈ ax_c94, ax_dk cX9_menu q = true := by decide +kernel
theorem ax_d95 : ∀ q ∈ ax_c95, ax_dk cX9_wipe q = true := by decide +kernel
theorem ax_d96 : ∀ q ∈ ax_c96, ax_dk cX9_comes q = true := by decide +kernel
theorem ax_d97 : ∀ q ∈ ax_c97, ax_dk cX9_did q = true := by decide +kernel
theorem ax_d98 : ∀ q ∈ ax_c98, ax_dk cX9_play q = true := by decide +kernel
theorem ax_d99 : ∀ q ∈ ax_c99, ax_dk cX9_first q = true := by decide +kernel
theorem ax_d100 : ∀ q ∈ ax_c100, ax_dk cX9_pardon q = true := by decide +kernel
theorem ax_d101 : ∀ q ∈ ax_c101, ax_dk cX9_cancel q = true := by decide +kernel
theorem ax_d102 : ∀ q ∈ ax_c102, ax_dk cX9_undoes q = true := by decide +kernel
theorem ax_d103 : ∀ q ∈ ax_c103, ax_dk cX9_reading q = true := by decide +kernel
theorem ax_d104 : ∀ q ∈ ax_c104, ax_dk cX9_forget q = true := by decide +kernel
theorem ax_d105 : ∀ q ∈ ax_c105, ax_dk cX9_before q = true := by decide +kernel
theorem ax_d106 : ∀ q ∈ ax_c106, ax_dk cX9_tells q = true := by decide +kernel
theorem ax_d107 : ∀ q ∈ ax_c107, ax_dk cX9_sure q = true := by decide +kernel
theorem ax_d108 : ∀ q ∈ ax_c108, ax_dk cX9_burnt q = true := by decide +kernel
theorem ax_d109 : ∀ q ∈ ax_c109, ax_dk cX9_dinners q = true := by decide +kernel
theorem ax_d110 : ∀ q ∈ ax_c110, ax_dk cX9_part q = true := by decide +kernel
theorem ax_d111 : ∀ q ∈ ax_c111, ax_dk cX9_image q = true := by decide +kernel
theorem ax_d112 : ∀ q ∈ ax_c112, ax_dk cX9_from q = true := by decide +kernel
theorem ax_d113 : ∀ q ∈ ax_c113, ax_dk cX9_status q = true := by decide +kernel
theorem ax_d114 : ∀ q ∈ ax_c114, ax_dk cX9_count q = true := by decide +kernel
theorem ax_d115_0 : ∀ q ∈ ([(0, .ldc2_w 304, 3), (3, .lstore_n 1, 1), (4, .iconst 0, 1), (5, .istore_n 3, 1), (6, .iload_n 3, 1), (7, .iconst 5, 1), (8, .if_icmp .gt 20, 3), (11, .lload_n 1, 1), (12, .aload_n 0, 1), (13, .iload_n 3, 1), (14, .invokevirtual 301, 3), (17, .i2l, 1), (18, .invokestatic 306, 3), (21, .lstore_n 1, 1), (22, .iinc 3 1, 3), (25, .goto (-19), 3), (28, .lload_n 1, 1), (29, .aload_n 0, 1), (30, .getfield 10, 3), (33, .getfield 141, 3), (36, .i2l, 1), (37, .invokestatic 306, 3), (40, .lstore_n 1, 1), (41, .aload_n 0, 1), (42, .getfield 10, 3), (45, .getfield 135, 3), (48, .lload_n 1, 1), (49, .iconst 5, 1), (50, .invokevirtual 310, 3), (53, .lstore_n 1, 1), (54, .aload_n 0, 1), (55, .getfield 10, 3), (58, .getfield 113, 3), (61, .lload_n 1, 1), (62, .iconst 5, 1), (63, .invokevirtual 310, 3), (66, .lstore_n 1, 1), (67, .aload_n 0, 1), (68, .getfield 10, 3), (71, .getfield 169, 3), (74, .lload_n 1, 1), (75, .iconst 3, 1), (76, .invokevirtual 310, 3), (79, .lstore_n 1, 1), (80, .aload_n 0, 1), (81, .getfield 10, 3), (84, .getfield 192, 3), (87, .lload_n 1, 1), (88, .iconst 1, 1), (89, .invokevirtual 310, 3)] : List (Nat × Instr × Nat)), ax_dk cX9_digest q = true := by decide +kernel
theorem ax_d115_1 : ∀ q ∈ ([(92, .lstore_n 1, 1), (93, .iconst 0, 1), (94, .istore_n 3, 1), (95, .iload_n 3, 1), (96, .aload_n 0, 1), (97, .getfield 10, 3), (100, .getfield 243, 3), (103, .invokevirtual 116, 3), (106, .if_icmp .ge 36, 3), (109, .aload_n 0, 1), (110, .getfield 10, 3), (113, .getfield 243, 3), (116, .lload_n 1, 1), (117, .iload_n 3, 1), (118, .iconst 3, 1), (119, .aload_n 0, 1), (120, .getfield 10, 3), (123, .getfield 243, 3), (126, .iload_n 3, 1), (127, .iconst 2, 1), (128, .invokevirtual 138, 3), (131, .iadd, 1), (132, .invokevirtual 313, 3), (135, .lstore_n 1, 1), (136, .iinc 3 1, 3), (139, .goto (-44), 3), (142, .lload_n 1, 1), (143, .aload_n 0, 1), (144, .getfield 84, 3), (147, .invokestatic 306, 3), (150, .aload_n 0, 1), (151, .getfield 88, 3), (154, .invokestatic 306, 3), (157, .lreturn, 1)] : List (Nat × Instr × Nat)), ax_dk cX9_digest q = true := by decide +kernel
theorem ax_d116 : ∀ q ∈ ax_c116, ax_dk cX9_refuse q = true := by decide +kernel
theorem ax_d117 : ∀ q ∈ ax_c117, ax_dk cX9_howMany q = true := by decide +kernel
theorem ax_d118 : ∀ q ∈ ax_c118, ax_dk cX9_imageAt q = true := by decide +kernel
theorem ax_d119 : ∀ q ∈ ax_c119, ax_dk cX9_fitReadings q = true := by decide +kernel
theorem ax_d120 : ∀ q ∈ ax_c120, ax_dk cX9_setFraction q = true := by decide +kernel
theorem ax_d121 : ∀ q ∈ ax_c121, ax_dk cX9_isWithin q = true := by decide +kernel
theorem ax_d122 : ∀ q ∈ ax_c122, ax_dk cX9_isSide q = true := by decide +kernel
theorem ax_d123 : ∀ q ∈ ax_c123, ax_dk cX9_isTaste q = true := by decide +kernel
theorem ax_d124 : ∀ q ∈ ax_c124, ax_dk cX9_isVerdict q = true := by decide +kernel
theorem ax_d125 : ∀ q ∈ ax_c125, ax_dk cX9_fitsDish q = true := by decide +kernel
theorem ax_d126 : ∀ q ∈ ax_c126, ax_dk cX9_verdictOf q = true := by decide +kernel
theorem ax_d127 : ∀ q ∈ ax_c127, ax_dk cX9_power q = true := by decide +kernel
theorem ax_d128 : ∀ q ∈ ax_c128, ax_dk cX9_toSide q = true := by decide +kernel
theorem ax_d129 : ∀ q ∈ ax_c129, ax_dk cX9_holds q = true := by decide +kernel
theorem ax_d130 : ∀ q ∈ ax_c130, ax_dk cX9_with q = true := by decide +kernel
theorem ax_d131 : ∀ q ∈ ax_c131, ax_dk cX9_mix q = true := by decide +kernel
theorem ax_d132 : ∀ q ∈ ax_c132, ax_dk cX9_toPower q = true := by decide +kernel
theorem ax_d133 : ∀ q ∈ ax_c133, ax_dk cX9_commonDivisor q = true := by decide +kernel
theorem ax_d134_0 : ∀ q ∈ ([(0, .aload_n 0, 1), (1, .invokespecial 1, 3), (4, .aload_n 0, 1), (5, .sipush 181, 3), (8, .newarray .int, 2), (10, .putfield 7, 3), (13, .aload_n 0, 1), (14, .sipush 362, 3), (17, .newarray .int, 2), (19, .putfield 13, 3), (22, .aload_n 0, 1), (23, .iconst 2, 1), (24, .newarray .boolean, 2), (26, .putfield 16, 3), (29, .aload_n 0, 1), (30, .iconst 3, 1), (31, .newarray .int, 2), (33, .putfield 20, 3), (36, .aload_n 0, 1), (37, .lconst 1, 1), (38, .putfield 23, 3), (41, .aload_n 0, 1), (42, .bipush 8, 2), (44, .newarray .int, 2), (46, .putfield 27, 3), (49, .aload_n 0, 1), (50, .bipush 6, 2), (52, .newarray .int, 2), (54, .putfield 30, 3), (57, .aload_n 0, 1), (58, .bipush 6, 2), (60, .newarray .int, 2), (62, .putfield 33, 3), (65, .aload_n 0, 1), (66, .bipush 6, 2), (68, .newarray .int, 2), (70, .putfield 36, 3), (73, .aload_n 0, 1), (74, .bipush 6, 2), (76, .newarray .int, 2), (78, .putfield 39, 3), (81, .aload_n 0, 1), (82, .bipush 6, 2), (84, .newarray .int, 2), (86, .putfield 42, 3), (89, .aload_n 0, 1), (90, .bipush 6, 2), (92, .newarray .int, 2), (94, .putfield 45, 3), (97, .aload_n 0, 1)] : List (Nat × Instr × Nat)), ax_dk cX10_init q = true := by decide +kernel
theorem ax_d134_1 : ∀ q ∈ ([(98, .iconst 4, 1), (99, .newarray .int, 2), (101, .putfield 48, 3), (104, .aload_n 0, 1), (105, .bipush 6, 2), (107, .newarray .int, 2), (109, .putfield 51, 3), (112, .aload_n 0, 1), (113, .iconst 3, 1), (114, .newarray .int, 2), (116, .putfield 54, 3), (119, .aload_n 0, 1), (120, .sipush 150, 3), (123, .newarray .int, 2), (125, .putfield 57, 3), (128, .aload_n 0, 1), (129, .sipush 181, 3), (132, .newarray .int, 2), (134, .putfield 60, 3), (137, .aload_n 0, 1), (138, .iconst 5, 1), (139, .newarray .int, 2), (141, .putfield 63, 3), (144, .aload_n 0, 1), (145, .getfield 7, 3), (148, .iconst 5, 1), (149, .invokestatic 66, 3), (152, .return_, 1)] : List (Nat × Instr × Nat)), ax_dk cX10_init q = true := by decide +kernel
theorem ax_d135 : ∀ q ∈ ax_c135, ax_dk cX10_in q = true := by decide +kernel
theorem ax_d136 : ∀ q ∈ ax_c136, ax_dk cX10_bad q = true := by decide +kernel
theorem ax_d137 : ∀ q ∈ ax_c137, ax_dk cX10_no q = true := by decide +kernel
theorem ax_d138 : ∀ q ∈ ax_c138, ax_dk cX10_full q = true := by decide +kernel
theorem ax_d139 : ∀ q ∈ ax_c139, ax_dk cX10_begin q = true := by decide +kernel
theorem ax_d140 : ∀ q ∈ ax_c140, ax_dk cX10_dishes q = true := by decide +kernel
theorem ax_d141 : ∀ q ∈ ax_c141, ax_dk cX10_isDish q = true := by decide +kernel
theorem ax_d142 : ∀ q ∈ ax_c142, ax_dk cX10_isSide q = true := by decide +kernel
theorem ax_d143 : ∀ q ∈ ax_c143, ax_dk cX10_isTaste q = true := by decide +kernel
theorem ax_d144 : ∀ q ∈ ax_c144, ax_dk cX10_get q = true := by decide +kernel
theorem ax_d145 : ∀ q ∈ ax_c145, ax_dk cX10_court q = true := by decide +kernel
theorem ax_d146 : ∀ q ∈ ax_c146, ax_dk cX10_layDish q = true := by decide +kernel
theorem ax_d147 : ∀ q ∈ ax_c147, ax_dk cX10_dish q = true := by decide +kernel
theorem ax_d148 : ∀ q ∈ ax_c148, ax_dk cX10_book q = true := by decide +kernel
theorem ax_d149 : ∀ q ∈ ax_c149, ax_dk cX10_lean q = true := by decide +kernel
theorem ax_d150 : ∀ q ∈ ax_c150, ax_dk cX10_layEmpty q = true := by decide +kernel
theorem ax_d151 : ∀ q ∈ ax_c151, ax_dk cX10_layHand q = true := by decide +kernel
theorem ax_d152 : ∀ q ∈ ax_c152, ax_dk cX10_hungry q = true := by decide +kernel
theorem ax_d153 : ∀ q ∈ ax_c153, ax_dk cX10_sauce q = true := by decide +kernel
theorem ax_d154 : ∀ q ∈ ax_c154, ax_dk cX10_power q = true := by decide +kernel
theorem ax_d155 : ∀ q ∈ ax_c155, ax_dk cX10_does q = true := by decide +kernel
theorem ax_d156 : ∀ q ∈ ax_c156, ax_dk cX10_comesOn q = true := by decide +kernel
theorem ax_d157 : ∀ q ∈ ax_c157, ax_dk cX10_wasServed q = true := by decide +kernel
theorem ax_d158 : ∀ q ∈ ax_c158, ax_dk cX10_isOf q = true := by decide +kernel
theorem ax_d159 : ∀ q ∈ ax_c159, ax_dk cX10_mayServe q = true := by decide +kernel
theorem ax_d160 : ∀ q ∈ ax_c160, ax_dk cX10_verdictOf q = true := by decide +kernel
theorem ax_d161_0 : ∀ q ∈ ([(0, .aload_n 0, 1), (1, .iload_n 1, 1), (2, .invokevirtual 148, 3), (5, .ifCond .eq 10, 3), (8, .iload_n 2, 1), (9, .invokestatic 151, 3), (12, .ifCond .ne 10, 3), (15, .aload_n 0, 1), (16, .bipush (-2), 2), (18, .invokevirtual 82, 3), (21, .ireturn, 1), (22, .aload_n 0, 1), (23, .invokevirtual 154, 3), (26, .aload_n 0, 1), (27, .iload_n 1, 1), (28, .iload_n 2, 1), (29, .invokevirtual 157, 3), (32, .ifCond .ne 8, 3), (35, .aload_n 0, 1), (36, .invokevirtual 160, 3), (39, .ireturn, 1), (40, .bipush 71, 2), (42, .iconst 4, 1), (43, .aload_n 0, 1), (44, .getfield 7, 3), (47, .iconst 3, 1), (48, .iaload, 1), (49, .imul, 1), (50, .iadd, 1), (51, .istore_n 3, 1), (52, .aload_n 0, 1), (53, .getfield 7, 3), (56, .iload_n 3, 1), (57, .iconst 3, 1), (58, .iadd, 1), (59, .aload_n 0, 1), (60, .getfield 7, 3), (63, .iconst 2, 1), (64, .iaload, 1), (65, .iastore, 1), (66, .aload_n 0, 1), (67, .iload_n 1, 1), (68, .iload_n 2, 1), (69, .iconst 1, 1), (70, .invokevirtual 163, 3), (73, .istore 4, 2), (75, .aload_n 0, 1), (76, .getfield 7, 3), (79, .iload_n 3, 1), (80, .iload_n 1, 1)] : List (Nat × Instr × Nat)), ax_dk cX10_serve q = true := by decide +kernel
theorem ax_d161_1 : ∀ q ∈ ([(81, .iastore, 1), (82, .aload_n 0, 1), (83, .getfield 7, 3), (86, .iload_n 3, 1), (87, .iconst 1, 1), (88, .iadd, 1), (89, .iload_n 2, 1), (90, .iastore, 1), (91, .aload_n 0, 1), (92, .getfield 7, 3), (95, .iload_n 3, 1), (96, .iconst 2, 1), (97, .iadd, 1), (98, .iload 4, 2), (100, .iastore, 1), (101, .aload_n 0, 1), (102, .getfield 7, 3), (105, .iconst 3, 1), (106, .dup2, 1), (107, .iaload, 1), (108, .iconst 1, 1), (109, .iadd, 1), (110, .iastore, 1), (111, .aload_n 0, 1), (112, .getfield 7, 3), (115, .iconst 2, 1), (116, .aload_n 0, 1), (117, .getfield 109, 3), (120, .iastore, 1), (121, .iload 4, 2), (123, .ireturn, 1)] : List (Nat × Instr × Nat)), ax_dk cX10_serve q = true := by decide +kernel
theorem ax_d162 : ∀ q ∈ ax_c162, ax_dk cX10_undo q = true := by decide +kernel
theorem ax_d163 : ∀ q ∈ ax_c163, ax_dk cX10_of q = true := by decide +kernel
theorem ax_d164 : ∀ q ∈ ax_c164, ax_dk cX10_course q = true := by decide +kernel
theorem ax_d165 : ∀ q ∈ ax_c165, ax_dk cX10_leans q = true := by decide +kernel
theorem ax_d166 : ∀ q ∈ ax_c166, ax_dk cX10_verdict q = true := by decide +kernel
theorem ax_d167 : ∀ q ∈ ax_c167, ax_dk cX10_menu q = true := by decide +kernel
theorem ax_d168 : ∀ q ∈ ax_c168, ax_dk cX10_wipe q = true := by decide +kernel
theorem ax_d169 : ∀ q ∈ ax_c169, ax_dk cX10_goMenu q = true := by decide +kernel
theorem ax_d170 : ∀ q ∈ ax_c170, ax_dk cX10_goNow q = true := by decide +kernel
theorem ax_d171 : ∀ q ∈ ax_c171, ax_dk cX10_comes q = true := by decide +kernel
theorem ax_d172 : ∀ q ∈ ax_c172, ax_dk cX10_did q = true := by decide +kernel
theorem ax_d173 : ∀ q ∈ ax_c173, ax_dk cX10_layTurn q = true := by decide +kernel
theorem ax_d174 : ∀ q ∈ ax_c174, ax_dk cX10_backTo q = true := by decide +kernel
theorem ax_d175 : ∀ q ∈ ax_c175, ax_dk cX10_judge q = true := by decide +kernel
theorem ax_d176_0 : ∀ q ∈ ([(0, .iconst 0, 1), (1, .istore_n 3, 1), (2, .aload_n 0, 1), (3, .invokevirtual 154, 3), (6, .aload_n 0, 1), (7, .iconst 0, 1), (8, .invokevirtual 184, 3), (11, .iload_n 3, 1), (12, .ifCond .gt 14, 3), (15, .aload_n 0, 1), (16, .getfield 42, 3), (19, .iconst 0, 1), (20, .iaload, 1), (21, .bipush 8, 2), (23, .if_icmp .gt 161, 3), (26, .iload_n 2, 1), (27, .iload_n 3, 1), (28, .iadd, 1), (29, .iconst 2, 1), (30, .irem, 1), (31, .istore 4, 2), (33, .iload_n 3, 1), (34, .iload_n 1, 1), (35, .if_icmp .eq 14, 3), (38, .aload_n 0, 1), (39, .getfield 42, 3), (42, .iload_n 3, 1), (43, .iaload, 1), (44, .bipush 8, 2), (46, .if_icmp .le 45, 3), (49, .iload_n 3, 1), (50, .iload_n 1, 1), (51, .if_icmp .ne 10, 3), (54, .aload_n 0, 1), (55, .getfield 109, 3), (58, .goto 9, 3), (61, .aload_n 0, 1), (62, .getfield 45, 3), (65, .iload_n 3, 1), (66, .iaload, 1), (67, .istore 5, 2), (69, .iinc 3 (-1), 3), (72, .aload_n 0, 1), (73, .iload_n 3, 1), (74, .invokevirtual 188, 3), (77, .aload_n 0, 1), (78, .iload_n 3, 1), (79, .iconst 1, 1), (80, .iload 4, 2), (82, .isub, 1)] : List (Nat × Instr × Nat)), ax_dk cX10_layPlay q = true := by decide +kernel
theorem ax_d176_1 : ∀ q ∈ ([(83, .iload 5, 2), (85, .invokevirtual 191, 3), (88, .goto 93, 3), (91, .aload_n 0, 1), (92, .getfield 42, 3), (95, .iload_n 3, 1), (96, .iaload, 1), (97, .bipush 8, 2), (99, .if_icmp .eq 31, 3), (102, .aload_n 0, 1), (103, .getfield 42, 3), (106, .iload_n 3, 1), (107, .iaload, 1), (108, .aload_n 0, 1), (109, .invokevirtual 70, 3), (112, .if_icmp .ge 59, 3), (115, .aload_n 0, 1), (116, .aload_n 0, 1), (117, .getfield 42, 3), (120, .iload_n 3, 1), (121, .iaload, 1), (122, .iload 4, 2), (124, .invokevirtual 157, 3), (127, .ifCond .eq 44, 3), (130, .aload_n 0, 1), (131, .getfield 42, 3), (134, .iload_n 3, 1), (135, .iaload, 1), (136, .bipush 8, 2), (138, .if_icmp .ne 7, 3), (141, .iconst 0, 1), (142, .goto 16, 3), (145, .aload_n 0, 1), (146, .aload_n 0, 1), (147, .getfield 42, 3), (150, .iload_n 3, 1), (151, .iaload, 1), (152, .iload 4, 2), (154, .iconst 1, 1), (155, .invokevirtual 163, 3), (158, .istore 5, 2), (160, .iinc 3 1, 3), (163, .aload_n 0, 1), (164, .iload_n 3, 1), (165, .invokevirtual 184, 3), (168, .goto 13, 3), (171, .aload_n 0, 1), (172, .getfield 42, 3), (175, .iload_n 3, 1), (176, .dup2, 1)] : List (Nat × Instr × Nat)), ax_dk cX10_layPlay q = true := by decide +kernel
theorem ax_d176_2 : ∀ q ∈ ([(177, .iaload, 1), (178, .iconst 1, 1), (179, .iadd, 1), (180, .iastore, 1), (181, .goto (-170), 3), (184, .aload_n 0, 1), (185, .getfield 45, 3), (188, .iconst 0, 1), (189, .iaload, 1), (190, .ireturn, 1)] : List (Nat × Instr × Nat)), ax_dk cX10_layPlay q = true := by decide +kernel
theorem ax_d177 : ∀ q ∈ ax_c177, ax_dk cX10_play q = true := by decide +kernel
theorem ax_d178 : ∀ q ∈ ax_c178, ax_dk cX10_first q = true := by decide +kernel
theorem ax_d179 : ∀ q ∈ ax_c179, ax_dk cX10_judgeRow q = true := by decide +kernel
theorem ax_d180 : ∀ q ∈ ax_c180, ax_dk cX10_butterOf q = true := by decide +kernel
theorem ax_d181_0 : ∀ q ∈ ([(0, .iconst 0, 1), (1, .istore_n 2, 1), (2, .aload_n 0, 1), (3, .iconst (-1), 1), (4, .putfield 198, 3), (7, .aload_n 0, 1), (8, .iconst 0, 1), (9, .putfield 201, 3), (12, .aload_n 0, 1), (13, .invokevirtual 154, 3), (16, .aload_n 0, 1), (17, .iconst 0, 1), (18, .invokevirtual 184, 3), (21, .aload_n 0, 1), (22, .iconst 0, 1), (23, .iload_n 1, 1), (24, .iconst 0, 1), (25, .invokevirtual 204, 3), (28, .aload_n 0, 1), (29, .getfield 198, 3), (32, .iconst (-1), 1), (33, .if_icmp .ne 7, 3), (36, .iconst 1, 1), (37, .goto 4, 3), (40, .iconst 0, 1), (41, .istore_n 3, 1), (42, .iload_n 3, 1), (43, .ifCond .eq 119, 3), (46, .iload_n 2, 1), (47, .iconst 4, 1), (48, .if_icmp .eq 16, 3), (51, .aload_n 0, 1), (52, .getfield 42, 3), (55, .iload_n 2, 1), (56, .iaload, 1), (57, .aload_n 0, 1), (58, .invokevirtual 70, 3), (61, .if_icmp .lt 38, 3), (64, .iinc 2 (-1), 3), (67, .iload_n 2, 1), (68, .ifCond .lt 7, 3), (71, .iconst 1, 1), (72, .goto 4, 3), (75, .iconst 0, 1), (76, .istore_n 3, 1), (77, .iload_n 3, 1), (78, .ifCond .eq (-36), 3), (81, .aload_n 0, 1), (82, .iload_n 2, 1), (83, .invokevirtual 188, 3)] : List (Nat × Instr × Nat)), ax_dk cX10_layPardon q = true := by decide +kernel
theorem ax_d181_1 : ∀ q ∈ ([(86, .aload_n 0, 1), (87, .getfield 42, 3), (90, .iload_n 2, 1), (91, .dup2, 1), (92, .iaload, 1), (93, .iconst 1, 1), (94, .iadd, 1), (95, .iastore, 1), (96, .goto (-54), 3), (99, .aload_n 0, 1), (100, .aload_n 0, 1), (101, .getfield 42, 3), (104, .iload_n 2, 1), (105, .iaload, 1), (106, .iload_n 1, 1), (107, .invokevirtual 157, 3), (110, .ifCond .eq 39, 3), (113, .aload_n 0, 1), (114, .aload_n 0, 1), (115, .getfield 42, 3), (118, .iload_n 2, 1), (119, .iaload, 1), (120, .iload_n 1, 1), (121, .iconst 1, 1), (122, .invokevirtual 163, 3), (125, .istore 4, 2), (127, .iinc 2 1, 3), (130, .aload_n 0, 1), (131, .iload_n 2, 1), (132, .invokevirtual 184, 3), (135, .aload_n 0, 1), (136, .iload_n 2, 1), (137, .iload_n 1, 1), (138, .aload_n 0, 1), (139, .iload_n 2, 1), (140, .invokevirtual 207, 3), (143, .invokevirtual 204, 3), (146, .goto (-104), 3), (149, .aload_n 0, 1), (150, .getfield 42, 3), (153, .iload_n 2, 1), (154, .dup2, 1), (155, .iaload, 1), (156, .iconst 1, 1), (157, .iadd, 1), (158, .iastore, 1), (159, .goto (-117), 3), (162, .return_, 1)] : List (Nat × Instr × Nat)), ax_dk cX10_layPardon q = true := by decide +kernel
theorem ax_d182 : ∀ q ∈ ax_c182, ax_dk cX10_pardon q = true := by decide +kernel
theorem ax_d183 : ∀ q ∈ ax_c183, ax_dk cX10_cancels q = true := by decide +kernel
theorem ax_d184_0 : ∀ q ∈ ([(0, .iload_n 1, 1), (1, .iconst (-1), 1), (2, .if_icmp .ge 10, 3), (5, .aload_n 0, 1), (6, .bipush (-10), 2), (8, .invokevirtual 82, 3), (11, .ireturn, 1), (12, .iconst 0, 1), (13, .istore_n 2, 1), (14, .bipush (-5), 2), (16, .istore_n 3, 1), (17, .iconst 0, 1), (18, .istore 4, 2), (20, .iload 4, 2), (22, .aload_n 0, 1), (23, .invokevirtual 70, 3), (26, .if_icmp .ge 118, 3), (29, .iload 4, 2), (31, .iconst 1, 1), (32, .iadd, 1), (33, .istore 5, 2), (35, .iload 5, 2), (37, .aload_n 0, 1), (38, .invokevirtual 70, 3), (41, .if_icmp .ge 97, 3), (44, .aload_n 0, 1), (45, .invokevirtual 154, 3), (48, .aload_n 0, 1), (49, .getfield 116, 3), (52, .bipush 8, 2), (54, .if_icmp .ge 25, 3), (57, .aload_n 0, 1), (58, .iload 4, 2), (60, .invokevirtual 141, 3), (63, .ifCond .ne 16, 3), (66, .aload_n 0, 1), (67, .iload 5, 2), (69, .invokevirtual 141, 3), (72, .ifCond .ne 7, 3), (75, .iconst 1, 1), (76, .goto 4, 3), (79, .iconst 0, 1), (80, .istore 6, 2), (82, .iload 6, 2), (84, .ifCond .eq 48, 3), (87, .aload_n 0, 1), (88, .iload 4, 2), (90, .iconst 0, 1), (91, .iload 5, 2), (93, .invokevirtual 213, 3)] : List (Nat × Instr × Nat)), ax_dk cX10_cancel q = true := by decide +kernel
theorem ax_d184_1 : ∀ q ∈ ([(96, .ifCond .eq 36, 3), (99, .aload_n 0, 1), (100, .iload 5, 2), (102, .iconst 1, 1), (103, .iload 4, 2), (105, .invokevirtual 213, 3), (108, .ifCond .eq 24, 3), (111, .iload_n 2, 1), (112, .iload_n 1, 1), (113, .if_icmp .ne 14, 3), (116, .bipush 10, 2), (118, .iload 4, 2), (120, .imul, 1), (121, .iload 5, 2), (123, .iadd, 1), (124, .goto 4, 3), (127, .iload_n 3, 1), (128, .istore_n 3, 1), (129, .iinc 2 1, 3), (132, .iinc 5 1, 3), (135, .goto (-100), 3), (138, .iinc 4 1, 3), (141, .goto (-121), 3), (144, .iload_n 1, 1), (145, .iconst (-1), 1), (146, .if_icmp .ne 7, 3), (149, .iload_n 2, 1), (150, .goto 4, 3), (153, .iload_n 3, 1), (154, .ireturn, 1)] : List (Nat × Instr × Nat)), ax_dk cX10_cancel q = true := by decide +kernel
theorem ax_d185 : ∀ q ∈ ax_c185, ax_dk cX10_undoes q = true := by decide +kernel
theorem ax_d186_0 : ∀ q ∈ ([(0, .iload_n 1, 1), (1, .invokestatic 151, 3), (4, .ifCond .eq 15, 3), (7, .iload_n 2, 1), (8, .i2l, 1), (9, .lconst 0, 1), (10, .ldc2_w 92, 3), (13, .invokestatic 74, 3), (16, .ifCond .ne 10, 3), (19, .aload_n 0, 1), (20, .bipush (-2), 2), (22, .invokevirtual 82, 3), (25, .ireturn, 1), (26, .aload_n 0, 1), (27, .getfield 7, 3), (30, .iconst 5, 1), (31, .iaload, 1), (32, .bipush 6, 2), (34, .if_icmp .ne 8, 3), (37, .aload_n 0, 1), (38, .invokevirtual 94, 3), (41, .ireturn, 1), (42, .bipush 115, 2), (44, .bipush 11, 2), (46, .aload_n 0, 1), (47, .getfield 7, 3), (50, .iconst 5, 1), (51, .iaload, 1), (52, .imul, 1), (53, .iadd, 1), (54, .istore_n 3, 1), (55, .aload_n 0, 1), (56, .getfield 7, 3), (59, .iload_n 3, 1), (60, .iload_n 1, 1), (61, .iastore, 1), (62, .aload_n 0, 1), (63, .getfield 7, 3), (66, .iload_n 3, 1), (67, .iconst 1, 1), (68, .iadd, 1), (69, .iload_n 2, 1), (70, .iastore, 1), (71, .aload_n 0, 1), (72, .getfield 7, 3), (75, .iload_n 3, 1), (76, .iconst 2, 1), (77, .iadd, 1), (78, .aload_n 0, 1), (79, .getfield 7, 3)] : List (Nat × Instr × Nat)), ax_dk cX10_reading q = true := by decide +kernel
theorem ax_d186_1 : ∀ q ∈ ([(82, .iconst 4, 1), (83, .iaload, 1), (84, .iastore, 1), (85, .iconst 0, 1), (86, .istore 4, 2), (88, .iload 4, 2), (90, .aload_n 0, 1), (91, .getfield 7, 3), (94, .iconst 4, 1), (95, .iaload, 1), (96, .if_icmp .ge 30, 3), (99, .aload_n 0, 1), (100, .getfield 7, 3), (103, .iload_n 3, 1), (104, .iconst 3, 1), (105, .iadd, 1), (106, .iload 4, 2), (108, .iadd, 1), (109, .aload_n 0, 1), (110, .getfield 7, 3), (113, .bipush 107, 2), (115, .iload 4, 2), (117, .iadd, 1), (118, .iaload, 1), (119, .iastore, 1), (120, .iinc 4 1, 3), (123, .goto (-35), 3), (126, .aload_n 0, 1), (127, .getfield 7, 3), (130, .iconst 5, 1), (131, .dup2, 1), (132, .iaload, 1), (133, .iconst 1, 1), (134, .iadd, 1), (135, .iastore, 1), (136, .aload_n 0, 1), (137, .getfield 7, 3), (140, .iconst 5, 1), (141, .iaload, 1), (142, .ireturn, 1)] : List (Nat × Instr × Nat)), ax_dk cX10_reading q = true := by decide +kernel
theorem ax_d187 : ∀ q ∈ ax_c187, ax_dk cX10_forget q = true := by decide +kernel
theorem ax_d188 : ∀ q ∈ ax_c188, ax_dk cX10_turnsBy q = true := by decide +kernel
theorem ax_d189 : ∀ q ∈ ax_c189, ax_dk cX10_layTurns q = true := by decide +kernel
theorem ax_d190 : ∀ q ∈ ax_c190, ax_dk cX10_canBe q = true := by decide +kernel
theorem ax_d191 : ∀ q ∈ ax_c191, ax_dk cX10_before q = true := by decide +kernel
theorem ax_d192_0 : ∀ q ∈ ([(0, .iload_n 1, 1), (1, .invokestatic 151, 3), (4, .ifCond .ne 10, 3), (7, .aload_n 0, 1), (8, .bipush (-2), 2), (10, .invokevirtual 82, 3), (13, .ireturn, 1), (14, .aload_n 0, 1), (15, .bipush 107, 2), (17, .aload_n 0, 1), (18, .getfield 7, 3), (21, .iconst 4, 1), (22, .iaload, 1), (23, .iload_n 1, 1), (24, .invokevirtual 220, 3), (27, .istore_n 2, 1), (28, .aload_n 0, 1), (29, .invokevirtual 223, 3), (32, .iconst 0, 1), (33, .istore_n 3, 1), (34, .iload_n 3, 1), (35, .iconst 3, 1), (36, .if_icmp .ge 16, 3), (39, .aload_n 0, 1), (40, .getfield 54, 3), (43, .iload_n 3, 1), (44, .iconst 0, 1), (45, .iastore, 1), (46, .iinc 3 1, 3), (49, .goto (-15), 3), (52, .bipush (-30), 2), (54, .istore_n 3, 1), (55, .iload_n 3, 1), (56, .bipush 30, 2), (58, .if_icmp .gt 36, 3), (61, .aload_n 0, 1), (62, .iload_n 3, 1), (63, .invokevirtual 226, 3), (66, .ifCond .eq 22, 3), (69, .iload_n 3, 1), (70, .iload_n 2, 1), (71, .iadd, 1), (72, .invokestatic 169, 3), (75, .istore 4, 2), (77, .aload_n 0, 1), (78, .getfield 54, 3), (81, .iload 4, 2), (83, .dup2, 1), (84, .iaload, 1), (85, .iconst 1, 1)] : List (Nat × Instr × Nat)), ax_dk cX10_tells q = true := by decide +kernel
theorem ax_d192_1 : ∀ q ∈ ([(86, .iadd, 1), (87, .iastore, 1), (88, .iinc 3 1, 3), (91, .goto (-36), 3), (94, .aload_n 0, 1), (95, .getfield 54, 3), (98, .iconst 0, 1), (99, .iaload, 1), (100, .aload_n 0, 1), (101, .getfield 54, 3), (104, .iconst 1, 1), (105, .iaload, 1), (106, .if_icmp .le 12, 3), (109, .aload_n 0, 1), (110, .getfield 54, 3), (113, .iconst 0, 1), (114, .iaload, 1), (115, .goto 9, 3), (118, .aload_n 0, 1), (119, .getfield 54, 3), (122, .iconst 1, 1), (123, .iaload, 1), (124, .istore_n 3, 1), (125, .iload_n 3, 1), (126, .aload_n 0, 1), (127, .getfield 54, 3), (130, .iconst 2, 1), (131, .iaload, 1), (132, .if_icmp .le 7, 3), (135, .iload_n 3, 1), (136, .goto 9, 3), (139, .aload_n 0, 1), (140, .getfield 54, 3), (143, .iconst 2, 1), (144, .iaload, 1), (145, .ireturn, 1)] : List (Nat × Instr × Nat)), ax_dk cX10_tells q = true := by decide +kernel
theorem ax_d193 : ∀ q ∈ ax_c193, ax_dk cX10_sure q = true := by decide +kernel
theorem ax_d194 : ∀ q ∈ ax_c194, ax_dk cX10_fraction q = true := by decide +kernel
theorem ax_d195_0 : ∀ q ∈ ([(0, .iload_n 1, 1), (1, .invokestatic 151, 3), (4, .ifCond .eq 27, 3), (7, .iload_n 2, 1), (8, .i2l, 1), (9, .lconst 0, 1), (10, .ldc2_w 232, 3), (13, .invokestatic 74, 3), (16, .ifCond .eq 15, 3), (19, .iload_n 3, 1), (20, .i2l, 1), (21, .lconst 0, 1), (22, .ldc2_w 92, 3), (25, .invokestatic 74, 3), (28, .ifCond .ne 10, 3), (31, .aload_n 0, 1), (32, .bipush (-2), 2), (34, .invokevirtual 82, 3), (37, .ireturn, 1), (38, .lconst 0, 1), (39, .lstore 4, 2), (41, .lconst 1, 1), (42, .lstore 6, 2), (44, .iconst 0, 1), (45, .istore 8, 2), (47, .iload 8, 2), (49, .aload_n 0, 1), (50, .getfield 7, 3), (53, .iconst 4, 1), (54, .iaload, 1), (55, .if_icmp .ge 17, 3), (58, .lload 6, 2), (60, .ldc2_w 232, 3), (63, .lmul, 1), (64, .lstore 6, 2), (66, .iinc 8 1, 3), (69, .goto (-22), 3), (72, .iconst 0, 1), (73, .istore 8, 2), (75, .iload 8, 2), (77, .iconst 1, 1), (78, .aload_n 0, 1), (79, .getfield 7, 3), (82, .iconst 4, 1), (83, .iaload, 1), (84, .ishl, 1), (85, .if_icmp .ge 87, 3), (88, .lconst 1, 1), (89, .lstore 9, 2), (91, .iconst 0, 1)] : List (Nat × Instr × Nat)), ax_dk cX10_burnt q = true := by decide +kernel
theorem ax_d195_1 : ∀ q ∈ ([(92, .istore 11, 2), (94, .iload 11, 2), (96, .aload_n 0, 1), (97, .getfield 7, 3), (100, .iconst 4, 1), (101, .iaload, 1), (102, .if_icmp .ge 35, 3), (105, .lload 9, 2), (107, .iload 8, 2), (109, .iload 11, 2), (111, .ishr, 1), (112, .iconst 1, 1), (113, .iand, 1), (114, .iconst 1, 1), (115, .if_icmp .ne 8, 3), (118, .iload_n 2, 1), (119, .i2l, 1), (120, .goto 8, 3), (123, .bipush 10, 2), (125, .iload_n 2, 1), (126, .isub, 1), (127, .i2l, 1), (128, .lmul, 1), (129, .lstore 9, 2), (131, .iinc 11 1, 3), (134, .goto (-40), 3), (137, .aload_n 0, 1), (138, .iload_n 1, 1), (139, .iload 8, 2), (141, .invokevirtual 176, 3), (144, .lload 4, 2), (146, .aload_n 0, 1), (147, .getfield 109, 3), (150, .invokestatic 169, 3), (153, .iload_n 3, 1), (154, .if_icmp .ne 8, 3), (157, .lload 9, 2), (159, .goto 4, 3), (162, .lconst 0, 1), (163, .ladd, 1), (164, .lstore 4, 2), (166, .iinc 8 1, 3), (169, .goto (-94), 3), (172, .aload_n 0, 1), (173, .lload 4, 2), (175, .lload 6, 2), (177, .invokevirtual 234, 3), (180, .iconst 1, 1), (181, .ireturn, 1)] : List (Nat × Instr × Nat)), ax_dk cX10_burnt q = true := by decide +kernel
theorem ax_d196_0 : ∀ q ∈ ([(0, .iload_n 1, 1), (1, .i2l, 1), (2, .lconst 0, 1), (3, .ldc2_w 238, 3), (6, .invokestatic 74, 3), (9, .ifCond .eq 15, 3), (12, .iload_n 2, 1), (13, .i2l, 1), (14, .lconst 0, 1), (15, .ldc2_w 240, 3), (18, .invokestatic 74, 3), (21, .ifCond .ne 10, 3), (24, .aload_n 0, 1), (25, .bipush (-2), 2), (27, .invokevirtual 82, 3), (30, .ireturn, 1), (31, .iload_n 1, 1), (32, .i2l, 1), (33, .lstore_n 3, 1), (34, .iconst 0, 1), (35, .istore 5, 2), (37, .iconst 0, 1), (38, .istore 6, 2), (40, .iload 6, 2), (42, .iload_n 2, 1), (43, .if_icmp .ge 131, 3), (46, .aload_n 0, 1), (47, .invokevirtual 154, 3), (50, .iconst 0, 1), (51, .istore 7, 2), (53, .iconst 1, 1), (54, .istore 8, 2), (56, .iload 8, 2), (58, .ifCond .eq 90, 3), (61, .aload_n 0, 1), (62, .getfield 116, 3), (65, .bipush 9, 2), (67, .if_icmp .ge 81, 3), (70, .lload_n 3, 1), (71, .ldc2_w 242, 3), (74, .lmul, 1), (75, .ldc2_w 244, 3), (78, .ladd, 1), (79, .ldc2_w 246, 3), (82, .lrem, 1), (83, .lstore_n 3, 1), (84, .lload_n 3, 1), (85, .ldc2_w 248, 3), (88, .ldiv, 1), (89, .ldc2_w 80, 3)] : List (Nat × Instr × Nat)), ax_dk cX10_dinners q = true := by decide +kernel
theorem ax_d196_1 : ∀ q ∈ ([(92, .lrem, 1), (93, .l2i, 1), (94, .istore 9, 2), (96, .iload 9, 2), (98, .aload_n 0, 1), (99, .invokevirtual 70, 3), (102, .if_icmp .ge 18, 3), (105, .aload_n 0, 1), (106, .iload 9, 2), (108, .iload 7, 2), (110, .invokevirtual 157, 3), (113, .ifCond .eq 7, 3), (116, .iconst 1, 1), (117, .goto 4, 3), (120, .iconst 0, 1), (121, .istore 8, 2), (123, .iload 8, 2), (125, .ifCond .eq 20, 3), (128, .aload_n 0, 1), (129, .iload 9, 2), (131, .iload 7, 2), (133, .iconst 1, 1), (134, .invokevirtual 163, 3), (137, .istore 10, 2), (139, .iconst 1, 1), (140, .iload 7, 2), (142, .isub, 1), (143, .istore 7, 2), (145, .goto (-89), 3), (148, .iload 5, 2), (150, .aload_n 0, 1), (151, .getfield 109, 3), (154, .invokestatic 169, 3), (157, .ifCond .ne 7, 3), (160, .iconst 1, 1), (161, .goto 4, 3), (164, .iconst 0, 1), (165, .iadd, 1), (166, .istore 5, 2), (168, .iinc 6 1, 3), (171, .goto (-131), 3), (174, .iload 5, 2), (176, .ireturn, 1)] : List (Nat × Instr × Nat)), ax_dk cX10_dinners q = true := by decide +kernel
theorem ax_d197 : ∀ q ∈ ax_c197, ax_dk cX10_type q = true := by decide +kernel
theorem ax_d198 : ∀ q ∈ ax_c198, ax_dk cX10_clear q = true := by decide +kernel
theorem ax_d199 : ∀ q ∈ ax_c199, ax_dk cX10_isSmall q = true := by decide +kernel
theorem ax_d200 : ∀ q ∈ ax_c200, ax_dk cX10_isFigure q = true := by decide +kernel
theorem ax_d201_0 : ∀ q ∈ ([(0, .aload_n 0, 1), (1, .iload_n 1, 1), (2, .putfield 263, 3), (5, .aload_n 0, 1), (6, .getfield 263, 3), (9, .aload_n 0, 1), (10, .getfield 252, 3), (13, .if_icmp .ge 30, 3), (16, .aload_n 0, 1), (17, .getfield 57, 3), (20, .aload_n 0, 1), (21, .getfield 263, 3), (24, .iaload, 1), (25, .bipush 32, 2), (27, .if_icmp .ne 16, 3), (30, .aload_n 0, 1), (31, .dup, 1), (32, .getfield 263, 3), (35, .iconst 1, 1), (36, .iadd, 1), (37, .putfield 263, 3), (40, .goto (-35), 3), (43, .aload_n 0, 1), (44, .iconst 0, 1), (45, .putfield 266, 3), (48, .aload_n 0, 1), (49, .iconst 0, 1), (50, .putfield 269, 3), (53, .aload_n 0, 1), (54, .iconst 0, 1), (55, .putfield 272, 3), (58, .aload_n 0, 1), (59, .getfield 263, 3), (62, .aload_n 0, 1), (63, .getfield 252, 3), (66, .if_icmp .ne 4, 3), (69, .return_, 1), (70, .aload_n 0, 1), (71, .getfield 57, 3), (74, .aload_n 0, 1), (75, .getfield 263, 3), (78, .iaload, 1), (79, .istore_n 2, 1), (80, .aload_n 0, 1), (81, .iload_n 2, 1), (82, .invokestatic 275, 3), (85, .ifCond .eq 7, 3), (88, .iconst 1, 1), (89, .goto 25, 3), (92, .iload_n 2, 1)] : List (Nat × Instr × Nat)), ax_dk cX10_lookAt q = true := by decide +kernel
theorem ax_d201_1 : ∀ q ∈ ([(93, .invokestatic 278, 3), (96, .ifCond .eq 7, 3), (99, .iconst 2, 1), (100, .goto 14, 3), (103, .iload_n 2, 1), (104, .bipush 59, 2), (106, .if_icmp .ne 7, 3), (109, .iconst 3, 1), (110, .goto 4, 3), (113, .iconst 4, 1), (114, .putfield 269, 3), (117, .aload_n 0, 1), (118, .iconst 1, 1), (119, .putfield 266, 3), (122, .aload_n 0, 1), (123, .getfield 269, 3), (126, .iconst 3, 1), (127, .if_icmp .ge 7, 3), (130, .iconst 1, 1), (131, .goto 4, 3), (134, .iconst 0, 1), (135, .istore_n 3, 1), (136, .iload_n 3, 1), (137, .ifCond .eq 78, 3), (140, .aload_n 0, 1), (141, .getfield 263, 3), (144, .aload_n 0, 1), (145, .getfield 266, 3), (148, .iadd, 1), (149, .aload_n 0, 1), (150, .getfield 252, 3), (153, .if_icmp .ge 62, 3), (156, .aload_n 0, 1), (157, .getfield 57, 3), (160, .aload_n 0, 1), (161, .getfield 263, 3), (164, .aload_n 0, 1), (165, .getfield 266, 3), (168, .iadd, 1), (169, .iaload, 1), (170, .istore 4, 2), (172, .aload_n 0, 1), (173, .getfield 269, 3), (176, .iconst 1, 1), (177, .if_icmp .ne 11, 3), (180, .iload 4, 2), (182, .invokestatic 275, 3), (185, .goto 8, 3), (188, .iload 4, 2), (190, .invokestatic 278, 3)] : List (Nat × Instr × Nat)), ax_dk cX10_lookAt q = true := by decide +kernel
theorem ax_d201_2 : ∀ q ∈ ([(193, .istore_n 3, 1), (194, .aload_n 0, 1), (195, .dup, 1), (196, .getfield 266, 3), (199, .iload_n 3, 1), (200, .ifCond .eq 7, 3), (203, .iconst 1, 1), (204, .goto 4, 3), (207, .iconst 0, 1), (208, .iadd, 1), (209, .putfield 266, 3), (212, .goto (-76), 3), (215, .iconst 0, 1), (216, .istore 4, 2), (218, .iload 4, 2), (220, .aload_n 0, 1), (221, .getfield 266, 3), (224, .if_icmp .ge 50, 3), (227, .iload 4, 2), (229, .iconst 2, 1), (230, .if_icmp .ge 44, 3), (233, .aload_n 0, 1), (234, .getfield 269, 3), (237, .iconst 2, 1), (238, .if_icmp .ne 36, 3), (241, .aload_n 0, 1), (242, .bipush 10, 2), (244, .aload_n 0, 1), (245, .getfield 272, 3), (248, .imul, 1), (249, .aload_n 0, 1), (250, .getfield 57, 3), (253, .aload_n 0, 1), (254, .getfield 263, 3), (257, .iload 4, 2), (259, .iadd, 1), (260, .iaload, 1), (261, .iadd, 1), (262, .bipush 48, 2), (264, .isub, 1), (265, .putfield 272, 3), (268, .iinc 4 1, 3), (271, .goto (-53), 3), (274, .aload_n 0, 1), (275, .aload_n 0, 1), (276, .getfield 269, 3), (279, .iconst 2, 1), (280, .if_icmp .ne 15, 3), (283, .aload_n 0, 1), (284, .getfield 266, 3)] : List (Nat × Instr × Nat)), ax_dk cX10_lookAt q = true := by decide +kernel
theorem ax_d201_3 : ∀ q ∈ ([(287, .iconst 2, 1), (288, .if_icmp .le 7, 3), (291, .iconst 4, 1), (292, .goto 7, 3), (295, .aload_n 0, 1), (296, .getfield 269, 3), (299, .putfield 269, 3), (302, .return_, 1)] : List (Nat × Instr × Nat)), ax_dk cX10_lookAt q = true := by decide +kernel
theorem ax_d202 : ∀ q ∈ ax_c202, ax_dk cX10_goBehind q = true := by decide +kernel
theorem ax_d203 : ∀ q ∈ ax_c203, ax_dk cX10_isWord q = true := by decide +kernel
theorem ax_d204 : ∀ q ∈ ax_c204, ax_dk cX10_takes q = true := by decide +kernel
theorem ax_d205 : ∀ q ∈ ax_c205, ax_dk cX10_takesFirst q = true := by decide +kernel
theorem ax_d206 : ∀ q ∈ ax_c206, ax_dk cX10_takesDish q = true := by decide +kernel
theorem ax_d207 : ∀ q ∈ ax_c207, ax_dk cX10_takesBook q = true := by decide +kernel
theorem ax_d208 : ∀ q ∈ ax_c208, ax_dk cX10_takesItem q = true := by decide +kernel
theorem ax_d209 : ∀ q ∈ ax_c209, ax_dk cX10_read q = true := by decide +kernel
theorem ax_d210 : ∀ q ∈ ax_c210, ax_dk cX10_part q = true := by decide +kernel
theorem ax_d211 : ∀ q ∈ ax_c211, ax_dk cX10_image q = true := by decide +kernel
theorem ax_d212 : ∀ q ∈ ax_c212, ax_dk cX10_from q = true := by decide +kernel
theorem ax_d213 : ∀ q ∈ ax_c213, ax_dk cX10_status q = true := by decide +kernel
theorem ax_d214 : ∀ q ∈ ax_c214, ax_dk cX10_counted q = true := by decide +kernel
theorem ax_d215 : ∀ q ∈ ax_c215, ax_dk cX10_count q = true := by decide +kernel
theorem ax_d216 : ∀ q ∈ ax_c216, ax_dk cX10_sums q = true := by decide +kernel
theorem ax_d217_0 : ∀ q ∈ ([(0, .ldc2_w 312, 3), (3, .lstore_n 1, 1), (4, .iconst 0, 1), (5, .istore_n 3, 1), (6, .iload_n 3, 1), (7, .bipush 6, 2), (9, .if_icmp .ge 22, 3), (12, .ldc2_w 310, 3), (15, .lload_n 1, 1), (16, .lmul, 1), (17, .aload_n 0, 1), (18, .iload_n 3, 1), (19, .invokevirtual 307, 3), (22, .i2l, 1), (23, .ladd, 1), (24, .lstore_n 1, 1), (25, .iinc 3 1, 3), (28, .goto (-22), 3), (31, .ldc2_w 310, 3), (34, .lload_n 1, 1), (35, .lmul, 1), (36, .aload_n 0, 1), (37, .getfield 7, 3), (40, .iconst 2, 1), (41, .iaload, 1), (42, .i2l, 1), (43, .ladd, 1), (44, .lstore_n 1, 1), (45, .aload_n 0, 1), (46, .lload_n 1, 1), (47, .bipush 46, 2), (49, .bipush 25, 2), (51, .invokevirtual 314, 3), (54, .lstore_n 1, 1), (55, .aload_n 0, 1), (56, .lload_n 1, 1), (57, .bipush 6, 2), (59, .iconst 5, 1), (60, .aload_n 0, 1), (61, .invokevirtual 70, 3), (64, .imul, 1), (65, .invokevirtual 314, 3), (68, .lstore_n 1, 1), (69, .iconst 0, 1), (70, .istore_n 3, 1), (71, .iload_n 3, 1), (72, .aload_n 0, 1), (73, .getfield 7, 3), (76, .iconst 3, 1), (77, .iaload, 1)] : List (Nat × Instr × Nat)), ax_dk cX10_digest q = true := by decide +kernel
theorem ax_d217_1 : ∀ q ∈ ([(78, .if_icmp .ge 22, 3), (81, .aload_n 0, 1), (82, .lload_n 1, 1), (83, .bipush 71, 2), (85, .iconst 4, 1), (86, .iload_n 3, 1), (87, .imul, 1), (88, .iadd, 1), (89, .iconst 3, 1), (90, .invokevirtual 314, 3), (93, .lstore_n 1, 1), (94, .iinc 3 1, 3), (97, .goto (-26), 3), (100, .aload_n 0, 1), (101, .lload_n 1, 1), (102, .bipush 107, 2), (104, .aload_n 0, 1), (105, .getfield 7, 3), (108, .iconst 4, 1), (109, .iaload, 1), (110, .invokevirtual 314, 3), (113, .lstore_n 1, 1), (114, .iconst 0, 1), (115, .istore_n 3, 1), (116, .iload_n 3, 1), (117, .aload_n 0, 1), (118, .getfield 7, 3), (121, .iconst 5, 1), (122, .iaload, 1), (123, .if_icmp .ge 38, 3), (126, .aload_n 0, 1), (127, .lload_n 1, 1), (128, .bipush 115, 2), (130, .bipush 11, 2), (132, .iload_n 3, 1), (133, .imul, 1), (134, .iadd, 1), (135, .iconst 3, 1), (136, .aload_n 0, 1), (137, .getfield 7, 3), (140, .bipush 115, 2), (142, .bipush 11, 2), (144, .iload_n 3, 1), (145, .imul, 1), (146, .iadd, 1), (147, .iconst 2, 1), (148, .iadd, 1), (149, .iaload, 1), (150, .iadd, 1), (151, .invokevirtual 314, 3)] : List (Nat × Instr × Nat)), ax_dk cX10_digest q = true := by decide +kernel
theorem ax_d217_2 : ∀ q ∈ ([(154, .lstore_n 1, 1), (155, .iinc 3 1, 3), (158, .goto (-42), 3), (161, .ldc2_w 310, 3), (164, .ldc2_w 310, 3), (167, .lload_n 1, 1), (168, .lmul, 1), (169, .aload_n 0, 1), (170, .getfield 229, 3), (173, .ladd, 1), (174, .lmul, 1), (175, .aload_n 0, 1), (176, .getfield 23, 3), (179, .ladd, 1), (180, .lreturn, 1)] : List (Nat × Instr × Nat)), ax_dk cX10_digest q = true := by decide +kernel
theorem ax_d218 : ∀ q ∈ ax_c218, ax_dk cJ6_bitCount_0f7a4 q = true := by decide +kernel
theorem ax_d219 : ∀ q ∈ ax_c219, ax_dk cJ0_length_8abf5 q = true := by decide +kernel
theorem ax_d220 : ∀ q ∈ ax_c220, ax_dk cJ0_charAt_5068e q = true := by decide +kernel
theorem ax_d221 : ∀ q ∈ ax_c221, ax_dk cJ0_coder_7d493 q = true := by decide +kernel
theorem ax_d222 : ∀ q ∈ ax_c222, ax_dk cJ0_isLatin1_aae02 q = true := by decide +kernel
theorem ax_d223 : ∀ q ∈ ax_c223, ax_dk cJ0_checkIndex_df160 q = true := by decide +kernel
theorem ax_d224 : ∀ q ∈ ax_c224, ax_dk cJ1_charAt_3b067 q = true := by decide +kernel
theorem ax_d225 : ∀ q ∈ ax_c225, ax_dk cJ3_checkIndex_8e157 q = true := by decide +kernel
theorem ax_d226_0 : ∀ q ∈ ([(0, .new 7, 3), (3, .dup, 1), (4, .invokespecial 9, 3), (7, .astore_n 1, 1), (8, .new 10, 3), (11, .dup, 1), (12, .invokespecial 12, 3), (15, .astore_n 2, 1), (16, .iconst 0, 1), (17, .istore_n 3, 1), (18, .iload_n 3, 1), (19, .aload_n 0, 1), (20, .arraylength, 1), (21, .bipush 6, 2), (23, .isub, 1), (24, .if_icmp .gt 1067, 3), (27, .aload_n 0, 1), (28, .iload_n 3, 1), (29, .iaload, 1), (30, .bipush 63, 2), (32, .iand, 1), (33, .tableswitch 1052 0 34 #[155, 178, 241, 284, 307, 330, 343, 356, 389, 402, 435, 468, 481, 494, 517, 530, 553, 586, 619, 652, 685, 708, 731, 764, 777, 800, 823, 846, 889, 922, 946, 969, 992, 1015, 1038], 155), (188, .aload_n 1, 1), (189, .aload_n 0, 1), (190, .iload_n 3, 1), (191, .iconst 1, 1), (192, .iadd, 1), (193, .iaload, 1), (194, .invokevirtual 13, 3), (197, .aload_n 2, 1), (198, .aload_n 0, 1), (199, .iload_n 3, 1), (200, .iconst 1, 1), (201, .iadd, 1), (202, .iaload, 1), (203, .invokevirtual 17, 3), (206, .if_icmp .eq 879, 3), (209, .iconst 0, 1), (210, .ireturn, 1), (211, .aload_n 1, 1), (212, .aload_n 0, 1), (213, .iload_n 3, 1), (214, .iconst 1, 1), (215, .iadd, 1), (216, .iaload, 1), (217, .aload_n 0, 1), (218, .iload_n 3, 1), (219, .iconst 2, 1), (220, .iadd, 1), (221, .iaload, 1)] : List (Nat × Instr × Nat)), ax_dk cL_law q = true := by decide +kernel
theorem ax_d226_1 : ∀ q ∈ ([(222, .aload_n 0, 1), (223, .iload_n 3, 1), (224, .iconst 3, 1), (225, .iadd, 1), (226, .iaload, 1), (227, .aload_n 0, 1), (228, .iload_n 3, 1), (229, .iconst 4, 1), (230, .iadd, 1), (231, .iaload, 1), (232, .aload_n 0, 1), (233, .iload_n 3, 1), (234, .iconst 5, 1), (235, .iadd, 1), (236, .iaload, 1), (237, .invokevirtual 18, 3), (240, .aload_n 2, 1), (241, .aload_n 0, 1), (242, .iload_n 3, 1), (243, .iconst 1, 1), (244, .iadd, 1), (245, .iaload, 1), (246, .aload_n 0, 1), (247, .iload_n 3, 1), (248, .iconst 2, 1), (249, .iadd, 1), (250, .iaload, 1), (251, .aload_n 0, 1), (252, .iload_n 3, 1), (253, .iconst 3, 1), (254, .iadd, 1), (255, .iaload, 1), (256, .aload_n 0, 1), (257, .iload_n 3, 1), (258, .iconst 4, 1), (259, .iadd, 1), (260, .iaload, 1), (261, .aload_n 0, 1), (262, .iload_n 3, 1), (263, .iconst 5, 1), (264, .iadd, 1), (265, .iaload, 1), (266, .invokevirtual 22, 3), (269, .if_icmp .eq 816, 3), (272, .iconst 0, 1), (273, .ireturn, 1), (274, .aload_n 1, 1), (275, .aload_n 0, 1), (276, .iload_n 3, 1), (277, .iconst 1, 1)] : List (Nat × Instr × Nat)), ax_dk cL_law q = true := by decide +kernel
theorem ax_d226_2 : ∀ q ∈ ([(278, .iadd, 1), (279, .iaload, 1), (280, .aload_n 0, 1), (281, .iload_n 3, 1), (282, .iconst 2, 1), (283, .iadd, 1), (284, .iaload, 1), (285, .aload_n 0, 1), (286, .iload_n 3, 1), (287, .iconst 3, 1), (288, .iadd, 1), (289, .iaload, 1), (290, .invokevirtual 23, 3), (293, .aload_n 2, 1), (294, .aload_n 0, 1), (295, .iload_n 3, 1), (296, .iconst 1, 1), (297, .iadd, 1), (298, .iaload, 1), (299, .aload_n 0, 1), (300, .iload_n 3, 1), (301, .iconst 2, 1), (302, .iadd, 1), (303, .iaload, 1), (304, .aload_n 0, 1), (305, .iload_n 3, 1), (306, .iconst 3, 1), (307, .iadd, 1), (308, .iaload, 1), (309, .invokevirtual 27, 3), (312, .if_icmp .eq 773, 3), (315, .iconst 0, 1), (316, .ireturn, 1), (317, .aload_n 1, 1), (318, .aload_n 0, 1), (319, .iload_n 3, 1), (320, .iconst 1, 1), (321, .iadd, 1), (322, .iaload, 1), (323, .invokevirtual 28, 3), (326, .aload_n 2, 1), (327, .aload_n 0, 1), (328, .iload_n 3, 1), (329, .iconst 1, 1), (330, .iadd, 1), (331, .iaload, 1), (332, .invokevirtual 31, 3), (335, .if_icmp .eq 750, 3), (338, .iconst 0, 1), (339, .ireturn, 1)] : List (Nat × Instr × Nat)), ax_dk cL_law q = true := by decide +kernel
theorem ax_d226_3 : ∀ q ∈ ([(340, .aload_n 1, 1), (341, .aload_n 0, 1), (342, .iload_n 3, 1), (343, .iconst 1, 1), (344, .iadd, 1), (345, .iaload, 1), (346, .invokevirtual 32, 3), (349, .aload_n 2, 1), (350, .aload_n 0, 1), (351, .iload_n 3, 1), (352, .iconst 1, 1), (353, .iadd, 1), (354, .iaload, 1), (355, .invokevirtual 35, 3), (358, .if_icmp .eq 727, 3), (361, .iconst 0, 1), (362, .ireturn, 1), (363, .aload_n 1, 1), (364, .invokevirtual 36, 3), (367, .aload_n 2, 1), (368, .invokevirtual 40, 3), (371, .if_icmp .eq 714, 3), (374, .iconst 0, 1), (375, .ireturn, 1), (376, .aload_n 1, 1), (377, .invokevirtual 41, 3), (380, .aload_n 2, 1), (381, .invokevirtual 44, 3), (384, .if_icmp .eq 701, 3), (387, .iconst 0, 1), (388, .ireturn, 1), (389, .aload_n 1, 1), (390, .aload_n 0, 1), (391, .iload_n 3, 1), (392, .iconst 1, 1), (393, .iadd, 1), (394, .iaload, 1), (395, .aload_n 0, 1), (396, .iload_n 3, 1), (397, .iconst 2, 1), (398, .iadd, 1), (399, .iaload, 1), (400, .invokevirtual 45, 3), (403, .aload_n 2, 1), (404, .aload_n 0, 1), (405, .iload_n 3, 1), (406, .iconst 1, 1), (407, .iadd, 1), (408, .iaload, 1), (409, .aload_n 0, 1)] : List (Nat × Instr × Nat)), ax_dk cL_law q = true := by decide +kernel
theorem ax_d226_4 : ∀ q ∈ ([(410, .iload_n 3, 1), (411, .iconst 2, 1), (412, .iadd, 1), (413, .iaload, 1), (414, .invokevirtual 49, 3), (417, .if_icmp .eq 668, 3), (420, .iconst 0, 1), (421, .ireturn, 1), (422, .aload_n 1, 1), (423, .invokevirtual 50, 3), (426, .aload_n 2, 1), (427, .invokevirtual 53, 3), (430, .if_icmp .eq 655, 3), (433, .iconst 0, 1), (434, .ireturn, 1), (435, .aload_n 1, 1), (436, .aload_n 0, 1), (437, .iload_n 3, 1), (438, .iconst 1, 1), (439, .iadd, 1), (440, .iaload, 1), (441, .aload_n 0, 1), (442, .iload_n 3, 1), (443, .iconst 2, 1), (444, .iadd, 1), (445, .iaload, 1), (446, .invokevirtual 54, 3), (449, .aload_n 2, 1), (450, .aload_n 0, 1), (451, .iload_n 3, 1), (452, .iconst 1, 1), (453, .iadd, 1), (454, .iaload, 1), (455, .aload_n 0, 1), (456, .iload_n 3, 1), (457, .iconst 2, 1), (458, .iadd, 1), (459, .iaload, 1), (460, .invokevirtual 57, 3), (463, .if_icmp .eq 622, 3), (466, .iconst 0, 1), (467, .ireturn, 1), (468, .aload_n 1, 1), (469, .aload_n 0, 1), (470, .iload_n 3, 1), (471, .iconst 1, 1), (472, .iadd, 1), (473, .iaload, 1), (474, .aload_n 0, 1), (475, .iload_n 3, 1)] : List (Nat × Instr × Nat)), ax_dk cL_law q = true := by decide +kernel
theorem ax_d226_5 : ∀ q ∈ ([(476, .iconst 2, 1), (477, .iadd, 1), (478, .iaload, 1), (479, .invokevirtual 58, 3), (482, .aload_n 2, 1), (483, .aload_n 0, 1), (484, .iload_n 3, 1), (485, .iconst 1, 1), (486, .iadd, 1), (487, .iaload, 1), (488, .aload_n 0, 1), (489, .iload_n 3, 1), (490, .iconst 2, 1), (491, .iadd, 1), (492, .iaload, 1), (493, .invokevirtual 61, 3), (496, .if_icmp .eq 589, 3), (499, .iconst 0, 1), (500, .ireturn, 1), (501, .aload_n 1, 1), (502, .invokevirtual 62, 3), (505, .aload_n 2, 1), (506, .invokevirtual 65, 3), (509, .if_icmp .eq 576, 3), (512, .iconst 0, 1), (513, .ireturn, 1), (514, .aload_n 1, 1), (515, .invokevirtual 66, 3), (518, .aload_n 2, 1), (519, .invokevirtual 69, 3), (522, .if_icmp .eq 563, 3), (525, .iconst 0, 1), (526, .ireturn, 1), (527, .aload_n 1, 1), (528, .aload_n 0, 1), (529, .iload_n 3, 1), (530, .iconst 1, 1), (531, .iadd, 1), (532, .iaload, 1), (533, .invokevirtual 70, 3), (536, .aload_n 2, 1), (537, .aload_n 0, 1), (538, .iload_n 3, 1), (539, .iconst 1, 1), (540, .iadd, 1), (541, .iaload, 1), (542, .invokevirtual 73, 3), (545, .if_icmp .eq 540, 3), (548, .iconst 0, 1), (549, .ireturn, 1)] : List (Nat × Instr × Nat)), ax_dk cL_law q = true := by decide +kernel
theorem ax_d226_6 : ∀ q ∈ ([(550, .aload_n 1, 1), (551, .invokevirtual 74, 3), (554, .aload_n 2, 1), (555, .invokevirtual 77, 3), (558, .if_icmp .eq 527, 3), (561, .iconst 0, 1), (562, .ireturn, 1), (563, .aload_n 1, 1), (564, .aload_n 0, 1), (565, .iload_n 3, 1), (566, .iconst 1, 1), (567, .iadd, 1), (568, .iaload, 1), (569, .invokevirtual 78, 3), (572, .aload_n 2, 1), (573, .aload_n 0, 1), (574, .iload_n 3, 1), (575, .iconst 1, 1), (576, .iadd, 1), (577, .iaload, 1), (578, .invokevirtual 81, 3), (581, .if_icmp .eq 504, 3), (584, .iconst 0, 1), (585, .ireturn, 1), (586, .aload_n 1, 1), (587, .aload_n 0, 1), (588, .iload_n 3, 1), (589, .iconst 1, 1), (590, .iadd, 1), (591, .iaload, 1), (592, .aload_n 0, 1), (593, .iload_n 3, 1), (594, .iconst 2, 1), (595, .iadd, 1), (596, .iaload, 1), (597, .invokevirtual 82, 3), (600, .aload_n 2, 1), (601, .aload_n 0, 1), (602, .iload_n 3, 1), (603, .iconst 1, 1), (604, .iadd, 1), (605, .iaload, 1), (606, .aload_n 0, 1), (607, .iload_n 3, 1), (608, .iconst 2, 1), (609, .iadd, 1), (610, .iaload, 1), (611, .invokevirtual 85, 3), (614, .if_icmp .eq 471, 3), (617, .iconst 0, 1)] : List (Nat × Instr × Nat)), ax_dk cL_law q = true := by decide +kernel
theorem ax_d226_7 : ∀ q ∈ ([(618, .ireturn, 1), (619, .aload_n 1, 1), (620, .aload_n 0, 1), (621, .iload_n 3, 1), (622, .iconst 1, 1), (623, .iadd, 1), (624, .iaload, 1), (625, .aload_n 0, 1), (626, .iload_n 3, 1), (627, .iconst 2, 1), (628, .iadd, 1), (629, .iaload, 1), (630, .invokevirtual 86, 3), (633, .aload_n 2, 1), (634, .aload_n 0, 1), (635, .iload_n 3, 1), (636, .iconst 1, 1), (637, .iadd, 1), (638, .iaload, 1), (639, .aload_n 0, 1), (640, .iload_n 3, 1), (641, .iconst 2, 1), (642, .iadd, 1), (643, .iaload, 1), (644, .invokevirtual 89, 3), (647, .if_icmp .eq 438, 3), (650, .iconst 0, 1), (651, .ireturn, 1), (652, .aload_n 1, 1), (653, .aload_n 0, 1), (654, .iload_n 3, 1), (655, .iconst 1, 1), (656, .iadd, 1), (657, .iaload, 1), (658, .aload_n 0, 1), (659, .iload_n 3, 1), (660, .iconst 2, 1), (661, .iadd, 1), (662, .iaload, 1), (663, .invokevirtual 90, 3), (666, .aload_n 2, 1), (667, .aload_n 0, 1), (668, .iload_n 3, 1), (669, .iconst 1, 1), (670, .iadd, 1), (671, .iaload, 1), (672, .aload_n 0, 1), (673, .iload_n 3, 1), (674, .iconst 2, 1), (675, .iadd, 1)] : List (Nat × Instr × Nat)), ax_dk cL_law q = true := by decide +kernel
theorem ax_d226_8 : ∀ q ∈ ([(676, .iaload, 1), (677, .invokevirtual 93, 3), (680, .if_icmp .eq 405, 3), (683, .iconst 0, 1), (684, .ireturn, 1), (685, .aload_n 1, 1), (686, .aload_n 0, 1), (687, .iload_n 3, 1), (688, .iconst 1, 1), (689, .iadd, 1), (690, .iaload, 1), (691, .aload_n 0, 1), (692, .iload_n 3, 1), (693, .iconst 2, 1), (694, .iadd, 1), (695, .iaload, 1), (696, .invokevirtual 94, 3), (699, .aload_n 2, 1), (700, .aload_n 0, 1), (701, .iload_n 3, 1), (702, .iconst 1, 1), (703, .iadd, 1), (704, .iaload, 1), (705, .aload_n 0, 1), (706, .iload_n 3, 1), (707, .iconst 2, 1), (708, .iadd, 1), (709, .iaload, 1), (710, .invokevirtual 97, 3), (713, .if_icmp .eq 372, 3), (716, .iconst 0, 1), (717, .ireturn, 1), (718, .aload_n 1, 1), (719, .aload_n 0, 1), (720, .iload_n 3, 1), (721, .iconst 1, 1), (722, .iadd, 1), (723, .iaload, 1), (724, .invokevirtual 98, 3), (727, .aload_n 2, 1), (728, .aload_n 0, 1), (729, .iload_n 3, 1), (730, .iconst 1, 1), (731, .iadd, 1), (732, .iaload, 1), (733, .invokevirtual 101, 3), (736, .if_icmp .eq 349, 3), (739, .iconst 0, 1), (740, .ireturn, 1), (741, .aload_n 1, 1)] : List (Nat × Instr × Nat)), ax_dk cL_law q = true := by decide +kernel
theorem ax_d226_9 : ∀ q ∈ ([(742, .aload_n 0, 1), (743, .iload_n 3, 1), (744, .iconst 1, 1), (745, .iadd, 1), (746, .iaload, 1), (747, .invokevirtual 102, 3), (750, .aload_n 2, 1), (751, .aload_n 0, 1), (752, .iload_n 3, 1), (753, .iconst 1, 1), (754, .iadd, 1), (755, .iaload, 1), (756, .invokevirtual 105, 3), (759, .if_icmp .eq 326, 3), (762, .iconst 0, 1), (763, .ireturn, 1), (764, .aload_n 1, 1), (765, .aload_n 0, 1), (766, .iload_n 3, 1), (767, .iconst 1, 1), (768, .iadd, 1), (769, .iaload, 1), (770, .aload_n 0, 1), (771, .iload_n 3, 1), (772, .iconst 2, 1), (773, .iadd, 1), (774, .iaload, 1), (775, .invokevirtual 106, 3), (778, .aload_n 2, 1), (779, .aload_n 0, 1), (780, .iload_n 3, 1), (781, .iconst 1, 1), (782, .iadd, 1), (783, .iaload, 1), (784, .aload_n 0, 1), (785, .iload_n 3, 1), (786, .iconst 2, 1), (787, .iadd, 1), (788, .iaload, 1), (789, .invokevirtual 109, 3), (792, .if_icmp .eq 293, 3), (795, .iconst 0, 1), (796, .ireturn, 1), (797, .aload_n 1, 1), (798, .invokevirtual 110, 3), (801, .aload_n 2, 1), (802, .invokevirtual 113, 3), (805, .if_icmp .eq 280, 3), (808, .iconst 0, 1), (809, .ireturn, 1)] : List (Nat × Instr × Nat)), ax_dk cL_law q = true := by decide +kernel
theorem ax_d226_10 : ∀ q ∈ ([(810, .aload_n 1, 1), (811, .aload_n 0, 1), (812, .iload_n 3, 1), (813, .iconst 1, 1), (814, .iadd, 1), (815, .iaload, 1), (816, .invokevirtual 114, 3), (819, .aload_n 2, 1), (820, .aload_n 0, 1), (821, .iload_n 3, 1), (822, .iconst 1, 1), (823, .iadd, 1), (824, .iaload, 1), (825, .invokevirtual 117, 3), (828, .if_icmp .eq 257, 3), (831, .iconst 0, 1), (832, .ireturn, 1), (833, .aload_n 1, 1), (834, .aload_n 0, 1), (835, .iload_n 3, 1), (836, .iconst 1, 1), (837, .iadd, 1), (838, .iaload, 1), (839, .invokevirtual 118, 3), (842, .aload_n 2, 1), (843, .aload_n 0, 1), (844, .iload_n 3, 1), (845, .iconst 1, 1), (846, .iadd, 1), (847, .iaload, 1), (848, .invokevirtual 121, 3), (851, .if_icmp .eq 234, 3), (854, .iconst 0, 1), (855, .ireturn, 1), (856, .aload_n 1, 1), (857, .aload_n 0, 1), (858, .iload_n 3, 1), (859, .iconst 1, 1), (860, .iadd, 1), (861, .iaload, 1), (862, .invokevirtual 122, 3), (865, .aload_n 2, 1), (866, .aload_n 0, 1), (867, .iload_n 3, 1), (868, .iconst 1, 1), (869, .iadd, 1), (870, .iaload, 1), (871, .invokevirtual 125, 3), (874, .if_icmp .eq 211, 3), (877, .iconst 0, 1)] : List (Nat × Instr × Nat)), ax_dk cL_law q = true := by decide +kernel
theorem ax_d226_11 : ∀ q ∈ ([(878, .ireturn, 1), (879, .aload_n 1, 1), (880, .aload_n 0, 1), (881, .iload_n 3, 1), (882, .iconst 1, 1), (883, .iadd, 1), (884, .iaload, 1), (885, .aload_n 0, 1), (886, .iload_n 3, 1), (887, .iconst 2, 1), (888, .iadd, 1), (889, .iaload, 1), (890, .aload_n 0, 1), (891, .iload_n 3, 1), (892, .iconst 3, 1), (893, .iadd, 1), (894, .iaload, 1), (895, .invokevirtual 126, 3), (898, .aload_n 2, 1), (899, .aload_n 0, 1), (900, .iload_n 3, 1), (901, .iconst 1, 1), (902, .iadd, 1), (903, .iaload, 1), (904, .aload_n 0, 1), (905, .iload_n 3, 1), (906, .iconst 2, 1), (907, .iadd, 1), (908, .iaload, 1), (909, .aload_n 0, 1), (910, .iload_n 3, 1), (911, .iconst 3, 1), (912, .iadd, 1), (913, .iaload, 1), (914, .invokevirtual 129, 3), (917, .if_icmp .eq 168, 3), (920, .iconst 0, 1), (921, .ireturn, 1), (922, .aload_n 1, 1), (923, .aload_n 0, 1), (924, .iload_n 3, 1), (925, .iconst 1, 1), (926, .iadd, 1), (927, .iaload, 1), (928, .aload_n 0, 1), (929, .iload_n 3, 1), (930, .iconst 2, 1), (931, .iadd, 1), (932, .iaload, 1), (933, .invokevirtual 130, 3)] : List (Nat × Instr × Nat)), ax_dk cL_law q = true := by decide +kernel
theorem ax_d226_12 : ∀ q ∈ ([(936, .aload_n 2, 1), (937, .aload_n 0, 1), (938, .iload_n 3, 1), (939, .iconst 1, 1), (940, .iadd, 1), (941, .iaload, 1), (942, .aload_n 0, 1), (943, .iload_n 3, 1), (944, .iconst 2, 1), (945, .iadd, 1), (946, .iaload, 1), (947, .invokevirtual 133, 3), (950, .if_icmp .eq 135, 3), (953, .iconst 0, 1), (954, .ireturn, 1), (955, .aload_n 1, 1), (956, .aload_n 0, 1), (957, .iload_n 3, 1), (958, .iconst 1, 1), (959, .iadd, 1), (960, .iaload, 1), (961, .invokevirtual 134, 3), (964, .aload_n 2, 1), (965, .aload_n 0, 1), (966, .iload_n 3, 1), (967, .iconst 1, 1), (968, .iadd, 1), (969, .iaload, 1), (970, .invokevirtual 138, 3), (973, .lcmp, 1), (974, .ifCond .eq 111, 3), (977, .iconst 0, 1), (978, .ireturn, 1), (979, .aload_n 1, 1), (980, .aload_n 0, 1), (981, .iload_n 3, 1), (982, .iconst 1, 1), (983, .iadd, 1), (984, .iaload, 1), (985, .invokevirtual 139, 3), (988, .aload_n 2, 1), (989, .aload_n 0, 1), (990, .iload_n 3, 1), (991, .iconst 1, 1), (992, .iadd, 1), (993, .iaload, 1), (994, .invokevirtual 142, 3), (997, .if_icmp .eq 88, 3), (1000, .iconst 0, 1), (1001, .ireturn, 1)] : List (Nat × Instr × Nat)), ax_dk cL_law q = true := by decide +kernel
theorem ax_d226_13 : ∀ q ∈ ([(1002, .aload_n 1, 1), (1003, .aload_n 0, 1), (1004, .iload_n 3, 1), (1005, .iconst 1, 1), (1006, .iadd, 1), (1007, .iaload, 1), (1008, .invokevirtual 143, 3), (1011, .aload_n 2, 1), (1012, .aload_n 0, 1), (1013, .iload_n 3, 1), (1014, .iconst 1, 1), (1015, .iadd, 1), (1016, .iaload, 1), (1017, .invokevirtual 146, 3), (1020, .if_icmp .eq 65, 3), (1023, .iconst 0, 1), (1024, .ireturn, 1), (1025, .aload_n 1, 1), (1026, .aload_n 0, 1), (1027, .iload_n 3, 1), (1028, .iconst 1, 1), (1029, .iadd, 1), (1030, .iaload, 1), (1031, .invokevirtual 147, 3), (1034, .aload_n 2, 1), (1035, .aload_n 0, 1), (1036, .iload_n 3, 1), (1037, .iconst 1, 1), (1038, .iadd, 1), (1039, .iaload, 1), (1040, .invokevirtual 150, 3), (1043, .if_icmp .eq 42, 3), (1046, .iconst 0, 1), (1047, .ireturn, 1), (1048, .aload_n 1, 1), (1049, .aload_n 0, 1), (1050, .iload_n 3, 1), (1051, .iconst 1, 1), (1052, .iadd, 1), (1053, .iaload, 1), (1054, .invokevirtual 151, 3), (1057, .aload_n 2, 1), (1058, .aload_n 0, 1), (1059, .iload_n 3, 1), (1060, .iconst 1, 1), (1061, .iadd, 1), (1062, .iaload, 1), (1063, .invokevirtual 154, 3), (1066, .if_icmp .eq 19, 3), (1069, .iconst 0, 1)] : List (Nat × Instr × Nat)), ax_dk cL_law q = true := by decide +kernel
theorem ax_d226_14 : ∀ q ∈ ([(1070, .ireturn, 1), (1071, .aload_n 1, 1), (1072, .invokevirtual 155, 3), (1075, .aload_n 2, 1), (1076, .invokevirtual 159, 3), (1079, .lcmp, 1), (1080, .ifCond .eq 5, 3), (1083, .iconst 0, 1), (1084, .ireturn, 1), (1085, .iinc 3 6, 3), (1088, .goto (-1070), 3), (1091, .iconst 1, 1), (1092, .ireturn, 1)] : List (Nat × Instr × Nat)), ax_dk cL_law q = true := by decide +kernel
end
section
set_option maxRecDepth 100000 in
theorem ax_d10 : ∀ q ∈ ax_c10, ax_dk cX0_does q = true := List.forall_mem_append.mpr ⟨ax_d10_0, ax_d10_1⟩
set_option maxRecDepth 100000 in
theorem ax_d32 : ∀ q ∈ ax_c32, ax_dk cX3_tryBehind q = true := List.forall_mem_append.mpr ⟨ax_d32_0, ax_d32_1⟩
set_option maxRecDepth 100000 in
theorem ax_d50 : ∀ q ∈ ax_c50, ax_dk cX5_next q = true := List.forall_mem_append.mpr ⟨ax_d50_0, List.forall_mem_append.mpr ⟨ax_d50_1, ax_d50_2⟩⟩
set_option maxRecDepth 100000 in
theorem ax_d80 : ∀ q ∈ ax_c80, ax_dk cX9_init q = true := List.forall_mem_append.mpr ⟨ax_d80_0, ax_d80_1⟩
set_option maxRecDepth 100000 in
theorem ax_d82 : ∀ q ∈ ax_c82, ax_dk cX9_dish q = true := List.forall_mem_append.mpr ⟨ax_d82_0, ax_d82_1⟩
set_option maxRecDepth 100000 in
theorem ax_d115 : ∀ q ∈ ax_c115, ax_dk cX9_digest q = true := List.forall_mem_append.mpr ⟨ax_d115_0, ax_d115_1⟩
set_option maxRecDepth 100000 in
theorem ax_d134 : ∀ q ∈ ax_c134, ax_dk cX10_init q = true := List.forall_mem_append.mpr ⟨ax_d134_0, ax_d134_1⟩
set_option maxRecDepth 100000 in
theorem ax_d161 : ∀ q ∈ ax_c161, ax_dk cX10_serve q = true := List.forall_mem_append.mpr ⟨ax_d161_0, ax_d161_1⟩
set_option maxRecDepth 100000 in
theorem ax_d176 : ∀ q ∈ ax_c176, ax_dk cX10_layPlay q = true := List.forall_mem_append.mpr ⟨ax_d176_0, List.forall_mem_append.mpr ⟨ax_d176_1, ax_d176_2⟩⟩
set_option maxRecDepth 100000 in
theorem ax_d181 : ∀ q ∈ ax_c181, ax_dk cX10_layPardon q = true := List.forall_mem_append.mpr ⟨ax_d181_0, ax_d181_1⟩
set_option maxRecDepth 100000 in
theorem ax_d184 : ∀ q ∈ ax_c184, ax_dk cX10_cancel q = true := List.forall_mem_append.mpr ⟨ax_d184_0, ax_d184_1⟩
set_option maxRecDepth 100000 in
theorem ax_d186 : ∀ q ∈ ax_c186, ax_dk cX10_reading q = true := List.forall_mem_append.mpr ⟨ax_d186_0, ax_d186_1⟩
set_option maxRecDepth 100000 in
theorem ax_d192 : ∀ q ∈ ax_c192, ax_dk cX10_tells q = true := List.forall_mem_append.mpr ⟨ax_d192_0, ax_d192_1⟩
set_option maxRecDepth 100000 in
theorem ax_d195 : ∀ q ∈ ax_c195, ax_dk cX10_burnt q = true := List.forall_mem_append.mpr ⟨ax_d195_0, ax_d195_1⟩
set_option maxRecDepth 100000 in
theorem ax_d196 : ∀ q ∈ ax_c196, ax_dk cX10_dinners q = true := List.forall_mem_append.mpr ⟨ax_d196_0, ax_d196_1⟩
set_option maxRecDepth 100000 in
theorem ax_d201 : ∀ q ∈ ax_c201, ax_dk cX10_lookAt q = true := List.forall_mem_append.mpr ⟨ax_d201_0, List.forall_mem_append.mpr ⟨ax_d201_1, List.forall_mem_append.mpr ⟨ax_d201_2, ax_d201_3⟩⟩⟩
set_option maxRecDepth 100000 in
theorem ax_d217 : ∀ q ∈ ax_c217, ax_dk cX10_digest q = true := List.forall_mem_append.mpr ⟨ax_d217_0, List.forall_mem_append.mpr ⟨ax_d217_1, ax_d217_2⟩⟩
set_option maxRecDepth 100000 in
theorem ax_d226 : ∀ q ∈ ax_c226, ax_dk cL_law q = true := List.forall_mem_append.mpr ⟨ax_d226_0, List.forall_mem_append.mpr ⟨ax_d226_1, List.forall_mem_append.mpr ⟨ax_d226_2, List.forall_mem_append.mpr ⟨ax_d226_3, List.forall_mem_append.mpr ⟨ax_d226_4, List.forall_mem_append.mpr ⟨ax_d226_5, List.forall_mem_append.mpr ⟨ax_d226_6, List.forall_mem_append.mpr ⟨ax_d226_7, List.forall_mem_append.mpr ⟨ax_d226_8, List.forall_mem_append.mpr ⟨ax_d226_9, List.forall_mem_append.mpr ⟨ax_d226_10, List.forall_mem_append.mpr ⟨ax_d226_11, List.forall_mem_append.mpr ⟨ax_d226_12, List.forall_mem_append.mpr ⟨ax_d226_13, ax_d226_14⟩⟩⟩⟩⟩⟩⟩⟩⟩⟩⟩⟩⟩⟩
theorem ax_dd : ∀ z, z < 227 → ∀ q ∈ ax_codes.getD z [], ax_dk (ax_by z) q = true := by
  intro z h
  match z, h with
  | 0, _ => exact ax_d0
  | 1, _ => exact ax_d1
  | 2, _ => exact ax_d2
  | 3, _ => exact ax_d3
  | 4, _ => exact ax_d4
  | 5, _ => exact ax_d5
  | 6, _ => exact ax_d6
  | 7, _ => exact ax_d7
  | 8, _ => exact ax_d8
  | 9, _ => exact ax_d9
  | 10, _ => exact ax_d10
  | 11, _ => exact ax_d11
  | 12, _ => exact ax_d12
  | 13, _ => exact ax_d13
  | 14, _ => exact ax_d14
  | 15, _ => exact ax_d15
  | 16, _ => exact ax_d16
  | 17, _ => exact ax_d17
  | 18, _ => exact ax_d18
  | 19, _ => exact ax_d19
  | 20, _ => exact ax_d20
  | 21, _ => exact ax_d21
  | 22, _ => exact ax_d22
  | 23, _ => exact ax_d23
  | 24, _ => exact ax_d24
  | 25, _ => exact ax_d25
  | 26, _ => exact ax_d26
  | 27, _ => exact ax_d27
  | 28, _ => exact ax_d28
  | 29, _ => exact ax_d29
  | 30, _ => exact ax_d30
  | 31, _ => exact ax_d31
  | 32, _ => exact ax_d32
  | 33, _ => exact ax_d33
  | 34, _ => exact ax_d34
  | 35, _ => exact ax_d35
  | 36, _ => exact ax_d36
  | 37, _ => exact ax_d37
  | 38, _ => exact ax_d38
  | 39, _ => exact ax_d39
  | 40, _ => exact ax_d40
  | 41, _ => exact ax_d41
  | 42, _ => exact ax_d42
  | 43, _ => exact ax_d43
  | 44, _ => exact ax_d44
  | 45, _ => exact ax_d45
  | 46, _ => exact ax_d46
  | 47, _ => exact ax_d47
  | 48, _ => exact ax_d48
  | 49, _ => exact ax_d49
  | 50, _ => exact ax_d50
  | 51, _ => exact ax_d51
  | 52, _ => exact ax_d52
  | 53, _ => exact ax_d53
  | 54, _ => exact ax_d54
  | 55, _ => exact ax_d55
  | 56, _ => exact ax_d56
  | 57, _ => exact ax_d57
  | 58, _ => exact ax_d58
  | 59, _ => exact ax_d59
  | 60, _ => exact ax_d60
  | 61, _ => exact ax_d61
  | 62, _ => exact ax_d62
  | 63, _ => exact ax_d63
  | 64, _ => exact ax_d64
  | 65, _ => exact ax_d65
  | 66, _ => exact ax_d66
  | 67, _ => exact ax_d67
  | 68, _ => exact ax_d68
  | 69, _ => exact ax_d69
  | 70, _ => exact ax_d70
  | 71, _ => exact ax_d71
  | 72, _ => exact ax_d72
  | 73, _ => exact ax_d73
  | 74, _ => exact ax_d74
  | 75, _ => exact ax_d75
  | 76, _ => exact ax_d76
  | 77, _ => exact ax_d77
  | 78, _ => exact ax_d78
  | 79, _ => exact ax_d79
  | 80, _ => exact ax_d80
  | 81, _ => exact ax_d81
  | 82, _ => exact ax_d82
  | 83, _ => exact ax_d83
  | 84, _ => exact ax_d84
  | 85, _ => exact ax_d85
  | 86, _ => exact ax_d86
  | 87, _ => exact ax_d87
  | 88, _ => exact ax_d88
  | 89, _ => exact ax_d89
  | 90, _ => exact ax_d90
  | 91, _ => exact ax_d91
  | 92, _ => exact ax_d92
  | 93, _ => exact ax_d93
  | 94, _ => exact ax_d94
  | 95, _ => exact ax_d95
  | 96, _ => exact ax_d96
  | 97, _ => exact ax_d97
  | 98, _ => exact ax_d98
  | 99, _ => exact ax_d99
  | 100, _ => exact ax_d100
  | 101, _ => exact ax_d101
  | 102, _ => exact ax_d102
  | 103, _ => exact ax_d103
  | 104, _ => exact ax_d104
  | 105, _ => exact ax_d105
  | 106, _ => exact ax_d106
  | 107, _ => exact ax_d107
  | 108, _ => exact ax_d108
  | 109, _ => exact ax_d109
  | 110, _ => exact ax_d110
  | 111, _ => exact ax_d111
  | 112, _ => exact ax_d112
  | 113, _ => exact ax_d113
  | 114, _ => exact ax_d114
  | 115, _ => exact ax_d115
  | 116, _ => exact ax_d116
  | 117, _ => exact ax_d117
  | 118, _ => exact ax_d118
  | 119, _ => exact ax_d119
  | 120, _ => exact ax_d120
  | 121, _ => exact ax_d121
  | 122, _ => exact ax_d122
  | 123, _ => exact ax_d123
  | 124, _ => exact ax_d124
  | 125, _ => exact ax_d125
  | 126, _ => exact ax_d126
  | 127, _ => exact ax_d127
  | 128, _ => exact ax_d128
  | 129, _ => exact ax_d129
  | 130, _ => exact ax_d130
  | 131, _ => exact ax_d131
  | 132, _ => exact ax_d132
  | 133, _ => exact ax_d133
  | 134, _ => exact ax_d134
  | 135, _ => exact ax_d135
  | 136, _ => exact ax_d136
  | 137, _ => exact ax_d137
  | 138, _ => exact ax_d138
  | 139, _ => exact ax_d139
  | 140, _ => exact ax_d140
  | 141, _ => exact ax_d141
  | 142, _ => exact ax_d142
  | 143, _ => exact ax_d143
  | 144, _ => exact ax_d144
  | 145, _ => exact ax_d145
  | 146, _ => exact ax_d146
  | 147, _ => exact ax_d147
  | 148, _ => exact ax_d148
  | 149, _ => exact ax_d149
  | 150, _ => exact ax_d150
  | 151, _ => exact ax_d151
  | 152, _ => exact ax_d152
  | 153, _ => exact ax_d153
  | 154, _ => exact ax_d154
  | 155, _ => exact ax_d155
  | 156, _ => exact ax_d156
  | 157, _ => exact ax_d157
  | 158, _ => exact ax_d158
  | 159, _ => exact ax_d159
  | 160, _ => exact ax_d160
  | 161, _ => exact ax_d161
  | 162, _ => exact ax_d162
  | 163, _ => exact ax_d163
  | 164, _ => exact ax_d164
  | 165, _ => exact ax_d165
  | 166, _ => exact ax_d166
  | 167, _ => exact ax_d167
  | 168, _ => exact ax_d168
  | 169, _ => exact ax_d169
  | 170, _ => exact ax_d170
  | 171, _ => exact ax_d171
  | 172, _ => exact ax_d172
  | 173, _ => exact ax_d173
  | 174, _ => exact ax_d174
  | 175, _ => exact ax_d175
  | 176, _ => exact ax_d176
  | 177, _ => exact ax_d177
  | 178, _ => exact ax_d178
  | 179, _ => exact ax_d179
  | 180, _ => exact ax_d180
  | 181, _ => exact ax_d181
  | 182, _ => exact ax_d182
  | 183, _ => exact ax_d183
  | 184, _ => exact ax_d184
  | 185, _ => exact ax_d185
  | 186, _ => exact ax_d186
  | 187, _ => exact ax_d187
  | 188, _ => exact ax_d188
  | 189, _ => exact ax_d189
  | 190, _ => exact ax_d190
  | 191, _ => exact ax_d191
  | 192, _ => exact ax_d192
  | 193, _ => exact ax_d193
  | 194, _ => exact ax_d194
  | 195, _ => exact ax_d195
  | 196, _ => exact ax_d196
  | 197, _ => exact ax_d197
  | 198, _ => exact ax_d198
  | 199, _ => exact ax_d199
  | 200, _ => exact ax_d200
  | 201, _ => exact ax_d201
  | 202, _ => exact ax_d202
  | 203, _ => exact ax_d203
  | 204, _ => exact ax_d204
  | 205, _ => exact ax_d205
  | 206, _ => exact ax_d206
  | 207, _ => exact ax_d207
  | 208, _ => exact ax_d208
  | 209, _ => exact ax_d209
  | 210, _ => exact ax_d210
  | 211, _ => exact ax_d211
  | 212, _ => exact ax_d212
  | 213, _ => exact ax_d213
  | 214, _ => exact ax_d214
  | 215, _ => exact ax_d215
  | 216, _ => exact ax_d216
  | 217, _ => exact ax_d217
  | 218, _ => exact ax_d218
  | 219, _ => exact ax_d219
  | 220, _ => exact ax_d220
  | 221, _ => exact ax_d221
  | 222, _ => exact ax_d222
  | 223, _ => exact ax_d223
  | 224, _ => exact ax_d224
  | 225, _ => exact ax_d225
  | 226, _ => exact ax_d226
  | z + 227, h => exact absurd h (by omega)
end
section
/-! ===== the small machine's state and the machine's own: places, values, cells, locals ===== -/
/-- where the new cells begin, where the old ones lie, a value that nobody looks at, the classes, the array classes, the old cells -/
abbrev ax_P : Type := Nat × (Nat → Nat) × Value × va_G × (Nat → ClassId) × ax_H
abbrev ax_B (P : ax_P) : Nat := P.1
abbrev ax_D (P : ax_P) : va_G := P.2.2.2.1
abbrev ax_dA (P : ax_P) : Nat → ClassId := P.2.2.2.2.1
abbrev ax_FE (P : ax_P) : ax_H := P.2.2.2.2.2
def ax_ad (P : ax_P) (a : Nat) : Nat := if a < 20 then P.2.1 a else ax_B P + (a - 20)
def ax_tr (P : ax_P) (v : Value) : Value := match v with
  | .ref a => .ref (ax_ad P a)
  | .retAddr _ => P.2.2.1
  | v => v
def ax_toE (P : ax_P) (e : ax_E) : va_E := match e with
  | .inl (t, len, f) => .inl (ax_dA P t, len, .inl f)
  | .inr (ci, fs) => .inr (ci, fs.map (ax_tr P))
def ax_ws (P : ax_P) (n : Nat) (h : ax_H) : va_W := (List.range n).map (fun k => (ax_B P + k, ax_toE P (h (k + 20))))
abbrev ax_A (P : ax_P) : Nat → Prop := fun q => ax_B P ≤ q
abbrev ax_tys (P : ax_P) : List (ClassId × FieldType) := [(ax_dA P 0, .int), (ax_dA P 1, .boolean)]
def ax_ty (t : Nat) : FieldType := if t = 0 then .int else if t = 1 then .boolean else .byte
def ax_Rel (P : ax_P) (n : Nat) (h : ax_H) (H : Heap) : Prop :=
  va_P (ax_D P) vwCl (ax_ws P n h) H ∧ H.size = ax_B P + n ∧ (∀ k, n ≤ k → h (k + 20) = ax_dead) ∧ (∀ k, k < 20 → h k = ax_FE P k) ∧ ∀ (k t len : Nat) (f : Nat → Int32), h (k + 20) = .inl (t, len, f) → t < 2
def ax_K (P : ax_P) (U : State) : Prop :=
  va_K (ax_D P) vwCl (ax_tys P) U ∧ (∀ w ∈ ax_N, va_Nw w U) ∧
  (∀ (k t len : Nat) (f : Nat → Int32), k < 20 → ax_FE P k = .inl (t, len, f) → va_T (ax_ty t) (P.2.1 k) len (fun j => .int (f j)) (ax_A P) U U.heap) ∧
  (∀ (k ci : Nat) (fs : List Value), k < 20 → ax_FE P k = .inr (ci, fs) → (ci = 99 ∨ (ci = 12 ∧ ∃ v : Nat, v < 20 ∧ fs = [.ref v, .int 0] ∧ va_O "java/lang/String" (P.2.1 k) (ax_A P) U U.heap ∧ va_OF "java/lang/String" "value" "[B" (.ref (P.2.1 v)) (P.2.1 k) (ax_A P) U U.heap ∧ va_OF "java/lang/String" "coder" "B" (.int 0) (P.2.1 k) (ax_A P) U U.heap))) ∧
  (∀ q ∈ ax_stas, va_Z q.2.2.2.1 q.2.2.2.2.1 q.2.2.2.2.2.1 (ax_tr P q.2.2.1) (ax_A P) U U.heap) ∧
  (∀ q ∈ ax_strs, vk_R (ax_cn q.1) q.2.1 q.2.2.1 (ax_ad P q.2.2.2) U) ∧ P.2.2.1.category = 1 ∧ ax_B P ≤ U.heap.size
theorem ax_K.next {P : ax_P} {s U : State} {H : Heap} {locs : List Loc} (hK : ax_K P s) (hS : va_S (ax_A P) s.heap H locs) (hU : U.heap = H) (hW : s.WarmedH U.vm) : ax_K P U := by
  obtain ⟨k1, k2, k3, k4, k5, k6, k7, k8⟩ := hK
  subst hU
  have hv := hW.alike
  refine ⟨va_K.moved hv k1, fun w hw => ?_, fun k t len f hk he => (va_T.moved hv (k3 k t len f hk he)).kept hS.2.1, fun k ci fs hk he => ?_, fun q hq => (va_Z.moved hv (k5 q hq)).kept hS.2.1, fun q hq => vk_R.warm hW (k6 q hq), k7, Nat.le_trans k8 hS.1⟩
  · have h1 := k2 w hw
    have h2 := (List.mem_filter.mp hw).2
    cases w <;> first | exact va_Nw.warmF hW h1 | exact va_Nw.warmM hW h1 | (simp [ax_isN] at h2)
  · rcases k4 k ci fs hk he with e | ⟨e, v, hv1, e1, a1, a2, a3⟩
    · exact Or.inl e
    · exact Or.inr ⟨e, v, hv1, e1, (va_O.moved hv a1).kept hS.2.1, (va_OF.moved hv a2).kept hS.2.1, (va_OF.moved hv a3).kept hS.2.1⟩
theorem ax_tr_cat {P : ax_P} (hf : P.2.2.1.category = 1) (v : Value) : (ax_tr P v).category = v.category := by
  cases v <;> first | rfl | exact hf
theorem ax_ws_get {P : ax_P} {n : Nat} {h : ax_H} {k : Nat} (hk : k < n) : (ax_ws P n h)[k]? = some (ax_B P + k, ax_toE P (h (k + 20))) := by
  simp [ax_ws, List.getElem?_range hk]
theorem ax_ws_D {P : ax_P} {n : Nat} {h : ax_H} : va_D (ax_A P) (ax_ws P n h) := by
  have key : ∀ (i : Nat) (q : Nat × va_E), (ax_ws P n h)[i]? = some q → q.1 = ax_B P + i := by
    intro i q hq
    have hi : i < n := by
      have := (List.getElem?_eq_some_iff.mp hq).1
      simpa [ax_ws] using this
    rw [ax_ws_get hi] at hq
    cases hq
    rfl
  refine ⟨fun i j p q hi hj e => ?_, fun k q hk => ?_⟩
  · have := key i p hi
    have := key j q hj
    omega
  · show ax_B P ≤ q.1
    rw [key k q hk]
    omega
theorem ax_ws_set {P : ax_P} {n : Nat} {h : ax_H} {k : Nat} (hk : k < n) (e : ax_E) : (ax_ws P n h).set k (ax_B P + k, ax_toE P e) = ax_ws P n (ax_up h (k + 20) e) := by
  apply List.ext_getElem?
  intro i
  by_cases hi : i < n
  · rw [ax_ws_get hi]
    by_cases e1 : i = k
    · subst e1
      rw [List.getElem?_set_self (by simpa [ax_ws] using hi)]
      simp [ax_up]
    · rw [List.getElem?_set_ne (Ne.symm e1), ax_ws_get hi]
      simp [ax_up, e1]
  · rw [List.getElem?_eq_none (by simp [ax_ws]; omega), List.getElem?_eq_none (by simp [ax_ws]; omega)]
theorem ax_ws_push {P : ax_P} {n : Nat} {h : ax_H} (e : ax_E) : ax_ws P n h ++ [(ax_B P + n, ax_toE P e)] = ax_ws P (n + 1) (ax_up h (n + 20) e) := by
  unfold ax_ws
  rw [List.range_succ, List.map_append]
  congr 1
  · apply List.map_congr_left
    intro k hk
    have := List.mem_range.mp hk
    simp [ax_up, show ¬ k = n by omega]
  · simp [ax_up]
theorem ax_ad_own {P : ax_P} {a : Nat} (h : 20 ≤ a) : ax_ad P a = ax_B P + (a - 20) := by
  unfold ax_ad; rw [if_neg (by omega)]
theorem ax_ad_old {P : ax_P} {a : Nat} (h : a < 20) : ax_ad P a = P.2.1 a := by
  unfold ax_ad; rw [if_pos h]
/-- a cell of the small machine that is its own: where it lies -/
theorem ax_Rel.own {P : ax_P} {n : Nat} {h : ax_H} {H : Heap} (hR : ax_Rel P n h H) {a : Nat} (ha : 20 ≤ a) (hd : h a ≠ ax_dead) : a - 20 < n ∧ (ax_ws P n h)[a - 20]? = some (ax_ad P a, ax_toE P (h a)) := by
  have h1 : a - 20 < n := by
    rcases Nat.lt_or_ge (a - 20) n with q | q
    · exact q
    · exact absurd (by have := hR.2.2.1 (a - 20) q; rwa [show a - 20 + 20 = a by omega] at this) hd
  refine ⟨h1, ?_⟩
  rw [ax_ws_get h1, ax_ad_own ha, show a - 20 + 20 = a by omega]
theorem ax_Rel.up {P : ax_P} {n : Nat} {h : ax_H} {H H1 : Heap} (hR : ax_Rel P n h H) {a : Nat} (ha : 20 ≤ a) (hd : h a ≠ ax_dead) {e : ax_E} (hP : va_P (ax_D P) vwCl ((ax_ws P n h).set (a - 20) (ax_ad P a, ax_toE P e)) H1) (hz : H1.size = H.size) (ht : ∀ (t len : Nat) (f : Nat → Int32), e = .inl (t, len, f) → t < 2) : ax_Rel P n (ax_up h a e) H1 := by
  obtain ⟨h1, -⟩ := hR.own ha hd
  refine ⟨?_, by rw [hz]; exact hR.2.1, fun k hk => ?_, fun k hk => ?_, fun k t len f he => ?_⟩
  · rw [ax_ad_own ha, ax_ws_set h1, show a - 20 + 20 = a by omega] at hP
    exact hP
  · simp only [ax_up]; rw [if_neg (by omega)]; exact hR.2.2.1 k hk
  · simp only [ax_up]; rw [if_neg (by omega)]; exact hR.2.2.2.1 k hk
  · simp only [ax_up] at he
    split at he
    · exact ht t len f he
    · exact hR.2.2.2.2 k t len f he
/-- an array of the small machine, old or new: what the machine has there -/
theorem ax_Rel.arr {P : ax_P} {n : Nat} {h : ax_H} {s : State} {H : Heap} {locs : List Loc} (hR : ax_Rel P n h H) (hK : ax_K P s) (hS : va_S (ax_A P) s.heap H locs) {a t len : Nat} {f : Nat → Int32} (he : h a = .inl (t, len, f)) :
    ∃ cell : Cell, H[ax_ad P a]? = some cell ∧ s.isArrayOf cell (ax_ty t) ∧ cell.vm ≠ .unknown ∧ len ≤ cell.slots.size ∧ cell.slots.size.toInt32 = nI len ∧ ∀ j, j < len → cell.slots[j]? = some (.int (f j)) := by
  by_cases ha : a < 20
  · have h1 : ax_FE P a = .inl (t, len, f) := (hR.2.2.2.1 a ha).symm.trans he
    obtain ⟨cell, c1, c2, c3, c4, c5, c6, c7⟩ := hK.2.2.1 a t len f ha h1
    refine ⟨cell, ?_, c2, c3, c4, c5, c6⟩
    rw [ax_ad_old ha, hS.2.1 _ (Array.getElem?_eq_some_iff.mp c1).1 c7]
    exact c1
  · have ha : 20 ≤ a := by omega
    have h2 := hR.own ha (by rw [he]; exact fun q => by cases q)
    have ht : t < 2 := hR.2.2.2.2 (a - 20) t len f (by rw [show a - 20 + 20 = a by omega]; exact he)
    have h3 := hR.1 _ _ h2.2
    rw [he] at h3
    have h3 : H[ax_ad P a]? = some (vp_cell (ax_dA P t) (len, .inl f)) := h3
    have h4 : ArrOfT s (ax_dA P t) (ax_ty t) := by
      rcases (show t = 0 ∨ t = 1 by omega) with rfl | rfl
      · exact (hK.1.2 0 _ rfl).1
      · exact (hK.1.2 1 _ rfl).1
    refine ⟨_, h3, h4 len (fun j => .int (f j)), (fun q => by cases q), ?_, ?_, ?_⟩
    · show len ≤ (arrV _ _ _).slots.size
      rw [arrV_size]
      exact Nat.le_refl _
    · show (arrV _ _ _).slots.size.toInt32 = _
      rw [arrV_size]
      rfl
    · intro j hj
      show (arrV _ _ _).slots[j]? = _
      rw [arrV_read _ _ hj]
/-! locals -/
def ax_asc (P : ax_P) : Nat → List Value → List (Nat × Value)
  | _, [] => []
  | i, v :: l => if v = ax_dm then ax_asc P (i + 1) l else (i, ax_tr P v) :: ax_asc P (i + 1) l
theorem ax_asc_mem {P : ax_P} : ∀ (lc : List Value) (i : Nat) (q : Nat × Value), q ∈ ax_asc P i lc ↔ ∃ (j : Nat) (w : Value), lc[j]? = some w ∧ w ≠ ax_dm ∧ q = (i + j, ax_tr P w) := by
  intro lc
  induction lc with
  | nil => intro i q; simp [ax_asc]
  | cons v l ih =>
    intro i q
    unfold ax_asc
    by_cases hv : v = ax_dm
    · rw [if_pos hv, ih]
      constructor
      · rintro ⟨j, w, h1, h2, rfl⟩
        exact ⟨j + 1, w, by simpa using h1, h2, by rw [show i + 1 + j = i + (j + 1) by omega]⟩
      · rintro ⟨j, w, h1, h2, rfl⟩
        cases j with
        | zero => simp at h1; exact absurd (h1 ▸ hv) h2
        | succ j => exact ⟨j, w, by simpa using h1, h2, by rw [show i + 1 + j = i + (j + 1) by omega]⟩
    · rw [if_neg hv, List.mem_cons, ih]
      constructor
      · rintro (rfl | ⟨j, w, h1, h2, rfl⟩)
        · exact ⟨0, v, by simp, hv, rfl⟩
        · exact ⟨j + 1, w, by simpa using h1, h2, by rw [show i + 1 + j = i + (j + 1) by omega]⟩
      · rintro ⟨j, w, h1, h2, rfl⟩
        cases j with
        | zero => simp at h1; subst h1; exact Or.inl rfl
        | succ j => exact Or.inr ⟨j, w, by simpa using h1, h2, by rw [show i + 1 + j = i + (j + 1) by omega]⟩
theorem ax_put_len : ∀ (lc : List Value) (k : Nat) (v : Value), (ax_put lc k v).length = lc.length := by
  intro lc
  induction lc with
  | nil => intro k v; rfl
  | cons w l ih =>
    intro k v
    cases k with
    | zero =>
      unfold ax_put
      split
      · cases l <;> simp
      · rfl
    | succ k => unfold ax_put; simp [ih]
theorem ax_put_get : ∀ (lc : List Value) (k : Nat) (v : Value) (j : Nat) (w : Value), (ax_put lc k v)[j]? = some w → w ≠ ax_dm → (j = k ∧ w = v) ∨ (j ≠ k ∧ lc[j]? = some w ∧ ¬ (j + 1 = k ∧ w.category = 2) ∧ (v.category = 2 → j ≠ k + 1)) := by
  intro lc
  induction lc with
  | nil => intro k v j w h; simp [ax_put] at h
  | cons x l ih =>
    intro k v j w h hw
    cases k with
    | zero =>
      cases j with
      | zero => simp [ax_put] at h; exact Or.inl ⟨rfl, h.symm⟩
      | succ j =>
        refine Or.inr ⟨by omega, ?_⟩
        unfold ax_put at h
        rw [List.getElem?_cons_succ] at h ⊢
        split at h
        · cases l with
          | nil => simp at h
          | cons a l =>
            cases j with
            | zero => simp at h; exact absurd h.symm hw
            | succ j => exact ⟨by simpa using h, by omega, fun _ => by omega⟩
        · rename_i hc
          exact ⟨h, by omega, fun q => absurd q hc⟩
    | succ k =>
      unfold ax_put at h
      cases j with
      | zero =>
        rw [List.getElem?_cons_zero] at h
        refine Or.inr ⟨by omega, ?_⟩
        split at h
        · simp at h; exact absurd h.symm hw
        · rename_i hc
          have e : x = w := Option.some.inj h
          subst e
          exact ⟨rfl, fun q => hc ⟨by omega, q.2⟩, fun _ => by omega⟩
      | succ j =>
        rw [List.getElem?_cons_succ] at h
        rcases ih k v j w h hw with ⟨a, b⟩ | ⟨a, b, c, d⟩
        · exact Or.inl ⟨by omega, b⟩
        · exact Or.inr ⟨by omega, by rw [List.getElem?_cons_succ]; exact b, fun q => c ⟨by omega, q.2⟩, fun q => by have := d q; omega⟩
theorem ax_lv_sub {ls : Array Slot} {nL : Nat} {l l2 : List (Nat × Value)} (h : lv_has ls nL l) (hs : ∀ q ∈ l2, q ∈ l) : lv_has ls nL l2 := ⟨h.1, h.2.1, fun q hq => h.2.2 q (hs q hq)⟩
theorem ax_put1 {P : ax_P} (hf : P.2.2.1.category = 1) {lc : List Value} {k : Nat} {v : Value} : ∀ q ∈ ax_asc P 0 (ax_put lc k v), q ∈ (k, ax_tr P v) :: (ax_asc P 0 lc).filter (fun q => !(q.1 == k) && !(q.1 + 1 == k && q.2.category == 2)) := by
  intro q hq
  obtain ⟨j, w, h1, h2, rfl⟩ := (ax_asc_mem _ _ _).mp hq
  rcases ax_put_get _ _ _ _ _ h1 h2 with ⟨rfl, rfl⟩ | ⟨a, b, c, -⟩
  · simp
  · refine List.mem_cons_of_mem _ (List.mem_filter.mpr ⟨(ax_asc_mem _ _ _).mpr ⟨j, w, b, h2, rfl⟩, ?_⟩)
    simp only [Nat.zero_add, ax_tr_cat hf, Bool.and_eq_true, Bool.not_eq_true', beq_eq_false_iff_ne, ne_eq, Bool.and_eq_false_iff]
    refine ⟨a, ?_⟩
    by_cases e1 : j + 1 = k
    · exact Or.inr (fun e2 => c ⟨e1, e2⟩)
    · exact Or.inl e1
theorem ax_put2 {P : ax_P} (hf : P.2.2.1.category = 1) {lc : List Value} {k : Nat} {v : Value} (hv : v.category = 2) : ∀ q ∈ ax_asc P 0 (ax_put lc k v), q ∈ (k, ax_tr P v) :: (ax_asc P 0 lc).filter (fun q => !(q.1 == k) && (!(q.1 == k + 1) && !(q.1 + 1 == k && q.2.category == 2))) := by
  intro q hq
  obtain ⟨j, w, h1, h2, rfl⟩ := (ax_asc_mem _ _ _).mp hq
  rcases ax_put_get _ _ _ _ _ h1 h2 with ⟨rfl, rfl⟩ | ⟨a, b, c, d⟩
  · simp
  · refine List.mem_cons_of_mem _ (List.mem_filter.mpr ⟨(ax_asc_mem _ _ _).mpr ⟨j, w, b, h2, rfl⟩, ?_⟩)
    simp only [Nat.zero_add, ax_tr_cat hf, Bool.and_eq_true, Bool.not_eq_true', beq_eq_false_iff_ne, ne_eq, Bool.and_eq_false_iff]
    refine ⟨a, d hv, ?_⟩
    by_cases e1 : j + 1 = k
    · exact Or.inr (fun e2 => c ⟨e1, e2⟩)
    · exact Or.inl e1
theorem ax_lget {P : ax_P} {ls : Array Slot} {nL : Nat} {lc : List Value} (h : lv_has ls nL (ax_asc P 0 lc)) {k : Nat} {w : Value} (hk : lc[k]? = some w) (hw : w ≠ ax_dm) : ls[k]? = some (.val (ax_tr P w)) := h.2.2 (k, ax_tr P w) ((ax_asc_mem _ _ _).mpr ⟨k, w, hk, hw, by rw [Nat.zero_add]⟩)
theorem ax_asc_app {P : ax_P} : ∀ (l l2 : List Value) (i : Nat), ax_asc P i (l ++ l2) = ax_asc P i l ++ ax_asc P (i + l.length) l2 := by
  intro l
  induction l with
  | nil => intro l2 i; simp [ax_asc]
  | cons v l ih =>
    intro l2 i
    simp only [List.cons_append, ax_asc]
    split
    · rw [ih, List.length_cons, show i + 1 + l.length = i + (l.length + 1) by omega]
    · rw [ih, List.cons_append, List.length_cons, show i + 1 + l.length = i + (l.length + 1) by omega]
theorem ax_asc_dm {P : ax_P} : ∀ (k i : Nat), ax_asc P i (List.replicate k ax_dm) = [] := by
  intro k
  induction k with
  | zero => intro i; rfl
  | succ k ih => intro i; rw [List.replicate_succ, ax_asc, if_pos rfl, ih]
theorem ax_asc_spread {P : ax_P} (hf : P.2.2.1.category = 1) : ∀ (as : List Value) (i : Nat) (q : Nat × Value), q ∈ ax_asc P i (ax_spread as) → q ∈ lv_args i (as.map (ax_tr P)) := by
  intro as
  induction as with
  | nil => intro i q h; simp [ax_spread, ax_asc] at h
  | cons v l ih =>
    intro i q h
    simp only [List.map_cons, lv_args, ax_tr_cat hf]
    unfold ax_spread at h
    by_cases hc : v.category = 2
    · rw [if_pos hc] at h
      rw [if_pos hc]
      unfold ax_asc at h
      split at h
      · rw [ax_asc, if_pos rfl] at h
        exact List.mem_cons_of_mem _ (ih _ _ h)
      · rw [ax_asc, if_pos rfl] at h
        rcases List.mem_cons.mp h with e | e
        · rw [e]; exact List.mem_cons_self
        · exact List.mem_cons_of_mem _ (ih _ _ e)
    · rw [if_neg hc] at h
      rw [if_neg hc]
      unfold ax_asc at h
      split at h
      · exact List.mem_cons_of_mem _ (ih _ _ h)
      · rcases List.mem_cons.mp h with e | e
        · rw [e]; exact List.mem_cons_self
        · exact List.mem_cons_of_mem _ (ih _ _ e)
theorem ax_spread_len {P : ax_P} (hf : P.2.2.1.category = 1) : ∀ (as : List Value), (lg_sl (as.map (ax_tr P))).length = (ax_spread as).length := by
  intro as
  induction as with
  | nil => rfl
  | cons v l ih =>
    unfold lg_sl at ih ⊢
    rw [List.map_cons, List.flatMap_cons, List.length_append, ih, ax_tr_cat hf, ax_spread]
    split <;> simp <;> omega
theorem ax_ent_has {P : ax_P} (hf : P.2.2.1.category = 1) {z : Nat} {as : List Value} (hl : (ax_spread as).length ≤ ax_ml z) : lv_has ((lg_sl (as.map (ax_tr P)) ++ List.replicate (ax_ml z - (lg_sl (as.map (ax_tr P))).length) Slot.unset).toArray) (ax_ml z) (ax_asc P 0 (ax_ent z as)) := by
  refine ax_lv_sub (lv_entry (as.map (ax_tr P)) (n := ax_ml z) (by rw [ax_spread_len hf]; exact hl)) (fun q hq => ?_)
  unfold ax_ent at hq
  rw [ax_asc_app, ax_asc_dm, List.append_nil] at hq
  exact ax_asc_spread hf as 0 q hq
theorem ax_ent_len {z : Nat} {as : List Value} (hl : (ax_spread as).length ≤ ax_ml z) : (ax_ent z as).length = ax_ml z := by
  unfold ax_ent
  rw [List.length_append, List.length_replicate]
  omega
end
section
/-! ===== a step of the small machine is a step of the machine: stack, locals, branches ===== -/
theorem ax_ii_inv {f : Int32 → Int32 → Int32} {st st1 : List Value} (h : ax_ii f st = some st1) : ∃ (x y : Int32) (r : List Value), st = .int y :: .int x :: r ∧ st1 = .int (f x y) :: r := by
  unfold ax_ii at h
  split at h
  · cases h; exact ⟨_, _, _, rfl, rfl⟩
  · cases h
theorem ax_ll_inv {f : Int64 → Int64 → Int64} {st st1 : List Value} (h : ax_ll f st = some st1) : ∃ (x y : Int64) (r : List Value), st = .long y :: .long x :: r ∧ st1 = .long (f x y) :: r := by
  unfold ax_ll at h
  split at h
  · cases h; exact ⟨_, _, _, rfl, rfl⟩
  · cases h
theorem ax_ld_inv {f : Int64 → Int64 → Int64} {st st1 : List Value} (h : ax_ld f st = some st1) : ∃ (x y : Int64) (r : List Value), ¬ y = 0 ∧ st = .long y :: .long x :: r ∧ st1 = .long (f x y) :: r := by
  unfold ax_ld at h
  split at h
  · split at h
    · cases h
    · rename_i hy; cases h; exact ⟨_, _, _, hy, rfl, rfl⟩
  · cases h
theorem ax_id_inv {f : Int32 → Int32 → Int32} {st st1 : List Value} (h : ax_id f st = some st1) : ∃ (x y : Int32) (r : List Value), ¬ y = 0 ∧ st = .int y :: .int x :: r ∧ st1 = .int (f x y) :: r := by
  unfold ax_id at h
  split at h
  · split at h
    · cases h
    · rename_i hy; cases h; exact ⟨_, _, _, hy, rfl, rfl⟩
  · cases h
theorem ax_u1_inv {f : Int32 → Value} {st st1 : List Value} (h : ax_u1 f st = some st1) : ∃ (x : Int32) (r : List Value), st = .int x :: r ∧ st1 = f x :: r := by
  unfold ax_u1 at h
  split at h
  · cases h; exact ⟨_, _, rfl, rfl⟩
  · cases h
section AxPure
variable {P : ax_P} {p : Program} {l : Launch} {e : Env} {R : Room} {s : State} {m : MethodId} {args : Array Value} {below : List Frame} {meth : Method} {c : Code} {H : Heap} {locs : List Loc} {cells slots : Nat} {Q : State → Prop} {cc : ByteArray} {pc : Nat} {ls : Array Slot} {i : Instr} {lc st : List Value}
set_option maxHeartbeats 4000000 in
theorem sd_st {st1 : List Value} (hf : P.2.2.1.category = 1) (hx : p.tables.exec = Jvm.exec) (hb : c.code = cc) (h1 : ax_st i st = some st1) (hd : decode cc pc = .ok (i, ax_len i))
    (k : W p l e R s m args below meth c H locs cells slots Q (F0 m (pc + ax_len i) ls (st1.map (ax_tr P)))) : W p l e R s m args below meth c H locs cells slots Q (F0 m pc ls (st.map (ax_tr P))) := by
  unfold ax_st at h1
  split at h1
  · obtain ⟨x, y, r, rfl, rfl⟩ := ax_ii_inv h1; exact lv_iadd hx hb hd k
  · obtain ⟨x, y, r, rfl, rfl⟩ := ax_ii_inv h1; exact lv_isub hx hb hd k
  · obtain ⟨x, y, r, rfl, rfl⟩ := ax_ii_inv h1; exact lv_imul hx hb hd k
  · obtain ⟨x, y, r, rfl, rfl⟩ := ax_ii_inv h1; exact lv_iand hx hb hd k
  · obtain ⟨x, y, r, rfl, rfl⟩ := ax_ii_inv h1; exact lv_ior hx hb hd k
  · obtain ⟨x, y, r, rfl, rfl⟩ := ax_ii_inv h1; exact lv_ishl hx hb hd k
  · obtain ⟨x, y, r, rfl, rfl⟩ := ax_ii_inv h1; exact lv_ishr hx hb hd k
  · obtain ⟨x, y, r, rfl, rfl⟩ := ax_ii_inv h1; exact lv_iushr hx hb hd rfl k
  · obtain ⟨x, y, r, hy, rfl, rfl⟩ := ax_id_inv h1; exact lv_irem hx hb hd hy k
  · obtain ⟨x, r, rfl, rfl⟩ := ax_u1_inv h1; exact lv_ineg hx hb hd k
  · obtain ⟨x, r, rfl, rfl⟩ := ax_u1_inv h1; exact lv_i2l hx hb hd rfl k
  · obtain ⟨x, r, rfl, rfl⟩ := ax_u1_inv h1; exact lv_i2c hx hb hd rfl k
  · split at h1
    · cases h1; exact lv_l2i hx hb hd rfl k
    · cases h1
  · obtain ⟨x, y, r, rfl, rfl⟩ := ax_ll_inv h1; exact lv_ladd hx hb hd k
  · obtain ⟨x, y, r, rfl, rfl⟩ := ax_ll_inv h1; exact lv_lmul hx hb hd k
  · obtain ⟨x, y, r, hy, rfl, rfl⟩ := ax_ld_inv h1; exact lv_ldiv hx hb hd hy k
  · obtain ⟨x, y, r, hy, rfl, rfl⟩ := ax_ld_inv h1; exact lv_lrem hx hb hd hy k
  · split at h1
    · cases h1; exact W.lcmp hx hb hd k
    · cases h1
  · cases h1; exact lv_iconst hx hb hd rfl k
  · cases h1; exact lv_bipush hx hb hd rfl k
  · cases h1; exact lv_sipush hx hb hd rfl k
  · cases h1; exact lv_lconst hx hb hd rfl k
  · split at h1
    · split at h1
      · rename_i hc; cases h1; exact lv_dup hx hb hd (by rw [ax_tr_cat hf]; exact hc) k
      · cases h1
    · cases h1
  · split at h1
    · split at h1
      · rename_i hc; cases h1; exact lv_pop hx hb hd (by rw [ax_tr_cat hf]; exact hc) k
      · cases h1
    · cases h1
  · split at h1
    · split at h1
      · rename_i hc; cases h1; exact lv_dup2_11 hx hb hd (by rw [ax_tr_cat hf]; exact hc.1) (by rw [ax_tr_cat hf]; exact hc.2) k
      · cases h1
    · cases h1
  · cases h1
theorem ax_ldi_inv {k : Nat} {q : List Value × List Value} (h : ax_ldi k lc st = some q) : ∃ x, lc[k]? = some (.int x) ∧ q = (lc, .int x :: st) := by
  unfold ax_ldi at h
  split at h
  · rename_i x hx; cases h; exact ⟨x, hx, rfl⟩
  · cases h
theorem ax_ldl_inv {k : Nat} {q : List Value × List Value} (h : ax_ldl k lc st = some q) : ∃ x, lc[k]? = some (.long x) ∧ q = (lc, .long x :: st) := by
  unfold ax_ldl at h
  split at h
  · rename_i x hx; cases h; exact ⟨x, hx, rfl⟩
  · cases h
theorem ax_lda_inv {k : Nat} {q : List Value × List Value} (h : ax_lda k lc st = some q) : ∃ x, lc[k]? = some (.ref x) ∧ q = (lc, .ref x :: st) := by
  unfold ax_lda at h
  split at h
  · rename_i x hx; cases h; exact ⟨x, hx, rfl⟩
  · cases h
theorem ax_sti_inv {k : Nat} {q : List Value × List Value} (h : ax_sti k lc st = some q) : ∃ x r, st = .int x :: r ∧ k < lc.length ∧ q = (ax_put lc k (.int x), r) := by
  unfold ax_sti at h
  split at h
  · split at h
    · rename_i hk; cases h; exact ⟨_, _, rfl, hk, rfl⟩
    · cases h
  · cases h
theorem ax_sta1_inv {k : Nat} {q : List Value × List Value} (h : ax_sta1 k lc st = some q) : ∃ x r, st = .ref x :: r ∧ k < lc.length ∧ q = (ax_put lc k (.ref x), r) := by
  unfold ax_sta1 at h
  split at h
  · split at h
    · rename_i hk; cases h; exact ⟨_, _, rfl, hk, rfl⟩
    · cases h
  · cases h
theorem ax_stl_inv {k : Nat} {q : List Value × List Value} (h : ax_stl k lc st = some q) : ∃ x r, st = .long x :: r ∧ k + 1 < lc.length ∧ q = (ax_put lc k (.long x), r) := by
  unfold ax_stl at h
  split at h
  · split at h
    · rename_i hk; cases h; exact ⟨_, _, rfl, hk, rfl⟩
    · cases h
  · cases h
set_option maxHeartbeats 4000000 in
theorem sd_lc {q : List Value × List Value} {nL : Nat} (hf : P.2.2.1.category = 1) (hx : p.tables.exec = Jvm.exec) (hb : c.code = cc) (h1 : ax_lc i lc st = some q) (hd : decode cc pc = .ok (i, ax_len i)) (hl : lv_has ls nL (ax_asc P 0 lc)) (hn : lc.length = nL)
    (k : ∀ ls1, lv_has ls1 nL (ax_asc P 0 q.1) → q.1.length = nL → W p l e R s m args below meth c H locs cells slots Q (F0 m (pc + ax_len i) ls1 (q.2.map (ax_tr P)))) : W p l e R s m args below meth c H locs cells slots Q (F0 m pc ls (st.map (ax_tr P))) := by
  unfold ax_lc at h1
  split at h1
  · obtain ⟨x, g, rfl⟩ := ax_ldi_inv h1; exact lv_iload hx hb hd (ax_lget hl g (fun z => by cases z)) (k ls hl hn)
  · obtain ⟨x, g, rfl⟩ := ax_ldi_inv h1; exact lv_iload_n hx hb hd rfl (ax_lget hl g (fun z => by cases z)) (k ls hl hn)
  · obtain ⟨x, g, rfl⟩ := ax_ldl_inv h1; exact lv_lload hx hb hd (ax_lget hl g (fun z => by cases z)) (k ls hl hn)
  · obtain ⟨x, g, rfl⟩ := ax_ldl_inv h1; exact lv_lload_n hx hb hd rfl (ax_lget hl g (fun z => by cases z)) (k ls hl hn)
  · obtain ⟨x, g, rfl⟩ := ax_lda_inv h1; exact lv_aload_n hx hb hd rfl (ax_lget hl g (fun z => by cases z)) (k ls hl hn)
  · obtain ⟨x, r, rfl, g, rfl⟩ := ax_sti_inv h1; exact lv_istore hx hb hd hl (by omega) rfl (fun ls1 h2 => k ls1 (ax_lv_sub h2 (ax_put1 hf)) (by rw [ax_put_len]; exact hn))
  · obtain ⟨x, r, rfl, g, rfl⟩ := ax_sti_inv h1; exact lv_istore_n hx hb hd rfl hl (by omega) rfl (fun ls1 h2 => k ls1 (ax_lv_sub h2 (ax_put1 hf)) (by rw [ax_put_len]; exact hn))
  · obtain ⟨x, r, rfl, g, rfl⟩ := ax_stl_inv h1; exact lv_lstore hx hb hd hl (by omega) rfl (fun ls1 h2 => k ls1 (ax_lv_sub h2 (ax_put2 hf rfl)) (by rw [ax_put_len]; exact hn))
  · obtain ⟨x, r, rfl, g, rfl⟩ := ax_stl_inv h1; exact lv_lstore_n hx hb hd rfl hl (by omega) rfl (fun ls1 h2 => k ls1 (ax_lv_sub h2 (ax_put2 hf rfl)) (by rw [ax_put_len]; exact hn))
  · obtain ⟨x, r, rfl, g, rfl⟩ := ax_sta1_inv h1; exact lv_astore_n hx hb hd rfl hl (by omega) rfl (fun ls1 h2 => k ls1 (ax_lv_sub h2 (ax_put1 hf)) (by rw [ax_put_len]; exact hn))
  · rename_i kk nn
    split at h1
    · rename_i x g
      split at h1
      · rename_i g2
        cases h1
        obtain ⟨j, hj⟩ := List.getElem?_of_mem ((ax_asc_mem (P := P) lc 0 (kk, .int x)).mpr ⟨kk, .int x, g, (fun z => by cases z), by rw [Nat.zero_add]; rfl⟩)
        exact lv_iinc hx hb hd hl hj rfl (by omega) rfl (fun ls1 h2 => k ls1 (ax_lv_sub h2 (ax_put1 hf)) (by rw [ax_put_len]; exact hn))
      · cases h1
    · cases h1
  · cases h1
theorem ax_tgt {pc : Nat} {off : Int} (h : 0 ≤ (pc : Int) + off) : (pc : Int) + off = ((((pc : Int) + off).toNat : Nat) : Int) := (Int.toNat_of_nonneg h).symm
set_option maxHeartbeats 4000000 in
theorem sd_br {q : Nat × List Value} {len : Nat} (hx : p.tables.exec = Jvm.exec) (hb : c.code = cc) (h1 : ax_br i pc st = some q) (hd : decode cc pc = .ok (i, len)) (hlen : ax_len i = 0 ∨ len = ax_len i)
    (k : W p l e R s m args below meth c H locs cells slots Q (F0 m q.1 ls (q.2.map (ax_tr P)))) : W p l e R s m args below meth c H locs cells slots Q (F0 m pc ls (st.map (ax_tr P))) := by
  unfold ax_br at h1
  split at h1
  · split at h1
    · rename_i g
      cases h1
      have e : len = 3 := by rcases hlen with e | e; cases e; exact e
      subst e
      exact lv_goto hx hb hd (ax_tgt g) k
    · cases h1
  · rename_i cnd off
    have e : len = 3 := by rcases hlen with e | e; cases e; exact e
    subst e
    split at h1
    · rename_i y x r
      split at h1
      · rename_i g
        cases h1
        have kt : ax_cmp cnd x y = true → W p l e R s m args below meth c H locs cells slots Q (F0 m ((pc : Int) + off).toNat ls (r.map (ax_tr P))) := fun z => by
          have k := k
          dsimp only at k
          rw [if_pos z] at k
          exact k
        have kf : ¬ ax_cmp cnd x y = true → W p l e R s m args below meth c H locs cells slots Q (F0 m (pc + 3) ls (r.map (ax_tr P))) := fun z => by
          have k := k
          dsimp only at k
          rw [if_neg z] at k
          exact k
        cases cnd
        · exact lv_icmp_eq hx hb hd (ax_tgt g) (fun z => kt (decide_eq_true z)) (fun z => kf (fun w => z (of_decide_eq_true w)))
        · exact lv_icmp_ne hx hb hd (ax_tgt g) (fun z => kt (decide_eq_true z)) (fun z => kf (fun w => (of_decide_eq_true w) z))
        · exact lv_icmp_lt hx hb hd (ax_tgt g) (fun z => kt (decide_eq_true z)) (fun z => kf (fun w => z (of_decide_eq_true w)))
        · exact lv_icmp_ge hx hb hd (ax_tgt g) (fun z => kt (decide_eq_true z)) (fun z => kf (fun w => z (of_decide_eq_true w)))
        · exact lv_icmp_gt hx hb hd (ax_tgt g) (fun z => kt (decide_eq_true z)) (fun z => kf (fun w => z (of_decide_eq_true w)))
        · exact lv_icmp_le hx hb hd (ax_tgt g) (fun z => kt (decide_eq_true z)) (fun z => kf (fun w => z (of_decide_eq_true w)))
      · cases h1
    · cases h1
  · rename_i cnd off
    have e : len = 3 := by rcases hlen with e | e; cases e; exact e
    subst e
    split at h1
    · rename_i x r
      split at h1
      · rename_i g
        cases h1
        have kt : ax_cmp cnd x 0 = true → W p l e R s m args below meth c H locs cells slots Q (F0 m ((pc : Int) + off).toNat ls (r.map (ax_tr P))) := fun z => by
          have k := k
          dsimp only at k
          rw [if_pos z] at k
          exact k
        have kf : ¬ ax_cmp cnd x 0 = true → W p l e R s m args below meth c H locs cells slots Q (F0 m (pc + 3) ls (r.map (ax_tr P))) := fun z => by
          have k := k
          dsimp only at k
          rw [if_neg z] at k
          exact k
        cases cnd
        · exact lv_if_eq hx hb hd (ax_tgt g) (fun z => kt (decide_eq_true z)) (fun z => kf (fun w => z (of_decide_eq_true w)))
        · exact lv_if_ne hx hb hd (ax_tgt g) (fun z => kt (decide_eq_true z)) (fun z => kf (fun w => (of_decide_eq_true w) z))
        · exact lv_if_lt hx hb hd (ax_tgt g) (fun z => kt (decide_eq_true z)) (fun z => kf (fun w => z (of_decide_eq_true w)))
        · exact lv_if_ge hx hb hd (ax_tgt g) (fun z => kt (decide_eq_true z)) (fun z => kf (fun w => z (of_decide_eq_true w)))
        · exact lv_if_gt hx hb hd (ax_tgt g) (fun z => kt (decide_eq_true z)) (fun z => kf (fun w => z (of_decide_eq_true w)))
        · exact lv_if_le hx hb hd (ax_tgt g) (fun z => kt (decide_eq_true z)) (fun z => kf (fun w => z (of_decide_eq_true w)))
      · cases h1
    · cases h1
  · split at h1
    · split at h1
      · rename_i g
        split at h1
        · rename_i g2
          cases h1
          exact lv_tableOut hx hb hd g (ax_tgt g2) k
        · cases h1
      · rename_i g
        split at h1
        · rename_i off g2
          split at h1
          · rename_i g3
            cases h1
            exact lv_tableIn hx hb hd (fun z => g (Or.inl z)) (fun z => g (Or.inr z)) g2 (ax_tgt g3) k
          · cases h1
        · cases h1
    · cases h1
  · cases h1
end AxPure
end
section
/-! ===== a step of the small machine is a step of the machine: the heap ===== -/
def ax_C (p : Program) (s : State) (m : MethodId) (args : Array Value) (meth : Method) (c : Code) (y : Nat) : Prop :=
  p.tables.exec = Jvm.exec ∧ c.code = ax_by y ∧ c.maxLocals = ax_ml y ∧ s.vm.findClass (ax_cn (ax_cl y)) = some m.cls ∧ (∀ w ∈ ax_G, w.before args s = true) ∧ meth.sig.returnType = ax_rt y ∧ meth.locks = false ∧ (ax_ini y = true → meth.name = "<init>")
theorem ax_find {α β : Type} {l : List α} {f : α → Bool} {g : α → β} {b : β} (h : (l.find? f).map g = some b) : ∃ a, a ∈ l ∧ f a = true ∧ g a = b := by
  obtain ⟨a, h1, h2⟩ := Option.map_eq_some_iff.mp h
  exact ⟨a, List.mem_of_find?_eq_some h1, List.find?_some h1, h2⟩
theorem ax_hasG {args : Array Value} {s : State} (hG : ∀ w ∈ ax_G, w.before args s = true) {i : Nat} {w : Cond} (h : ax_isW i w = true) (hg : goodWord w = true) : w.before args s = true := hG _ (ax_inG (ax_isW_mem h) hg)
theorem ax_hasN {P : ax_P} {args : Array Value} {s : State} (hK : ax_K P s) {i : Nat} {w : Cond} (h : ax_isW i w = true) (hn : ax_isN w = true) (ho : w.onTables = true) : w.before args s = true := va_Nw.use ho (hK.2.1 w (ax_inN (ax_isW_mem h) hn))
theorem ax_layG {ci : Nat} (h : ci < 11) : ∀ w ∈ u_ws (ax_cn ci) (ax_TT ci) (ax_NN ci), w ∈ ax_G := by
  intro w hw
  obtain ⟨k, hk, rfl⟩ := List.mem_map.mp hw
  refine ax_inG (ax_isW_mem (ax_lay_ok ci h k (List.mem_range.mp hk))) ?_
  unfold u_lay
  split <;> rfl
theorem ax_fld_row {c k : Nat} {q : Nat × Nat} (h : ax_fld c k = some q) : ∃ row, row ∈ ax_flds ∧ row.1 = c ∧ row.2.1 = k ∧ row.2.2.1 = q.1 ∧ row.2.2.2.1 = q.2 := by
  obtain ⟨row, h1, h2, h3⟩ := ax_find h
  simp only [Bool.and_eq_true, beq_iff_eq] at h2
  subst h3
  exact ⟨row, h1, h2.1, h2.2, rfl, rfl⟩
theorem ax_fw_str : ∀ q ∈ ax_flds, q.2.2.1 = 12 → q.2.2.2.2.1 = false ∧ q.2.2.2.1 < 2 := by decide +kernel
theorem ax_fw_nest : ∀ q ∈ ax_flds, q.2.2.2.2.1 = true → ¬ q.2.2.1 = q.1 := by decide +kernel
theorem ax_fw_of {P : ax_P} {args : Array Value} {s : State} (hG : ∀ w ∈ ax_G, w.before args s = true) (hK : ax_K P s) {row : Nat × Nat × Nat × Nat × Bool × Nat} (hr : row ∈ ax_flds) (hn : ¬ row.2.2.1 = 12) :
    (row.2.2.2.2.1 = false ∧ (Cond.fieldLink (ax_cn row.1) row.2.1 (ax_TT row.2.2.1 row.2.2.2.1).1 (ax_TT row.2.2.1 row.2.2.2.1).2.1 (ax_TT row.2.2.1 row.2.2.2.1).2.2.1).before args s = true) ∨
    (row.2.2.2.2.1 = true ∧ (Cond.fieldLinkNest (ax_cn row.1) row.2.1 (ax_TT row.2.2.1 row.2.2.2.1).1 (ax_TT row.2.2.1 row.2.2.2.1).2.1 (ax_TT row.2.2.1 row.2.2.2.1).2.2.1 "DinnerPleas").before args s = true) := by
  have h1 := (ax_fw_ok row hr).1
  unfold ax_fw at h1
  have e : ax_fd row.2.2.1 row.2.2.2.1 = ax_TT row.2.2.1 row.2.2.2.1 := by unfold ax_fd; rw [if_neg hn]
  rw [e] at h1
  by_cases hb : row.2.2.2.2.1 = true
  · rw [if_pos hb] at h1
    exact Or.inr ⟨hb, ax_hasN hK h1 rfl rfl⟩
  · rw [if_neg hb] at h1
    exact Or.inl ⟨by simpa using hb, ax_hasG hG h1 rfl⟩
theorem ax_Rel.push {P : ax_P} {n : Nat} {h : ax_H} {H H1 : Heap} (hR : ax_Rel P n h H) {e : ax_E} (h1 : va_at (ax_D P) vwCl (ax_B P + n, ax_toE P e) H1) (hz : H1.size = H.size + 1) (ho : ∀ q, q < H.size → H1[q]? = H[q]?) (ht : ∀ (t len : Nat) (f : Nat → Int32), e = .inl (t, len, f) → t < 2) : ax_Rel P (n + 1) (ax_up h (n + 20) e) H1 := by
  refine ⟨?_, by rw [hz, hR.2.1]; omega, fun k hk => ?_, fun k hk => ?_, fun k t len f he => ?_⟩
  · rw [← ax_ws_push]
    refine va_P.app (hR.1.kept (fun k q hk => ho q.1 (hR.1 k q hk).lt)) (fun k q hk => ?_)
    have hz : k < 1 := (List.getElem?_eq_some_iff.mp hk).1
    rw [show k = 0 by omega] at hk
    cases hk
    exact h1
  · simp only [ax_up]; rw [if_neg (by omega)]; exact hR.2.2.1 k (by omega)
  · simp only [ax_up]; rw [if_neg (by omega)]; exact hR.2.2.2.1 k hk
  · simp only [ax_up] at he
    split at he
    · exact ht t len f he
    · exact hR.2.2.2.2 k t len f he
theorem ax_S_push {A : Nat → Prop} {H0 H H1 : Heap} {locs : List Loc} (hS : va_S A H0 H locs) (hz : H1.size = H.size + 1) (ho : ∀ q, q < H.size → H1[q]? = H[q]?) : va_S A H0 H1 locs := ⟨Nat.le_trans hS.1 (by omega), fun x h1 h2 => (ho x (Nat.lt_of_lt_of_le h1 hS.1)).trans (hS.2.1 x h1 h2), hS.2.2⟩
theorem ax_nar {P : ax_P} {ty : FieldType} {v : Value} (h1 : narrow ty v = v) (h2 : fits ty v = true) : narrow ty (ax_tr P v) = ax_tr P v ∧ fits ty (ax_tr P v) = true := by
  cases v with
  | ref a => cases ty <;> first | (exact ⟨rfl, rfl⟩) | (cases h2)
  | retAddr a => cases ty <;> cases h2
  | _ => exact ⟨h1, h2⟩
theorem ax_map_set {P : ax_P} {fs : List Value} {j : Nat} {v : Value} : (fs.map (ax_tr P)).set j (ax_tr P v) = (fs.set j v).map (ax_tr P) := by rw [List.map_set]
theorem ax_news_tr {P : ax_P} {ci : Nat} (h : ci < 11) : (ax_news.getD ci []).map (ax_tr P) = ax_news.getD ci [] := by
  have h1 := (ax_newl_ok ci h).2.2
  generalize ax_news.getD ci [] = l at h1
  induction l with
  | nil => rfl
  | cons v l ih =>
    rw [List.map_cons, ih (fun w hw => h1 w (List.mem_cons_of_mem _ hw))]
    rcases h1 v List.mem_cons_self with e | e | e <;> subst e <;> rfl
section AxHeap
variable {P : ax_P} {p : Program} {l : Launch} {e : Env} {R : Room} {s : State} {m : MethodId} {args : Array Value} {below : List Frame} {meth : Method} {c : Code} {H : Heap} {locs : List Loc} {cells slots : Nat} {Q : State → Prop} {y pc n : Nat} {ls : Array Slot} {i : Instr} {st r : List Value} {h : ax_H}
theorem sd_get {k a : Nat} {st1 : List Value} (hC : ax_C p s m args meth c y) (hK : ax_K P s) (hR : ax_Rel P n h H) (hS : va_S (ax_A P) s.heap H locs) (h1 : ax_getf (ax_cl y) k a r h = some st1) (hd : decode (ax_by y) pc = .ok (.getfield k, 3))
    (kk : W p l e R s m args below meth c H locs cells slots Q (F0 m (pc + 3) ls (st1.map (ax_tr P)))) : W p l e R s m args below meth c H locs cells slots Q (F0 m pc ls ((Value.ref a :: r).map (ax_tr P))) := by
  obtain ⟨hx, hb, -, hown, hG, -⟩ := hC
  unfold ax_getf at h1
  split at h1
  · rename_i q hq
    obtain ⟨row, hr, e1, e2, e3, e4⟩ := ax_fld_row hq
    split at h1
    · rename_i ci fs hh
      split at h1
      · rename_i hci
        split at h1
        · rename_i v hv
          cases h1
          rw [List.map_cons] at kk ⊢
          show W p l e R s m args below meth c H locs cells slots Q (F0 m pc ls (Value.ref (ax_ad P a) :: r.map (ax_tr P)))
          have ok := (ax_fw_ok row hr).2
          rw [← e3] at hci
          subst hci
          by_cases ha : a < 20
          · have hF : ax_FE P a = .inr (row.2.2.1, fs) := (hR.2.2.2.1 a ha).symm.trans hh
            rcases hK.2.2.2.1 a _ fs ha hF with z | ⟨z, v0, hv0, ef, o1, o2, o3⟩
            · rcases ok with ok | ok <;> omega
            · obtain ⟨g1, g2⟩ := ax_fw_str row hr z
              have hw := (ax_fw_ok row hr).1
              unfold ax_fw at hw
              rw [if_neg (by rw [g1]; decide)] at hw
              have hl := ax_hasG hG hw rfl
              rw [ax_ad_old ha]
              rw [e1, e2] at hl
              subst ef
              rcases (show row.2.2.2.1 = 0 ∨ row.2.2.2.1 = 1 by omega) with j0 | j0
              · rw [← e4, j0] at hv
                cases hv
                rw [show ax_fd row.2.2.1 row.2.2.2.1 = ("java/lang/String", "value", "[B", true) by unfold ax_fd; rw [if_pos z, if_pos j0]] at hl
                have kk : W p l e R s m args below meth c H locs cells slots Q (F0 m (pc + 3) ls (Value.ref (P.2.1 v0) :: r.map (ax_tr P))) := by
                  have := kk
                  rw [show ax_tr P (Value.ref v0) = Value.ref (P.2.1 v0) by show Value.ref (ax_ad P v0) = _; rw [ax_ad_old hv0]] at this
                  exact this
                exact vk_getf hx hb o2 hS hown hl (fun _ q => q) hd kk
              · rw [← e4, j0] at hv
                cases hv
                rw [show ax_fd row.2.2.1 row.2.2.2.1 = ("java/lang/String", "coder", "B", true) by unfold ax_fd; rw [if_pos z, if_neg (by omega)]] at hl
                exact vk_getf hx hb o3 hS hown hl (fun _ q => q) hd kk
          · have ha : 20 ≤ a := by omega
            have hne : h a ≠ ax_dead := by
              rw [hh]
              intro q
              have q : row.2.2.1 = 99 := congrArg (fun (z : ax_E) => match z with
                | .inr (c, _) => c
                | .inl _ => 0) q
              rcases ok with ok | ok <;> omega
            have ho := (hR.own ha hne).2
            rw [hh] at ho
            have ho : (ax_ws P n h)[a - 20]? = some (ax_ad P a, .inr (row.2.2.1, fs.map (ax_tr P))) := ho
            have hn12 : ¬ row.2.2.1 = 12 := by
              intro z
              obtain ⟨r0, h0, -⟩ := hR.1 _ _ ho
              rw [z] at h0
              cases h0
            have hlt : row.2.2.1 < 11 ∧ row.2.2.2.1 < ax_NN row.2.2.1 := by
              rcases ok with ok | ok
              · exact absurd ok hn12
              · exact ok
            have hv2 : (fs.map (ax_tr P))[row.2.2.2.1]? = some (ax_tr P v) := by rw [List.getElem?_map, e4, hv]; rfl
            rcases ax_fw_of (args := args) hG hK hr hn12 with ⟨-, hl⟩ | ⟨-, hl⟩
            · rw [e1, e2] at hl
              exact va_get hx hb hG (ax_layG hlt.1) hown hK.1 hR.1 _ ho (ax_vw _ hlt.1) _ hlt.2 hl (fun _ q => q) hv2 hd kk
            · rw [e1, e2] at hl
              exact va_getN hx hb hG (ax_layG hlt.1) hown hK.1 hR.1 _ ho (ax_vw _ hlt.1) _ hlt.2 hl (fun _ q => q) hv2 hd kk
        · cases h1
      · cases h1
    · cases h1
  · cases h1
theorem sd_put {k a : Nat} {v : Value} {h1 : ax_H} (hC : ax_C p s m args meth c y) (hK : ax_K P s) (hR : ax_Rel P n h H) (hS : va_S (ax_A P) s.heap H locs) (hp : ax_putf (ax_cl y) (ax_ini y) k a v h = some h1) (hd : decode (ax_by y) pc = .ok (.putfield k, 3))
    (kk : ∀ H1 locs1, ax_Rel P n h1 H1 → va_S (ax_A P) s.heap H1 locs1 → W p l e R s m args below meth c H1 locs1 cells slots Q (F0 m (pc + 3) ls (r.map (ax_tr P)))) : W p l e R s m args below meth c H locs cells slots Q (F0 m pc ls ((v :: Value.ref a :: r).map (ax_tr P))) := by
  obtain ⟨hx, hb, -, hown, hG, -, -, hini⟩ := hC
  unfold ax_putf at hp
  split at hp
  · rename_i q hq
    obtain ⟨row, hr, e1, e2, e3, e4⟩ := ax_fld_row hq
    split at hp
    · rename_i ci fs hh
      split at hp
      · rename_i hc
        obtain ⟨c1, c2, c3, c4, c5, c6, c7⟩ := hc
        cases hp
        show W p l e R s m args below meth c H locs cells slots Q (F0 m pc ls (ax_tr P v :: Value.ref (ax_ad P a) :: r.map (ax_tr P)))
        have ok := (ax_fw_ok row hr).2
        rw [← e3] at c1 c5 c6 c7
        rw [← e4] at c3 c5 c6 c7
        subst c1
        have hne : h a ≠ ax_dead := by
          rw [hh]
          intro q
          have q : row.2.2.1 = 99 := congrArg (fun (z : ax_E) => match z with
            | .inr (c, _) => c
            | .inl _ => 0) q
          omega
        have ho := (hR.own c4 hne).2
        rw [hh] at ho
        have ho : (ax_ws P n h)[a - 20]? = some (ax_ad P a, .inr (row.2.2.1, fs.map (ax_tr P))) := ho
        have hlt : row.2.2.1 < 11 ∧ row.2.2.2.1 < ax_NN row.2.2.1 := by
          rcases ok with ok | ok
          · omega
          · exact ok
        obtain ⟨d1, d2⟩ := ax_nar (P := P) c5 c6
        have hty : ∀ k, k < ax_NN row.2.2.1 → parseFieldDescriptor (ax_TT row.2.2.1 k).2.2.1 = some (ax_fty row.2.2.1 k) := fun k hk => (ax_fty_ok _ hlt.1 k hk).1
        have hnm : ∀ a, a < ax_NN row.2.2.1 → ∀ b, b < ax_NN row.2.2.1 → a ≠ b → (ax_TT row.2.2.1 a).2.1 ≠ (ax_TT row.2.2.1 b).2.1 := ax_fnm_ok _ hlt.1
        have hll : row.2.2.2.1 < (fs.map (ax_tr P)).length := by rw [List.length_map]; exact c3
        have fin : ∀ (H1 : Heap) (locs1 : List Loc), va_P (ax_D P) vwCl ((ax_ws P n h).set (a - 20) (ax_ad P a, .inr (row.2.2.1, (fs.map (ax_tr P)).set row.2.2.2.1 (ax_tr P v)))) H1 → va_D (ax_A P) ((ax_ws P n h).set (a - 20) (ax_ad P a, .inr (row.2.2.1, (fs.map (ax_tr P)).set row.2.2.2.1 (ax_tr P v)))) → va_S (ax_A P) s.heap H1 locs1 → H1.size = H.size → W p l e R s m args below meth c H1 locs1 cells slots Q (F0 m (pc + 3) ls (r.map (ax_tr P))) := by
          intro H1 locs1 g1 g2 g3 g4
          refine kk H1 locs1 (hR.up (e := .inr (row.2.2.1, fs.set q.2 v)) c4 hne ?_ g4 (fun t len f z => by cases z)) g3
          rw [ax_map_set, e4] at g1
          exact g1
        have hfi := (ax_fty_ok _ hlt.1 _ hlt.2).2
        obtain ⟨r0, h0, cell, q1, q2, q3, q4⟩ := hR.1 _ _ ho
        have hr0 : r0 = (ax_cn row.2.2.1, ax_TT row.2.2.1, ax_NN row.2.2.1) := Option.some.inj (h0.symm.trans (ax_vw _ hlt.1))
        subst hr0
        have hap := va_apart (own := ax_cn (ax_cl y)) hG (ax_layG hlt.1) (ax_fty row.2.2.1) hty hnm hK.1 (ax_vw _ hlt.1)
        obtain ⟨hS2, hfc, kC, hkC, hkind⟩ := hK.1.1 row.2.2.1 _ (ax_vw _ hlt.1)
        obtain ⟨cf, kf, fi, f, hi, hsl⟩ := hS2 row.2.2.2.1 hlt.2
        have hlay := hG _ (ax_layG hlt.1 _ (u_in_lay hlt.2))
        have hst := (u_facts hfc hkC (u_lays hG (ax_layG hlt.1) hlt.2) hi).1
        have last : ∀ H' : Heap, H'[ax_ad P a]? = some (cell.setSlot f.slot (ax_tr P v)) → H'.size = H.size → (∀ q, q ≠ ax_ad P a → H'[q]? = H[q]?) → W p l e R s m args below meth c H' (locs ++ [⟨ax_ad P a, f.slot⟩]) cells slots Q (F0 m (pc + 3) ls (r.map (ax_tr P))) := by
          intro H' g1 g2 g3
          rw [hsl] at g1
          refine fin H' _ (hR.1.set ax_ws_D ho ⟨_, ax_vw _ hlt.1, t_OB.to (V := updV (vp_V (fs.map (ax_tr P))) row.2.2.2.1 (ax_tr P v)) ⟨_, g1, q2, q3, t_set q4 hap hlt.2 (ax_tr P v)⟩ (fun j _ => vp_updV_set hll (ax_tr P v) j)⟩ g3) (va_D.set ax_ws_D ho) (hS.put g2 g3 (ax_ws_D.2 _ _ ho)) g2
        rcases c7 with c7 | ⟨c7, c8⟩
        · have hfin : (ax_TT row.2.2.1 row.2.2.2.1).2.2.2 = false := hfi.1.trans c7
          unfold u_lay at hlay
          rw [if_neg (by rw [hfin]; decide)] at hlay
          have h6 := u_store hfc hkC hkind hlay hi (hty _ hlt.2) d1 d2
          rcases ax_fw_of (args := args) hG hK hr (by omega) with ⟨-, hl⟩ | ⟨-, hl⟩
          · rw [e1, e2] at hl
            exact W.putK hx hb (f := f) ⟨hown, hl, ⟨_, _, _, hi⟩, hst⟩ (by rw [q2]; exact h6) q1 q3 (by rw [hsl]; exact k2_hasslot (q4 _ hlt.2)) rfl rfl hd last
          · rw [e1, e2] at hl
            exact va_WputK hx hb (f := f) hown hl hi hst (by rw [q2]; exact h6) q1 q3 (by rw [hsl]; exact k2_hasslot (q4 _ hlt.2)) rfl rfl hd last
        · by_cases hfin : (ax_TT row.2.2.1 row.2.2.2.1).2.2.2 = true
          · rcases ax_fw_of (args := args) hG hK hr (by omega) with ⟨-, hl⟩ | ⟨z, -⟩
            · rw [e1, e2] at hl
              unfold u_lay at hlay
              rw [if_pos hfin] at hlay
              have hcf : m.cls = cf := by
                obtain ⟨_, _, c', _, _, _, -, -, hf', -, -, -, hown2, -⟩ := Cond.laysFinal_spec hlay
                have e1 : c' = cf := by have := hi.symm.trans hf'; simp at this; exact this.1.symm
                rw [hfi.2, c8] at hown2
                rw [← e1]; exact Option.some.inj (hown.symm.trans hown2)
              have h6 := u_fits hfc hkC hkind (Or.inr hlay) hi (hty _ hlt.2) d1 d2
              exact W.putFinK hx hb hown hl hi hst hcf (hini c7) (by rw [q2]; exact h6) q1 q3 (by rw [hsl]; exact k2_hasslot (q4 _ hlt.2)) rfl rfl hd last
            · exact absurd (c8.trans e1.symm) (ax_fw_nest row hr z)
          · have hfin : (ax_TT row.2.2.1 row.2.2.2.1).2.2.2 = false := by simpa using hfin
            unfold u_lay at hlay
            rw [if_neg (by rw [hfin]; decide)] at hlay
            have h6 := u_store hfc hkC hkind hlay hi (hty _ hlt.2) d1 d2
            rcases ax_fw_of (args := args) hG hK hr (by omega) with ⟨-, hl⟩ | ⟨-, hl⟩
            · rw [e1, e2] at hl
              exact W.putK hx hb (f := f) ⟨hown, hl, ⟨_, _, _, hi⟩, hst⟩ (by rw [q2]; exact h6) q1 q3 (by rw [hsl]; exact k2_hasslot (q4 _ hlt.2)) rfl rfl hd last
            · rw [e1, e2] at hl
              exact va_WputK hx hb (f := f) hown hl hi hst (by rw [q2]; exact h6) q1 q3 (by rw [hsl]; exact k2_hasslot (q4 _ hlt.2)) rfl rfl hd last
      · cases hp
    · cases hp
  · cases hp
end AxHeap
end
section
/-! ===== the heap's other steps; the library's own methods; a method's end ===== -/
theorem ax_cat2 (v : Value) : v.category ≤ 2 := by cases v <;> simp [Value.category]
theorem ax_cat_sum : ∀ (r : List Value), (r.map fun v => v.category).sum ≤ 2 * r.length := by
  intro r
  induction r with
  | nil => simp
  | cons v r ih =>
    have := ax_cat2 v
    simp only [List.map_cons, List.sum_cons, List.length_cons]
    omega
theorem ax_mth_row {c k z : Nat} (h : ax_mth c k = some z) : ∃ row, row ∈ ax_mths ∧ row.1 = c ∧ row.2.1 = k ∧ row.2.2.1 = z := by
  obtain ⟨row, h1, h2, h3⟩ := ax_find h
  simp only [Bool.and_eq_true, beq_iff_eq] at h2
  exact ⟨row, h1, h2.1, h2.2, h3⟩
theorem ax_mw_lib : ∀ q ∈ ax_mths, 900 ≤ q.2.2.1 → q.2.2.2.1 = false := by decide +kernel
theorem ax_mw_far {args : Array Value} {s : State} (hG : ∀ w ∈ ax_G, w.before args s = true) {c k z : Nat} (h : ax_mth c k = some z) (hz : 900 ≤ z) : (Cond.methodLink (ax_cn c) k (ax_mn z)).before args s = true := by
  obtain ⟨row, hr, rfl, rfl, rfl⟩ := ax_mth_row h
  have h1 := ax_mw_ok row hr
  unfold ax_mw at h1
  rw [if_neg (by rw [ax_mw_lib row hr hz]; decide)] at h1
  exact ax_hasG hG h1 rfl
theorem ax_w55 : ax_isW 55 (.arrayClass .int) = true := by decide +kernel
theorem ax_w1027 : ax_isW 1027 (.arrayClass .boolean) = true := by decide +kernel
theorem ax_w25 : ax_isW 25 (.instanceMethod Lib.objectInit) = true := by decide +kernel
theorem ax_w26 : ax_isW 26 (.code Lib.objectInit ⟨#[0xb1]⟩ 1 none) = true := by decide +kernel
theorem ax_w466 : ax_isW 466 (.static arraycopyName) = true := by decide +kernel
theorem ax_w467 : ax_isW 467 (.native arraycopyName) = true := by decide +kernel
theorem ax_w17 : ax_isW 17 (.initialized "java/lang/System") = true := by decide +kernel
theorem ax_w4 : ax_isW 4 (.initialized "java/lang/Math") = true := by decide +kernel
theorem ax_w40 : ax_isW 40 (.static Lib.Math.max.name) = true := by decide +kernel
theorem ax_w41 : ax_isW 41 (.code Lib.Math.max.name Lib.Math.max.code 2 (some .int)) = true := by decide +kernel
theorem ax_w239 : ax_isW 239 (.static Lib.Math.min.name) = true := by decide +kernel
theorem ax_w240 : ax_isW 240 (.code Lib.Math.min.name Lib.Math.min.code 2 (some .int)) = true := by decide +kernel
theorem ax_w623 : ax_isW 623 (.static Lib.Math.abs.name) = true := by decide +kernel
theorem ax_w624 : ax_isW 624 (.code Lib.Math.abs.name Lib.Math.abs.code 1 (some .int)) = true := by decide +kernel
section AxHeap2
variable {P : ax_P} {p : Program} {l : Launch} {e : Env} {R : Room} {s : State} {m : MethodId} {args : Array Value} {below : List Frame} {meth : Method} {c : Code} {H : Heap} {locs : List Loc} {cells slots : Nat} {Q : State → Prop} {y pc n : Nat} {ls : Array Slot} {i : Instr} {st r : List Value} {h : ax_H}
theorem ax_in_of {x : Int32} {len N : Nat} (h : ¬ (x < 0 ∨ len ≤ x.toNatClampNeg)) (hl : len ≤ N) : ¬ (x < 0 ∨ N ≤ x.toNatClampNeg) := fun q => h (q.imp id (fun z => Nat.le_trans hl z))
theorem sd_iast {a len : Nat} {f : Nat → Int32} {x v : Int32} (hC : ax_C p s m args meth c y) (hK : ax_K P s) (hR : ax_Rel P n h H) (hS : va_S (ax_A P) s.heap H locs) (hh : h a = .inl (0, len, f)) (ha : 20 ≤ a) (hin : ¬ (x < 0 ∨ len ≤ x.toNatClampNeg)) (hd : decode (ax_by y) pc = .ok (.iastore, 1))
    (k : ∀ H1 locs1, ax_Rel P n (ax_up h a (.inl (0, len, upd f x.toNatClampNeg v))) H1 → va_S (ax_A P) s.heap H1 locs1 → W p l e R s m args below meth c H1 locs1 cells slots Q (F0 m (pc + 1) ls (r.map (ax_tr P)))) : W p l e R s m args below meth c H locs cells slots Q (F0 m pc ls ((Value.int v :: Value.int x :: Value.ref a :: r).map (ax_tr P))) := by
  obtain ⟨hx, hb, -⟩ := hC
  have hne : h a ≠ ax_dead := by rw [hh]; exact fun q => by cases q
  have ho := (hR.own ha hne).2
  rw [hh] at ho
  have ho : (ax_ws P n h)[a - 20]? = some (ax_ad P a, .inl (ax_dA P 0, len, .inl f)) := ho
  refine W.iast hx hb (hR.1 _ _ ho) ((hK.1.2 0 _ rfl).1 len (fun j => .int (f j))) (fun q => by cases q) (by show ¬ (x < 0 ∨ (arrV _ _ _).slots.size ≤ _); rw [arrV_size]; exact hin) rfl rfl hd fun H1 e1 z oq => ?_
  refine k H1 _ (hR.up (e := .inl (0, len, upd f x.toNatClampNeg v)) ha hne (hR.1.set ax_ws_D ho ?_ oq) z (fun t l2 f2 q => by cases q; omega)) (hS.put z oq (ax_ws_D.2 _ _ ho))
  show H1[ax_ad P a]? = some (vp_cell (ax_dA P 0) (len, .inl (upd f x.toNatClampNeg v)))
  rw [e1, vp_cell_i]
  show some ((arrV (ax_dA P 0) len (fun j => .int (f j))).setSlot _ _) = _
  rw [arrV_store]
  congr 1
  rw [vp_cell_i]
  congr 1
  funext q
  by_cases hq : q = x.toNatClampNeg
  · subst hq; simp [updV, upd]
  · simp [updV, upd, hq]
theorem sd_zast {a len : Nat} {f : Nat → Int32} {x v : Int32} (hC : ax_C p s m args meth c y) (hK : ax_K P s) (hR : ax_Rel P n h H) (hS : va_S (ax_A P) s.heap H locs) (hh : h a = .inl (1, len, f)) (ha : 20 ≤ a) (hv : v = 0 ∨ v = 1) (hin : ¬ (x < 0 ∨ len ≤ x.toNatClampNeg)) (hd : decode (ax_by y) pc = .ok (.bastore, 1))
    (k : ∀ H1 locs1, ax_Rel P n (ax_up h a (.inl (1, len, upd f x.toNatClampNeg v))) H1 → va_S (ax_A P) s.heap H1 locs1 → W p l e R s m args below meth c H1 locs1 cells slots Q (F0 m (pc + 1) ls (r.map (ax_tr P)))) : W p l e R s m args below meth c H locs cells slots Q (F0 m pc ls ((Value.int v :: Value.int x :: Value.ref a :: r).map (ax_tr P))) := by
  obtain ⟨hx, hb, -⟩ := hC
  have hne : h a ≠ ax_dead := by rw [hh]; exact fun q => by cases q
  have ho := (hR.own ha hne).2
  rw [hh] at ho
  have ho : (ax_ws P n h)[a - 20]? = some (ax_ad P a, .inl (ax_dA P 1, len, .inl f)) := ho
  have hnv : narrow .boolean (.int v) = .int v := by rcases hv with rfl | rfl <;> rfl
  refine W.zast hx hb (hR.1 _ _ ho) ((hK.1.2 1 _ rfl).1 len (fun j => .int (f j))) (fun q => by cases q) (by show ¬ (x < 0 ∨ (arrV _ _ _).slots.size ≤ _); rw [arrV_size]; exact hin) rfl rfl hd fun H1 e1 z oq => ?_
  refine k H1 _ (hR.up (e := .inl (1, len, upd f x.toNatClampNeg v)) ha hne (hR.1.set ax_ws_D ho ?_ oq) z (fun t l2 f2 q => by cases q; omega)) (hS.put z oq (ax_ws_D.2 _ _ ho))
  show H1[ax_ad P a]? = some (vp_cell (ax_dA P 1) (len, .inl (upd f x.toNatClampNeg v)))
  rw [e1, vp_cell_i, hnv]
  show some ((arrV (ax_dA P 1) len (fun j => .int (f j))).setSlot _ _) = _
  rw [arrV_store]
  congr 1
  rw [vp_cell_i]
  congr 1
  funext q
  by_cases hq : q = x.toNatClampNeg
  · subst hq; simp [updV, upd]
  · simp [updV, upd, hq]
theorem sd_newa {t : Nat} {ty : FieldType} {at_ : ArrayType} {x : Int32} {w : Nat} (hC : ax_C p s m args meth c y) (hK : ax_K P s) (hR : ax_Rel P n h H) (hS : va_S (ax_A P) s.heap H locs) (ht : t < 2) (hty : newarray.typeOf at_ = ty) (hdv : defaultValue ty = .int 0) (hcb : componentBytes ty ≤ 4) (htt : (ax_tys P)[t]? = some (ax_dA P t, ty)) (hra : ∀ cA, va_RA s (ax_dA P t) ty → s.vm.findClass ("[" ++ ty.toString) = some cA → cA = ax_dA P t) (hw : ax_isW w (.arrayClass ty) = true) (hx0 : ¬ x < 0) (hx4 : x.toNatClampNeg ≤ 400) (hd : decode (ax_by y) pc = .ok (.newarray at_, 2)) (hc : cells + 1 ≤ R.cells) (hs : slots + 400 ≤ R.slots)
    (k : ∀ H1 locs1, ax_Rel P (n + 1) (ax_up h (n + 20) (.inl (t, x.toNatClampNeg, fun _ => 0))) H1 → va_S (ax_A P) s.heap H1 locs1 → W p l e R s m args below meth c H1 locs1 (cells + 1) (slots + 400) Q (F0 m (pc + 2) ls ((Value.ref (n + 20) :: r).map (ax_tr P)))) : W p l e R s m args below meth c H locs cells slots Q (F0 m pc ls ((Value.int x :: r).map (ax_tr P))) := by
  obtain ⟨hx, hb, -, -, hG, -⟩ := hC
  subst hty
  refine va_newaK (n := x) (N := x.toNatClampNeg) hx hb (ax_hasG hG hw rfl) (g := F0 m pc ls ((Value.int x :: r).map (ax_tr P))) rfl hd rfl hx0 rfl (Nat.le_trans (Nat.mul_le_mul hx4 hcb) (by decide)) hc (by omega) (h := ax_B P + n) hR.2.1 fun H1 cA e1 z1 o1 hAr hNm => ?_
  have hcA : cA = ax_dA P t := hra cA (hK.1.2 t _ htt).2 hNm
  subst hcA
  refine W.widen (Nat.le_refl _) (show slots + x.toNatClampNeg ≤ slots + 400 by omega) ?_
  have z2 : H1.size = H.size + 1 := by rw [z1, hR.2.1]
  have o2 : ∀ q, q < H.size → H1[q]? = H[q]? := fun q hq => o1 q (by rw [← hR.2.1]; exact hq)
  have k1 := k H1 locs (hR.push (e := .inl (t, x.toNatClampNeg, fun _ => 0)) (by
    show H1[ax_B P + n]? = some (vp_cell (ax_dA P t) (x.toNatClampNeg, .inl (fun _ => 0)))
    rw [e1, vp_cell_i, hdv]) z2 o2 (fun t1 l2 f2 q => by cases q; exact ht)) (ax_S_push hS z2 o2)
  have ea : ax_tr P (Value.ref (n + 20)) = Value.ref (ax_B P + n) := by
    show Value.ref (ax_ad P (n + 20)) = _
    rw [ax_ad_own (by omega), Nat.add_sub_cancel]
  rw [List.map_cons, ea] at k1
  exact k1
theorem sd_new {k ci : Nat} (hC : ax_C p s m args meth c y) (hK : ax_K P s) (hR : ax_Rel P n h H) (hS : va_S (ax_A P) s.heap H locs) (hq : ax_cls (ax_cl y) k = some ci) (hd : decode (ax_by y) pc = .ok (.new k, 3)) (hc : cells + 1 ≤ R.cells) (hs : slots + 400 ≤ R.slots)
    (kk : ∀ H1 locs1, ax_Rel P (n + 1) (ax_up h (n + 20) (.inr (ci, ax_news.getD ci []))) H1 → va_S (ax_A P) s.heap H1 locs1 → W p l e R s m args below meth c H1 locs1 (cells + 1) (slots + 400) Q (F0 m (pc + 3) ls ((Value.ref (n + 20) :: st).map (ax_tr P)))) : W p l e R s m args below meth c H locs cells slots Q (F0 m pc ls (st.map (ax_tr P))) := by
  obtain ⟨hx, hb, -, hown, hG, -⟩ := hC
  obtain ⟨row, hr, e1, e2⟩ := ax_find hq
  simp only [Bool.and_eq_true, beq_iff_eq] at e1
  obtain ⟨hw, hlt⟩ := ax_nw_ok row hr
  rw [e1.1, e1.2, e2] at hw
  rw [e2] at hlt
  have hin := ax_hasG hG (ax_ins_ok ci hlt) rfl
  have hini := ax_hasG hG (ax_ini_ok ci (by omega)) rfl
  have hKn := hK.1.1 ci _ (ax_vw ci hlt)
  obtain ⟨n1, n2, n3⟩ := ax_newl_ok ci hlt
  refine W.newcK hx hb hown (ax_hasG hG hw rfl) hin hini (g := F0 m pc ls (st.map (ax_tr P))) rfl hd hc (by omega) hKn.2.1 (h := ax_B P + n) hR.2.1 fun H1 kC hkC e3 z1 o1 => ?_
  refine W.widen (Nat.le_refl _) (show slots + ax_NN ci ≤ slots + 400 by omega) ?_
  have z2 : H1.size = H.size + 1 := by rw [z1, hR.2.1]
  have o2 : ∀ q, q < H.size → H1[q]? = H[q]? := fun q hq => o1 q (by rw [← hR.2.1]; exact hq)
  have k1 := kk H1 locs (hR.push (e := .inr (ci, ax_news.getD ci [])) (by
    refine ⟨_, ax_vw ci hlt, (u_born (ax_fty ci) hG (ax_layG hlt) hKn hkC e3 (fun k hk => (ax_fty_ok ci hlt k hk).1)).to (fun j hj => ?_)⟩
    show _ = vp_V ((ax_news.getD ci []).map (ax_tr P)) j
    rw [ax_news_tr hlt]
    exact (ax_new_ok ci hlt j hj).1) z2 o2 (fun t1 l2 f2 q => by cases q)) (ax_S_push hS z2 o2)
  have ea : ax_tr P (Value.ref (n + 20)) = Value.ref (ax_B P + n) := by
    show Value.ref (ax_ad P (n + 20)) = _
    rw [ax_ad_own (by omega), Nat.add_sub_cancel]
  rw [List.map_cons, ea] at k1
  exact k1
set_option maxHeartbeats 4000000 in
theorem sd_hp {q : List Value × Nat × ax_H} (hC : ax_C p s m args meth c y) (hK : ax_K P s) (hR : ax_Rel P n h H) (hS : va_S (ax_A P) s.heap H locs) (h1 : ax_hp (ax_cl y) (ax_ini y) i st n h = some q) (hd : decode (ax_by y) pc = .ok (i, ax_len i)) (hc : cells + (q.2.1 - n) ≤ R.cells) (hs : slots + 400 * (q.2.1 - n) ≤ R.slots)
    (k : ∀ H1 locs1, ax_Rel P q.2.1 q.2.2 H1 → va_S (ax_A P) s.heap H1 locs1 → W p l e R s m args below meth c H1 locs1 (cells + (q.2.1 - n)) (slots + 400 * (q.2.1 - n)) Q (F0 m (pc + ax_len i) ls (q.1.map (ax_tr P)))) : W p l e R s m args below meth c H locs cells slots Q (F0 m pc ls (st.map (ax_tr P))) := by
  have hC0 := hC
  obtain ⟨hx, hb, -, hown, hG, -⟩ := hC0
  unfold ax_hp at h1
  split at h1
  · split at h1
    · obtain ⟨st1, g, rfl⟩ := Option.map_eq_some_iff.mp h1
      simp only [Nat.sub_self, Nat.mul_zero, Nat.add_zero] at k
      exact sd_get hC hK hR hS g hd (k H locs hR hS)
    · cases h1
  · split at h1
    · obtain ⟨h2, g, rfl⟩ := Option.map_eq_some_iff.mp h1
      simp only [Nat.sub_self, Nat.mul_zero, Nat.add_zero] at k
      exact sd_put hC hK hR hS g hd k
    · cases h1
  · obtain ⟨v, g, rfl⟩ := Option.map_eq_some_iff.mp h1
    simp only [Nat.sub_self, Nat.mul_zero, Nat.add_zero] at k
    obtain ⟨row, hr, e1, e2⟩ := ax_find g
    simp only [Bool.and_eq_true, beq_iff_eq] at e1
    have hw := ax_sw_ok row hr
    unfold ax_sw at hw
    have hZ := hK.2.2.2.2.1 row hr
    rw [e2] at hZ
    by_cases hb2 : row.2.2.2.2.2.2.1 = true
    · rw [if_pos hb2, e1.1, e1.2] at hw
      exact va_getsN hx hb hZ hS hown (ax_hasN hK hw rfl rfl) (fun _ q => q) hd (k H locs hR hS)
    · rw [if_neg hb2, e1.1, e1.2] at hw
      exact va_gets hx hb hZ hS hown (ax_hasG hG hw rfl) (fun _ q => q) hd (k H locs hR hS)
  · split at h1
    · rename_i v g
      cases h1
      simp only [Nat.sub_self, Nat.mul_zero, Nat.add_zero] at k
      obtain ⟨row, hr, e1, e2⟩ := ax_find g
      simp only [Bool.and_eq_true, beq_iff_eq] at e1
      have hw := ax_ci_ok row hr
      rw [e1.1, e1.2, e2] at hw
      exact lv_ldc hx hb hown (ax_hasG hG hw rfl) hd (k H locs hR hS)
    · obtain ⟨v, g, rfl⟩ := Option.map_eq_some_iff.mp h1
      simp only [Nat.sub_self, Nat.mul_zero, Nat.add_zero] at k
      obtain ⟨row, hr, e1, e2⟩ := ax_find g
      simp only [Bool.and_eq_true, beq_iff_eq] at e1
      have hZ := hK.2.2.2.2.2.1 row hr
      rw [e1.1, e1.2, e2] at hZ
      exact va_ldcS hx hb hown hZ hd (k H locs hR hS)
  · obtain ⟨v, g, rfl⟩ := Option.map_eq_some_iff.mp h1
    simp only [Nat.sub_self, Nat.mul_zero, Nat.add_zero] at k
    obtain ⟨row, hr, e1, e2⟩ := ax_find g
    simp only [Bool.and_eq_true, beq_iff_eq] at e1
    have hw := ax_ci_ok row hr
    rw [e1.1, e1.2, e2] at hw
    exact lv_ldcw hx hb hown (ax_hasG hG hw rfl) hd (k H locs hR hS)
  · obtain ⟨v, g, rfl⟩ := Option.map_eq_some_iff.mp h1
    simp only [Nat.sub_self, Nat.mul_zero, Nat.add_zero] at k
    obtain ⟨row, hr, e1, e2⟩ := ax_find g
    simp only [Bool.and_eq_true, beq_iff_eq] at e1
    have hw := ax_cl_ok row hr
    rw [e1.1, e1.2, e2] at hw
    exact lv_ldc2 hx hb hown (ax_hasG hG hw rfl) hd (k H locs hR hS)
  · split at h1
    · split at h1
      · rename_i t len f hh
        cases h1
        simp only [Nat.sub_self, Nat.mul_zero, Nat.add_zero] at k
        obtain ⟨cell, c1, c2, c3, c4, c5, c6⟩ := hR.arr hK hS hh
        exact W.alen hx hb c1 c2 c5 rfl rfl hd (k H locs hR hS)
      · cases h1
    · cases h1
  · split at h1
    · split at h1
      · rename_i t len f hh
        split at h1
        · rename_i g
          cases h1
          obtain ⟨rfl, g⟩ := g
          simp only [Nat.sub_self, Nat.mul_zero, Nat.add_zero] at k
          obtain ⟨cell, c1, c2, c3, c4, c5, c6⟩ := hR.arr hK hS hh
          exact W.iald hx hb c1 c2 c3 (ax_in_of g c4) (c6 _ (Nat.not_le.mp fun q => g (Or.inr q))) rfl rfl hd (k H locs hR hS)
        · cases h1
      · cases h1
    · cases h1
  · split at h1
    · split at h1
      · rename_i t len f hh
        split at h1
        · rename_i g
          cases h1
          obtain ⟨g0, g⟩ := g
          simp only [Nat.sub_self, Nat.mul_zero, Nat.add_zero] at k
          obtain ⟨cell, c1, c2, c3, c4, c5, c6⟩ := hR.arr hK hS hh
          rcases g0 with rfl | rfl
          · exact W.zald hx hb c1 c2 c3 (ax_in_of g c4) (c6 _ (Nat.not_le.mp fun q => g (Or.inr q))) rfl rfl hd (k H locs hR hS)
          · exact W.bald hx hb c1 c2 c3 (ax_in_of g c4) (c6 _ (Nat.not_le.mp fun q => g (Or.inr q))) rfl rfl hd (k H locs hR hS)
        · cases h1
      · cases h1
    · cases h1
  · split at h1
    · split at h1
      · rename_i t len f hh
        split at h1
        · rename_i g
          cases h1
          obtain ⟨rfl, g1, g2⟩ := g
          simp only [Nat.sub_self, Nat.mul_zero, Nat.add_zero] at k
          exact sd_iast hC hK hR hS hh g1 g2 hd k
        · cases h1
      · cases h1
    · cases h1
  · split at h1
    · split at h1
      · rename_i t len f hh
        split at h1
        · rename_i g
          cases h1
          obtain ⟨rfl, g1, g2, g3⟩ := g
          simp only [Nat.sub_self, Nat.mul_zero, Nat.add_zero] at k
          exact sd_zast hC hK hR hS hh g1 g2 g3 hd k
        · cases h1
      · cases h1
    · cases h1
  · split at h1
    · split at h1
      · rename_i g
        cases h1
        obtain ⟨g1, g2, g3⟩ := g
        simp only [Nat.add_sub_cancel_left, Nat.mul_one] at k hc hs
        rcases g1 with rfl | rfl
        · exact sd_newa (t := 0) (ty := .int) hC hK hR hS (by omega) rfl rfl (by decide) rfl (fun cA a b => Option.some.inj (b.symm.trans a)) ax_w55 g2 g3 hd hc hs k
        · exact sd_newa (t := 1) (ty := .boolean) hC hK hR hS (by omega) rfl rfl (by decide) rfl (fun cA a b => Option.some.inj (b.symm.trans a)) ax_w1027 g2 g3 hd hc hs k
      · cases h1
    · cases h1
  · obtain ⟨ci, g, rfl⟩ := Option.map_eq_some_iff.mp h1
    simp only [Nat.add_sub_cancel_left, Nat.mul_one] at k hc hs
    exact sd_new hC hK hR hS g hd hc hs k
  · cases h1
theorem sd_rv {v : Option Value} {Qc : Array Value → State → Outcome → State → Prop} {free : Addr → Prop} (hC : ax_C p s m args meth c y) (h1 : ax_rv y i st = some v) (hd : decode (ax_by y) pc = .ok (i, ax_len i)) (hq : ∀ t : State, t.heap = H → s.WarmedH t.vm → Qc args s (.returned (v.map (ax_tr P))) t) (hf : ∀ q ∈ locs, free q.base) : W p l e R s m args below meth c H locs cells slots (MQ below Qc args s cells slots free) (F0 m pc ls (st.map (ax_tr P))) := by
  obtain ⟨hx, hb, -, -, -, hr, hlocks, -⟩ := hC
  unfold ax_rv at h1
  split at h1
  · split at h1
    · split at h1
      · rename_i ty hty
        split at h1
        · rename_i g
          cases h1
          exact W.zret hx hb (hr.trans hty) g hq hf hd hlocks
        · cases h1
      · cases h1
    · cases h1
  · split at h1
    · split at h1
      · rename_i g
        cases h1
        exact W.lret hx hb (hr.trans g) hq hf hd hlocks
      · cases h1
    · cases h1
  · split at h1
    · split at h1
      · rename_i nm g
        cases h1
        exact W.aret hx hb (hr.trans g) (Or.inl ⟨_, rfl⟩) (Or.inr ⟨_, rfl⟩) hq hf hd hlocks
      · cases h1
    · cases h1
  · split at h1
    · split at h1
      · rename_i g
        cases h1
        exact W.vret hx hb (hr.trans g) hq hf hd hlocks
      · cases h1
    · cases h1
  · cases h1
end AxHeap2
end
section
/-! ===== the library's own methods; calls; the small machine is the machine ===== -/
def ax_ww (z : Nat) : List Cond := Cond.code (ax_nm z) (ax_by z) (ax_ml z) (ax_rt z) :: ax_G
def ax_rm (d mc ms : Nat) : Room := { frames := d, cells := mc, slots := ms, locals := 60 * d }
def ax_Qc (P : ax_P) (o : ax_R) : Array Value → State → Outcome → State → Prop := fun _ st oc t => oc = .returned (o.1.map (ax_tr P)) ∧ ax_Rel P o.2.1 o.2.2 t.heap ∧ va_F (ax_A P) st t
abbrev ax_Pc (P : ax_P) (n : Nat) (h : ax_H) (as : List Value) : Array Value → State → Prop := va_Pc (as.map (ax_tr P)) (fun U => ax_Rel P n h U.heap ∧ ax_K P U)
theorem ax_wwG {z : Nat} (hz : z < 226) : GoodIn ax_G (ax_ww z) := by
  intro w hw
  rcases List.mem_cons.mp hw with rfl | hw
  · exact ⟨ax_inG (ax_kc z hz) rfl, good_of_word rfl⟩
  · exact ⟨hw, good_of_word (List.mem_filter.mp hw).2⟩
theorem ax_cn_mh : ∀ c, c < 17 → ax_cn c ≠ "java/lang/invoke/MethodHandle" ∧ ax_cn c ≠ "java/lang/invoke/VarHandle" := by decide +kernel
theorem ax_rt_init : ∀ z, z < 226 → (ax_nm z).name = "<init>" → ax_rt z = none := by decide +kernel
theorem ax_cn12 : ax_cn 12 = "java/lang/String" := by decide +kernel
theorem ax_sel {z : Nat} (hz : z < 226) (h1 : ax_sc z = false) (h2 : ¬ (ax_nm z).name = "<init>") : Cond.selects (ax_nm z).cls (ax_nm z) (ax_nm z) ∈ ax_G := by
  have h := ax_mk5 z hz
  unfold ax_mkS at h
  split at h
  rename_i b e _
  split at h
  · rw [h1] at h
    simp [ax_ini, h2] at h
  · split at h
    · exact ax_inG (ax_isW_mem h) rfl
    · exact List.mem_filter.mpr ⟨List.mem_append_left _ (List.mem_of_getElem? (of_decide_eq_true h)), rfl⟩
theorem ax_kwG {args : Array Value} {s : State} (hG : ∀ w ∈ ax_G, w.before args s = true) {z : Nat} (hz : z < 226) : (ax_kw z).before args s = true := by
  refine ax_hasG hG (ax_mk1 z hz) ?_
  unfold ax_kw
  split <;> rfl
theorem ax_mw_near {P : ax_P} {args : Array Value} {s : State} (hG : ∀ w ∈ ax_G, w.before args s = true) (hK : ax_K P s) {c k z : Nat} (h : ax_mth c k = some z) (hz : z < 226) : (Cond.methodLink (ax_cn c) k (ax_nm z)).before args s = true ∨ va_Nw (.methodLinkNest (ax_cn c) k (ax_nm z) "DinnerPleas") s := by
  obtain ⟨row, hr, rfl, rfl, rfl⟩ := ax_mth_row h
  have h1 := ax_mw_ok row hr
  unfold ax_mw at h1
  have e : ax_mn row.2.2.1 = ax_nm row.2.2.1 := by
    unfold ax_mn
    rw [if_neg (by omega), if_neg (by omega), if_neg (by omega), if_neg (by omega), if_neg (by omega)]
  rw [e] at h1
  by_cases hb : row.2.2.2.1 = true
  · rw [if_pos hb] at h1
    exact Or.inr (hK.2.1 _ (ax_inN (ax_isW_mem h1) rfl))
  · rw [if_neg hb] at h1
    exact Or.inl (ax_hasG hG h1 rfl)
theorem ax_pop_inv : ∀ (k : Nat) (as st as2 r : List Value), ax_pop k as st = some (as2, r) → ∃ q : List Value, q.length = k ∧ as2 = q.reverse ++ as ∧ st = q ++ r := by
  intro k
  induction k with
  | zero => intro as st as2 r h; cases h; exact ⟨[], rfl, rfl, rfl⟩
  | succ k ih =>
    intro as st as2 r h
    cases st with
    | nil => cases h
    | cons v st =>
      obtain ⟨q, h1, h2, h3⟩ := ih (v :: as) st as2 r h
      exact ⟨v :: q, by rw [List.length_cons, h1], by rw [h2, List.reverse_cons, List.append_assoc]; rfl, by rw [h3]; rfl⟩
theorem ax_pop_rev {k : Nat} {st as r : List Value} (h : ax_pop k [] st = some (as, r)) : as.length = k ∧ st = as.reverse ++ r := by
  obtain ⟨q, h1, h2, h3⟩ := ax_pop_inv k [] st as r h
  rw [List.append_nil] at h2
  subst h2
  exact ⟨by rw [List.length_reverse, h1], by rw [List.reverse_reverse]; exact h3⟩
theorem ax_K.same {P : ax_P} {U V : State} (hv : V.vm = U.vm) (hh : V.heap = U.heap) (hK : ax_K P U) : ax_K P V := by
  obtain ⟨k1, k2, k3, k4, k5, k6, k7, k8⟩ := hK
  have hal : U.vm.Alike V.vm := by rw [hv]; exact Vm.Alike.refl _
  refine ⟨k1.moved hal, fun w hw => ?_, fun k t len f hk he => by rw [hh]; exact va_T.moved hal (k3 k t len f hk he), fun k ci fs hk he => ?_, fun q hq => by rw [hh]; exact va_Z.moved hal (k5 q hq), fun q hq => vk_R.same hv (k6 q hq), k7, by rw [hh]; exact k8⟩
  · refine va_Nw.same ?_ hv.symm (k2 w hw)
    have h2 := (List.mem_filter.mp hw).2
    cases w <;> first | rfl | (simp [ax_isN] at h2)
  · rw [hh]
    rcases k4 k ci fs hk he with e | ⟨e, v, hv1, e1, a1, a2, a3⟩
    · exact Or.inl e
    · exact Or.inr ⟨e, v, hv1, e1, va_O.moved hal a1, va_OF.moved hal a2, va_OF.moved hal a3⟩
theorem ax_blind {P : ax_P} {n : Nat} {h : ax_H} {as : List Value} : FrameBlind (ax_Pc P n h as) := fun _ U _ _ q => ⟨q.1, q.2.1, ax_K.same (U := U) rfl rfl q.2.2⟩
theorem ax_pre {P : ax_P} {n : Nat} {h : ax_H} {as : List Value} {s : State} {H : Heap} {locs : List Loc} (hK : ax_K P s) (hR : ax_Rel P n h H) (hS : va_S (ax_A P) s.heap H locs) : ∀ U : State, U.heap = H → s.WarmedH U.vm → ax_Pc P n h as (as.map (ax_tr P)).toArray U := fun U hU hW => ⟨rfl, by rw [hU]; exact hR, hK.next hS hU hW⟩
section AxCall
variable {P : ax_P} {p : Program} {l : Launch} {e : Env} {R : Room} {s : State} {m : MethodId} {args : Array Value} {below : List Frame} {meth : Method} {c : Code} {H : Heap} {locs : List Loc} {cells slots : Nat} {Q : State → Prop} {y pc n : Nat} {ls : Array Slot} {i : Instr} {st r : List Value} {h : ax_H}
theorem sd_copy {a0 a n0 n1 k : Nat} {f g : Nat → Int32} {sp dp mm : Int32} (hC : ax_C p s m args meth c y) (hK : ax_K P s) (hR : ax_Rel P n h H) (hS : va_S (ax_A P) s.heap H locs) (hls : ls.size = ax_ml y) (hm : ax_mth (ax_cl y) k = some 901) (g0 : h a0 = .inl (0, n0, f)) (g1 : h a = .inl (0, n1, g)) (ha0 : 20 ≤ a0) (ha : 20 ≤ a) (h1 : ¬ sp < 0) (h2 : ¬ dp < 0) (h3 : ¬ mm < 0) (h4 : sp.toNatClampNeg + mm.toNatClampNeg ≤ n0) (h5 : dp.toNatClampNeg + mm.toNatClampNeg ≤ n1) (hr : r.length ≤ 4) (hfr : 1 ≤ R.frames) (hlo : 60 ≤ R.locals) (hd : decode (ax_by y) pc = .ok (.invokestatic k, 3))
    (kk : ∀ H1 locs1, ax_Rel P n (ax_up h a (.inl (0, n1, va_cpy f g sp.toNatClampNeg dp.toNatClampNeg mm.toNatClampNeg))) H1 → va_S (ax_A P) s.heap H1 locs1 → W p l e R s m args below meth c H1 locs1 cells slots Q (F0 m (pc + 3) ls (r.map (ax_tr P)))) : W p l e R s m args below meth c H locs cells slots Q (F0 m pc ls ((Value.int mm :: Value.int dp :: Value.ref a :: Value.int sp :: Value.ref a0 :: r).map (ax_tr P))) := by
  obtain ⟨hx, hb, hml, hown, hG, -⟩ := hC
  have nn : ∀ z : Int32, ¬ z < 0 → z.toInt = (z.toNatClampNeg : Int) := by
    intro z hz
    have hz0 : (0 : Int) ≤ z.toInt := by
      have := Int32.not_lt.mp hz
      simpa using Int32.le_iff_toInt_le.mp this
    show z.toInt = ((z.toInt.toNat : Nat) : Int)
    omega
  have hne0 : h a0 ≠ ax_dead := by rw [g0]; exact fun q => by cases q
  have hne : h a ≠ ax_dead := by rw [g1]; exact fun q => by cases q
  have o0 := (hR.own ha0 hne0).2
  have o1 := (hR.own ha hne).2
  rw [g0] at o0
  rw [g1] at o1
  have hc0 : H[ax_ad P a0]? = some (vp_cell (ax_dA P 0) (n0, .inl f)) := hR.1 _ _ o0
  have hc1 : H[ax_ad P a]? = some (vp_cell (ax_dA P 0) (n1, .inl g)) := hR.1 _ _ o1
  obtain ⟨-, k0, hk0, cm0, hkk0⟩ := (hK.1.2 0 _ rfl).1 n0 (fun j => .int (f j))
  obtain ⟨-, k1, hk1, cm1, hkk1⟩ := (hK.1.2 0 _ rfl).1 n1 (fun j => .int (g j))
  have hlink : (Cond.methodLink (ax_cn (ax_cl y)) k arraycopyName).before args s = true := ax_mw_far hG hm (by omega)
  have hsum := ax_cat_sum (r.map (ax_tr P))
  rw [List.length_map] at hsum
  have hnw : nativeFrameWords "java/lang/System" "arraycopy" 5 ≤ 10 := by decide
  intro T hT X
  obtain ⟨vm', X', step⟩ := X.arraycopy hx hown hlink (ax_hasG hG ax_w467 rfl) (ax_hasG hG ax_w466 rfl) (ax_hasG hG ax_w17 rfl) (src := ax_ad P a0) (dst := ax_ad P a) (cs := vp_cell (ax_dA P 0) (n0, .inl f)) (cd := vp_cell (ax_dA P 0) (n1, .inl g)) (srcPos := sp) (destPos := dp) (n := mm) (by rw [hT]; exact hc0) (by rw [hT]; exact hc1)
    (fun _ q => by cases q) (fun _ q => by cases q) (fun q => by cases q) (fun q => by cases q) hk0 hk1 hkk0 hkk1 (by simp [refKind]) h1 h2 h3
    (by rw [nn sp h1, nn mm h3]; show ¬ _ > ((arrV (ax_dA P 0) n0 (fun j => .int (f j))).slots.size : Int); rw [arrV_size]; omega)
    (by rw [nn dp h2, nn mm h3]; show ¬ _ > ((arrV (ax_dA P 0) n1 (fun j => .int (g j))).slots.size : Int); rw [arrV_size]; omega)
    (fun vm₁ _ i hi => by
      have e1 : (vp_cell (ax_dA P 0) (n0, .inl f)).slots.getD (sp.toNatClampNeg + i) .null = .int (f (sp.toNatClampNeg + i)) := by
        show (arrV (ax_dA P 0) n0 (fun j => .int (f j))).slots.getD _ _ = _
        rw [Array.getD_eq_getD_getElem?, arrV_read _ _ (by omega)]
        rfl
      refine ⟨?_, ?_⟩
      · rw [e1]
        rfl
      · rw [e1]
        exact trivial)
    (g := F0 m pc ls (Value.int mm :: Value.int dp :: Value.ref (ax_ad P a) :: Value.int sp :: Value.ref (ax_ad P a0) :: r.map (ax_tr P))) rfl (by rw [hml]; exact hls) (rest := r.map (ax_tr P)) rfl (by rw [hb]; exact hd) hfr (by show 2 * 0 + _ + _ ≤ _; omega)
  have e1 : copied (vp_cell (ax_dA P 0) (n0, .inl f)) (vp_cell (ax_dA P 0) (n1, .inl g)) sp dp mm = vp_cell (ax_dA P 0) (n1, .inl (va_cpy f g sp.toNatClampNeg dp.toNatClampNeg mm.toNatClampNeg)) := va_copied (fun z => .int z) (ax_dA P 0) (ax_dA P 0) f g h4
  rw [e1] at X' step
  have hl : ax_ad P a < H.size := (Array.getElem?_eq_some_iff.mp hc1).1
  have hheap : ((T.setVm vm').setCell (ax_ad P a) (vp_cell (ax_dA P 0) (n1, .inl (va_cpy f g sp.toNatClampNeg dp.toNatClampNeg mm.toNatClampNeg)))).heap = H.setIfInBounds (ax_ad P a) (vp_cell (ax_dA P 0) (n1, .inl (va_cpy f g sp.toNatClampNeg dp.toNatClampNeg mm.toNatClampNeg))) := by rw [← hT]; rfl
  have oq : ∀ q : Nat, q ≠ ax_ad P a → (H.setIfInBounds (ax_ad P a) (vp_cell (ax_dA P 0) (n1, .inl (va_cpy f g sp.toNatClampNeg dp.toNatClampNeg mm.toNatClampNeg))))[q]? = H[q]? := fun q hq => by simp [Array.getElem?_setIfInBounds, Ne.symm hq]
  obtain ⟨t, a1, b1⟩ := kk _ _ (hR.up (e := .inl (0, n1, va_cpy f g sp.toNatClampNeg dp.toNatClampNeg mm.toNatClampNeg)) ha hne (hR.1.set ax_ws_D o1 (show (H.setIfInBounds (ax_ad P a) _)[ax_ad P a]? = some _ by simp [Array.getElem?_setIfInBounds, hl]) oq) (by simp) (fun t l2 f2 q => by cases q; omega)) ⟨by simp; exact hS.1, fun q w1 w2 => by
      rw [oq q (fun e => w2 (by rw [e]; exact ax_ws_D.2 _ _ o1))]
      exact hS.2.1 q w1 w2, fun q hq => by
      rcases List.mem_append.mp hq with w | w
      · exact hS.2.2 q w
      · obtain ⟨z, -, hz⟩ := List.mem_map.mp w
        rw [← hz]
        exact ax_ws_D.2 _ _ o1⟩ _ hheap X'
  exact ⟨t, step t a1, b1⟩
set_option maxHeartbeats 4000000 in
theorem sd_nv {q : List Value × ax_H} (hC : ax_C p s m args meth c y) (hK : ax_K P s) (hR : ax_Rel P n h H) (hS : va_S (ax_A P) s.heap H locs) (hls : ls.size = ax_ml y) (h1 : ax_nv (ax_cl y) i st h = some q) (hd : decode (ax_by y) pc = .ok (i, ax_len i)) (hfr : 1 ≤ R.frames) (hlo : 60 ≤ R.locals) (hc : cells ≤ R.cells) (hs : slots ≤ R.slots)
    (k : ∀ H1 locs1, ax_Rel P n q.2 H1 → va_S (ax_A P) s.heap H1 locs1 → W p l e R s m args below meth c H1 locs1 cells slots Q (F0 m (pc + 3) ls (q.1.map (ax_tr P)))) : W p l e R s m args below meth c H locs cells slots Q (F0 m pc ls (st.map (ax_tr P))) := by
  have hC0 := hC
  obtain ⟨hx, hb, hml, hown, hG, -⟩ := hC0
  unfold ax_nv at h1
  split at h1
  · split at h1
    · rename_i k0 hm
      split at h1
      · rename_i a r
        split at h1
        · rename_i g
          cases h1
          have hsum := ax_cat_sum (r.map (ax_tr P))
          rw [List.length_map] at hsum
          have hlink : (Cond.methodLink (ax_cn (ax_cl y)) k0 Lib.objectInit).before args s = true := ax_mw_far hG hm (by omega)
          exact W.objInit hx hb hown hlink (ax_hasG hG ax_w25 rfl) (ax_hasG hG ax_w26 rfl) rfl (by rw [hml]; exact hls) rfl hd hfr (by show 2 * 0 + _ + _ ≤ _; omega) (k H locs hR hS)
        · cases h1
      · cases h1
    · cases h1
  · split at h1
    · rename_i k0 hm
      split at h1
      · split at h1
        · rename_i t0 n0 f t1 n1 g e0 e1
          split at h1
          · rename_i w
            obtain ⟨rfl, rfl, w1, w2, w3, w4, w5, w6, w7, w8⟩ := w
            cases h1
            exact sd_copy hC hK hR hS hls hm e0 e1 w1 w2 w4 w5 w6 w7 w8 w3 hfr hlo hd k
          · cases h1
        · cases h1
      · cases h1
    · split at h1
      · rename_i k0 hm0 hm
        split at h1
        · rename_i y0 x0 r
          split at h1
          · rename_i g
            cases h1
            have hsum := ax_cat_sum (r.map (ax_tr P))
            rw [List.length_map] at hsum
            have hlink : (Cond.methodLink (ax_cn (ax_cl y)) k0 Lib.Math.max.name).before args s = true := ax_mw_far hG hm (by omega)
            exact va_mmax hx hb (by rw [hml]; exact hls.symm) hown hlink (ax_hasG hG ax_w40 rfl) (ax_hasG hG ax_w4 rfl) (ax_hasG hG ax_w41 rfl) hfr (by omega) hc hs hd (k H locs hR hS)
          · cases h1
        · cases h1
      · split at h1
        · rename_i k0 hm0 hm1 hm
          split at h1
          · rename_i y0 x0 r
            split at h1
            · rename_i g
              cases h1
              have hsum := ax_cat_sum (r.map (ax_tr P))
              rw [List.length_map] at hsum
              have hlink : (Cond.methodLink (ax_cn (ax_cl y)) k0 Lib.Math.min.name).before args s = true := ax_mw_far hG hm (by omega)
              exact va_mmin hx hb (by rw [hml]; exact hls.symm) hown hlink (ax_hasG hG ax_w239 rfl) (ax_hasG hG ax_w4 rfl) (ax_hasG hG ax_w240 rfl) hfr (by omega) hc hs hd (k H locs hR hS)
            · cases h1
          · cases h1
        · split at h1
          · rename_i k0 hm0 hm1 hm2 hm
            split at h1
            · rename_i x0 r
              split at h1
              · rename_i g
                cases h1
                have hsum := ax_cat_sum (r.map (ax_tr P))
                rw [List.length_map] at hsum
                have hlink : (Cond.methodLink (ax_cn (ax_cl y)) k0 Lib.Math.abs.name).before args s = true := ax_mw_far hG hm (by omega)
                exact va_mabs hx hb (by rw [hml]; exact hls.symm) hown hlink (ax_hasG hG ax_w623 rfl) (ax_hasG hG ax_w4 rfl) (ax_hasG hG ax_w624 rfl) hfr (by omega) hc hs hd (k H locs hR hS)
              · cases h1
            · cases h1
          · cases h1
  · cases h1
theorem ax_callK {o : ax_R} {mc ms : Nat} {st0 rest : List Value} {a : Array Value} (hr : va_Run p l e R s m args below meth c H locs cells slots mc ms (F0 m pc ls st0) rest (ax_Qc P o a) (ax_A P)) (hS : va_S (ax_A P) s.heap H locs)
    (k : ∀ H1 locs1, ax_Rel P o.2.1 o.2.2 H1 → va_S (ax_A P) s.heap H1 locs1 → W p l e R s m args below meth c H1 locs1 (cells + mc) (slots + ms) Q (F0 m (pc + 3) ls ((o.1.map (ax_tr P)).toList ++ rest))) : W p l e R s m args below meth c H locs cells slots Q (F0 m pc ls st0) := by
  intro T hT X
  obtain ⟨v, st₀, t, T', L, h0, X', hL, e1, e2, ⟨hv, hrel, hz, hk⟩, st⟩ := hr T hT X
  cases hv
  rw [h0] at hz hk
  obtain ⟨t2, a1, b1⟩ := k T'.heap (locs ++ L) (by rw [e1]; exact hrel) ⟨Nat.le_trans hS.1 (by rw [e1]; exact hz), fun q w1 w2 => by rw [e1, hk q (Nat.lt_of_lt_of_le w1 hS.1) w2]; exact hS.2.1 q w1 w2, fun q hq => by
      rcases List.mem_append.mp hq with w | w
      · exact hS.2.2 q w
      · exact hL q w⟩ T' rfl X'
  exact ⟨t2, st t2 a1, b1⟩
theorem ax_recv {b : Nat} {z : Nat} {fs : List Value} (hK : ax_K P s) (hR : ax_Rel P n h H) (hS : va_S (ax_A P) s.heap H locs) (hz : z < 226) (hb : h b = .inr (ax_cl z, fs)) : ∃ cellB : Cell, H[ax_ad P b]? = some cellB ∧ cellB.vm.isStatics = false ∧ s.vm.findClass (ax_nm z).cls = some cellB.cls := by
  obtain ⟨m1, m2, -⟩ := ax_mk2 z hz
  rw [m1]
  by_cases ha : b < 20
  · have hF : ax_FE P b = .inr (ax_cl z, fs) := (hR.2.2.2.1 b ha).symm.trans hb
    rcases hK.2.2.2.1 b _ fs ha hF with w | ⟨w, v0, hv0, ef, o1, o2, o3⟩
    · omega
    · rw [w, ax_cn12, ax_ad_old ha]
      obtain ⟨cell, c1, c2, c3, c4⟩ := o1.kept hS.2.1
      exact ⟨cell, c1, c2, c3⟩
  · have ha : 20 ≤ b := by omega
    have hne : h b ≠ ax_dead := by
      rw [hb]
      intro q
      have q : ax_cl z = 99 := congrArg (fun (z : ax_E) => match z with
        | .inr (c, _) => c
        | .inl _ => 0) q
      omega
    have ho := (hR.own ha hne).2
    rw [hb] at ho
    have ho : (ax_ws P n h)[b - 20]? = some (ax_ad P b, .inr (ax_cl z, fs.map (ax_tr P))) := ho
    have hlt : ax_cl z < 11 := by
      obtain ⟨r0, h0, -⟩ := hR.1 _ _ ho
      exact (List.getElem?_eq_some_iff.mp h0).1
    exact va_recv hK.1 hR.1 (ax_vw _ hlt) ho
set_option maxHeartbeats 4000000 in
theorem sd_cv {z d mc ms : Nat} {as : List Value} {o : ax_R} (hC : ax_C p s m args meth c y) (hK : ax_K P s) (hR : ax_Rel P n h H) (hS : va_S (ax_A P) s.heap H locs) (hls : ls.size = ax_ml y) (h1 : ax_cv (ax_cl y) i st h = some (z, as, r)) (hd : decode (ax_by y) pc = .ok (i, ax_len i)) (hM : Met l (ax_nm z) (ax_ww z) (ax_rm d mc ms) (ax_Pc P n h as) (ax_Qc P o) mc ms (ax_A P)) (hfr : d + 1 ≤ R.frames) (hlo : 60 * (d + 1) ≤ R.locals) (hc : cells + mc ≤ R.cells) (hs : slots + ms ≤ R.slots)
    (k : ∀ H1 locs1, ax_Rel P o.2.1 o.2.2 H1 → va_S (ax_A P) s.heap H1 locs1 → W p l e R s m args below meth c H1 locs1 (cells + mc) (slots + ms) Q (F0 m (pc + 3) ls ((o.1.toList ++ r).map (ax_tr P)))) : W p l e R s m args below meth c H locs cells slots Q (F0 m pc ls (st.map (ax_tr P))) := by
  have hC0 := hC
  obtain ⟨hx, hb, hml, hown, hG, -⟩ := hC0
  have hfix : CallFix p m c (ax_by y) (ax_ml y) s args ax_G (ax_cn (ax_cl y)) := ⟨hx, hb, hml, hown, hG⟩
  have room : ∀ r : List Value, r.length ≤ 4 → 2 * 0 + ((r.map (ax_tr P)).map fun v => v.category).sum ≤ 8 := by
    intro r hr
    have hsum := ax_cat_sum (r.map (ax_tr P))
    rw [List.length_map] at hsum
    omega
  have fin : ∀ (H1 : Heap) (locs1 : List Loc), ax_Rel P o.2.1 o.2.2 H1 → va_S (ax_A P) s.heap H1 locs1 → W p l e R s m args below meth c H1 locs1 (cells + mc) (slots + ms) Q (F0 m (pc + 3) ls ((o.1.map (ax_tr P)).toList ++ r.map (ax_tr P))) := by
    intro H1 locs1 w1 w2
    have k1 := k H1 locs1 w1 w2
    rw [List.map_append] at k1
    have e1 : (o.1.map (ax_tr P)).toList = o.1.toList.map (ax_tr P) := by cases o.1 <;> rfl
    rw [e1]
    exact k1
  have base : z < 226 → (ax_nm z).cls = ax_cn (ax_cl z) ∧ (Cond.initialized (ax_nm z).cls).before args s = true ∧ ((ax_nm z).cls ≠ "java/lang/invoke/MethodHandle" ∧ (ax_nm z).cls ≠ "java/lang/invoke/VarHandle" ∧ (parseMethodDescriptor (ax_nm z).desc).map (fun d => d.parameters.length) = some (ax_np z)) ∧ ((ax_rm d mc ms).frames + 1 ≤ R.frames ∧ 8 + (ax_ml z + 11) + (ax_rm d mc ms).locals ≤ R.locals) := by
    intro hz
    obtain ⟨m1, m2, m3⟩ := ax_mk2 z hz
    refine ⟨m1, by rw [m1]; exact ax_hasG hG (ax_ini_ok _ m2) rfl, by rw [m1]; exact ⟨(ax_cn_mh _ m2).1, (ax_cn_mh _ m2).2, ax_mk3 z hz⟩, hfr, ?_⟩
    show 8 + (ax_ml z + 11) + 60 * d ≤ R.locals
    omega
  unfold ax_cv at h1
  split at h1
  · split at h1
    · rename_i k0 z0 hm
      split at h1
      · rename_i hz
        split at h1
        · rename_i as0 r0 hp
          split at h1
          · rename_i g
            cases h1
            obtain ⟨b1, b2, b3, b4⟩ := base hz.1
            obtain ⟨p1, p2⟩ := ax_pop_rev hp
            subst p2
            have hkw := ax_kwG hG hz.1
            unfold ax_kw at hkw
            rw [if_pos hz.2] at hkw
            have hst : (as.reverse ++ r).map (ax_tr P) = (as.map (ax_tr P)).reverse ++ r.map (ax_tr P) := by rw [List.map_append, List.map_reverse]
            rcases ax_mw_near (args := args) hG hK hm hz.1 with hl | hl
            · exact ax_callK (va_runS hfix hM ⟨callB_of (ax_np z) hG (ax_wwG hz.1) rfl rfl rfl b2 hl b3 b4, hkw⟩ ⟨ax_blind, ax_pre hK hR hS⟩ rfl (by rw [List.length_map]; exact p1) hls hst (room r g.1) hd ⟨hc, hs⟩) hS fin
            · exact ax_callK (va_runSN hfix hM ⟨va_cnB (ax_np z) hG (ax_wwG hz.1) rfl rfl rfl hl b2 b3 b4, hkw, trivial⟩ ⟨ax_blind, ax_pre hK hR hS⟩ rfl (by rw [List.length_map]; exact p1) hls hst (room r g.1) hd ⟨hc, hs⟩) hS fin
          · cases h1
        · cases h1
      · cases h1
    · cases h1
  · split at h1
    · rename_i k0 z0 hm
      split at h1
      · rename_i hz
        split at h1
        · rename_i as0 b r0 hp
          split at h1
          · rename_i ci fs hh
            split at h1
            · rename_i g
              cases h1
              obtain ⟨rfl, g1, g2⟩ := g
              obtain ⟨b1, b2, b3, b4⟩ := base hz.1
              obtain ⟨p1, p2⟩ := ax_pop_rev hp
              subst p2
              have hkw := ax_kwG hG hz.1
              unfold ax_kw at hkw
              rw [if_neg (by rw [hz.2.1]; decide)] at hkw
              have hsel := hG _ (ax_sel hz.1 hz.2.1 hz.2.2)
              have hst : (as0.reverse ++ Value.ref b :: r).map (ax_tr P) = (as0.map (ax_tr P)).reverse ++ Value.ref (ax_ad P b) :: r.map (ax_tr P) := by rw [List.map_append, List.map_reverse]; rfl
              have hrec := ax_recv hK hR hS hz.1 hh
              rcases ax_mw_near (args := args) hG hK hm hz.1 with hl | hl
              · exact ax_callK (va_runV hfix hM ⟨callB_of (ax_np z) hG (ax_wwG hz.1) rfl rfl rfl b2 hl b3 b4, hkw, hsel⟩ ⟨ax_blind, hrec, ax_pre (as := Value.ref b :: as0) hK hR hS⟩ rfl (by rw [List.length_map]; exact p1) hls hst (room r g1) hd ⟨hc, hs⟩) hS fin
              · exact ax_callK (va_runVN hfix hM ⟨va_cnB (ax_np z) hG (ax_wwG hz.1) rfl rfl rfl hl b2 b3 b4, hkw, hsel⟩ ⟨ax_blind, hrec, ax_pre (as := Value.ref b :: as0) hK hR hS⟩ rfl (by rw [List.length_map]; exact p1) hls hst (room r g1) hd ⟨hc, hs⟩) hS fin
            · cases h1
          · cases h1
        · cases h1
      · cases h1
    · cases h1
  · split at h1
    · rename_i k0 z0 hm
      split at h1
      · rename_i hz
        split at h1
        · rename_i as0 b r0 hp
          split at h1
          · rename_i g
            cases h1
            obtain ⟨b1, b2, b3, b4⟩ := base hz.1
            obtain ⟨p1, p2⟩ := ax_pop_rev hp
            subst p2
            have hkw := ax_kwG hG hz.1
            unfold ax_kw at hkw
            rw [if_neg (by rw [hz.2.1]; decide)] at hkw
            have hrt : ax_rt z = none := ax_rt_init z hz.1 hz.2.2
            have hst : (as0.reverse ++ Value.ref b :: r).map (ax_tr P) = (as0.map (ax_tr P)).reverse ++ Value.ref (ax_ad P b) :: r.map (ax_tr P) := by rw [List.map_append, List.map_reverse]; rfl
            have hww : ax_ww z = Cond.code (ax_nm z) (ax_by z) (ax_ml z) none :: ax_G := by unfold ax_ww; rw [hrt]
            rcases ax_mw_near (args := args) hG hK hm hz.1 with hl | hl
            · exact ax_callK (va_runI hfix hM ⟨callB_of (ax_np z) hG (ax_wwG hz.1) hww rfl rfl b2 hl b3 b4, hz.2.2, hkw⟩ ⟨ax_blind, ax_pre (as := Value.ref b :: as0) hK hR hS⟩ rfl (by rw [List.length_map]; exact p1) hls hst (room r g.1) hd ⟨hc, hs⟩) hS fin
            · exact ax_callK (va_runIN hfix hM ⟨va_cnB (ax_np z) hG (ax_wwG hz.1) hww rfl rfl hl b2 b3 b4, hz.2.2, hkw⟩ ⟨ax_blind, ax_pre (as := Value.ref b :: as0) hK hR hS⟩ rfl (by rw [List.length_map]; exact p1) hls hst (room r g.1) hd ⟨hc, hs⟩) hS fin
          · cases h1
        · cases h1
      · cases h1
    · cases h1
  · cases h1
end AxCall
end
section
/-! ===== whatever the small machine comes to, the machine comes to ===== -/
theorem ax_len0 {i : Instr} (h : ax_len i = 0) : ∃ a b c d, i = .tableswitch a b c d := by
  unfold ax_len at h
  split at h <;> first | (exact ⟨_, _, _, _, rfl⟩) | (cases h)
theorem ax_dec {y pc : Nat} {i : Instr} (hy : y < 227) (h : ax_at y pc = some i) : ∃ len, decode (ax_by y) pc = .ok (i, len) ∧ (ax_len i = 0 ∨ len = ax_len i) := by
  obtain ⟨row, h1, h2, h3⟩ := ax_find h
  have h4 := ax_dd y hy row h1
  unfold ax_dk at h4
  simp only [Bool.and_eq_true, decide_eq_true_eq, Bool.or_eq_true, beq_iff_eq] at h4 h2
  subst h2; subst h3
  exact ⟨row.2.2, h4.1, h4.2⟩
theorem ax_decL {y pc : Nat} {i : Instr} (hy : y < 227) (h : ax_at y pc = some i) (hn : ∀ a b c d, i ≠ .tableswitch a b c d) : decode (ax_by y) pc = .ok (i, ax_len i) := by
  obtain ⟨len, h1, h2 | h2⟩ := ax_dec hy h
  · obtain ⟨a, b, c, d, e⟩ := ax_len0 h2
    exact absurd e (hn a b c d)
  · rw [← h2]; exact h1
set_option maxHeartbeats 4000000 in
theorem ax_sound {P : ax_P} {l : Launch} : ∀ (g d y pc : Nat) (lc st : List Value) (n : Nat) (h : ax_H) (o : ax_R), ax_run g d y pc lc st n h = some o → y < 227 →
    ∀ {p : Program} {e : Env} {R : Room} {s : State} {m : MethodId} {args : Array Value} {below : List Frame} {meth : Method} {c : Code} {H : Heap} {locs : List Loc} {cells slots : Nat} {Q : State → Prop} {ls : Array Slot} (tc ts : Nat),
    ax_C p s m args meth c y → ax_K P s → ax_Rel P n h H → va_S (ax_A P) s.heap H locs → lv_has ls (ax_ml y) (ax_asc P 0 lc) → lc.length = ax_ml y → d ≤ R.frames → 60 * d ≤ R.locals → cells + o.2.1 = tc + n → slots + 400 * o.2.1 = ts + 400 * n → tc ≤ R.cells → ts ≤ R.slots →
    (∀ (pc : Nat) (ls : Array Slot) (st : List Value) (i : Instr) (H : Heap) (locs : List Loc), ax_rv y i st = some o.1 → decode (ax_by y) pc = .ok (i, ax_len i) → ax_Rel P o.2.1 o.2.2 H → va_S (ax_A P) s.heap H locs → W p l e R s m args below meth c H locs tc ts Q (F0 m pc ls (st.map (ax_tr P)))) →
    W p l e R s m args below meth c H locs cells slots Q (F0 m pc ls (st.map (ax_tr P))) := by
  intro g
  induction g with
  | zero => intro d y pc lc st n h o hr; rw [ax_run] at hr; cases hr
  | succ g ih =>
    intro d y pc lc st n h o hr hy p e R s m args below meth c H locs cells slots Q ls tc ts hC hK hR hS hl hn hfr hlo hct hst hcR hsR hE
    have hf : P.2.2.1.category = 1 := hK.2.2.2.2.2.2.1
    obtain ⟨i, ha, hc⟩ := ax_run_inv hr
    have gr := ax_grow _ _ _ _ _ _ _ _ _ hr
    rcases hc with ⟨st1, h1, hr⟩ | ⟨h0, q, h1, hr⟩ | ⟨h0, h1, q, h2, hr⟩ | ⟨h0, h1, h2, q, h3, hr⟩ | ⟨h0, h1, h2, h3, q, d1, o1, rfl, h4, hr1, hr⟩ | ⟨h0, h1, h2, h3, h4, q, d1, rfl, h5, hr⟩ | ⟨h0, h1, h2, h3, h4, h5, v, h6, rfl⟩
    · exact sd_st hf hC.1 hC.2.1 h1 (ax_decL hy ha (fun a b c d e => by rw [e] at h1; cases h1)) (ih _ _ _ _ _ _ _ _ hr hy tc ts hC hK hR hS hl hn hfr hlo hct hst hcR hsR hE)
    · exact sd_lc hf hC.1 hC.2.1 h1 (ax_decL hy ha (fun a b c d e => by rw [e] at h1; cases h1)) hl hn (fun ls1 hl1 hn1 => ih _ _ _ _ _ _ _ _ hr hy tc ts hC hK hR hS hl1 hn1 hfr hlo hct hst hcR hsR hE)
    · obtain ⟨len, hd, hlen⟩ := ax_dec hy ha
      exact sd_br hC.1 hC.2.1 h2 hd hlen (ih _ _ _ _ _ _ _ _ hr hy tc ts hC hK hR hS hl hn hfr hlo hct hst hcR hsR hE)
    · have gr2 := ax_grow _ _ _ _ _ _ _ _ _ hr
      have hq : n ≤ q.2.1 := by rcases ax_hp_n h3 with e | e <;> omega
      exact sd_hp hC hK hR hS h3 (ax_decL hy ha (fun a b c d e => by rw [e] at h3; cases h3)) (by omega) (by omega) (fun H1 locs1 hR1 hS1 => ih _ _ _ _ _ _ _ _ hr hy tc ts hC hK hR1 hS1 hl hn hfr hlo (by omega) (by omega) hcR hsR hE)
    · have gr1 := ax_grow _ _ _ _ _ _ _ _ _ hr1
      have gr2 := ax_grow _ _ _ _ _ _ _ _ _ hr
      obtain ⟨z, as, r⟩ := q
      have hzl : z < 226 ∧ (ax_spread as).length ≤ ax_ml z := by
        unfold ax_cv at h4
        split at h4
        · split at h4
          · split at h4
            · split at h4
              · split at h4
                · rename_i w1 _ _ _ _ w2; cases h4; exact ⟨w1.1, w2.2⟩
                · cases h4
              · cases h4
            · cases h4
          · cases h4
        · split at h4
          · split at h4
            · split at h4
              · split at h4
                · split at h4
                  · rename_i w1 _ _ _ _ _ _ _ _ _ w2; cases h4; exact ⟨w1.1, w2.2.2⟩
                  · cases h4
                · cases h4
              · cases h4
            · cases h4
          · cases h4
        · split at h4
          · split at h4
            · split at h4
              · split at h4
                · rename_i w1 _ _ _ _ _ w2; cases h4; exact ⟨w1.1, w2.2⟩
                · cases h4
              · cases h4
            · cases h4
          · cases h4
        · cases h4
      obtain ⟨hz, hsp⟩ := hzl
      have hM : Met l (ax_nm z) (ax_ww z) (ax_rm d1 (o1.2.1 - n) (400 * (o1.2.1 - n))) (ax_Pc P n h as) (ax_Qc P o1) (o1.2.1 - n) (400 * (o1.2.1 - n)) (ax_A P) := by
        refine Met.ofW (cc := ax_by z) (maxL := ax_ml z) (ret := ax_rt z) (ax_mk4 z hz) rfl ?_
        intro p e s m args below meth c s₁ B hml hv
        obtain ⟨rfl, hRel, hK1⟩ := hv
        have hts := atoms_spec (ws := ax_ww z) B.pre
        rw [lg_entry_eq]
        have hown : s.vm.findClass (ax_cn (ax_cl z)) = some m.cls := by
          have := findClass_of_methodNamed B.named
          rw [(ax_mk2 z hz).1] at this
          exact this
        refine ih d1 z 0 (ax_ent z as) [] n h o1 hr1 (by omega) (o1.2.1 - n) (400 * (o1.2.1 - n)) ⟨B.exec, B.bytes, hml, hown, fun w hw => hts w (List.mem_cons_of_mem _ hw), B.returns, B.notSynchronized, fun hi => ?_⟩ hK1 hRel va_S.rf (ax_ent_has hf hsp) (ax_ent_len hsp) (Nat.le_refl _) (Nat.le_refl _) (by omega) (by omega) (Nat.le_refl _) (Nat.le_refl _) (fun pc ls st i H locs w1 w2 w3 w4 => ?_)
        · rw [(name_of_methodNamed B.named B.method).1]
          exact of_decide_eq_true hi
        · exact sd_rv ⟨B.exec, B.bytes, hml, hown, fun w hw => hts w (List.mem_cons_of_mem _ hw), B.returns, B.notSynchronized, fun hi => by rw [(name_of_methodNamed B.named B.method).1]; exact of_decide_eq_true hi⟩ w1 w2 (fun t ht _ => ⟨rfl, by rw [ht]; exact w3, w4.F ht⟩) w4.2.2
      exact sd_cv hC hK hR hS hl.1 h4 (ax_decL hy ha (fun a b c d e => by rw [e] at h4; cases h4)) hM (by omega) (by omega) (by omega) (by omega) (fun H1 locs1 hR1 hS1 => ih _ _ _ _ _ _ _ _ hr hy tc ts hC hK hR1 hS1 hl hn hfr hlo (by omega) (by omega) hcR hsR hE)
    · exact sd_nv hC hK hR hS hl.1 h5 (ax_decL hy ha (fun a b c d e => by rw [e] at h5; cases h5)) (by omega) (by omega) (by omega) (by omega) (fun H1 locs1 hR1 hS1 => ih _ _ _ _ _ _ _ _ hr hy tc ts hC hK hR1 hS1 hl hn hfr hlo hct hst hcR hsR hE)
    · have e1 : cells = tc := by simp only at hct; omega
      have e2 : slots = ts := by simp only at hst; omega
      rw [e1, e2]
      exact hE _ _ _ i _ _ h6 (ax_decL hy ha (fun a b c d e => by rw [e] at h6; cases h6)) hR hS
end
section
/-! THE CLAIM OUT OF ONE WALK OF THE LAW'S BODY. Your part is whole_start (and what it stands on); all else here is the same for every law, but numbers. -/
def R_law : String := "DinnerPleasLaw"
def lw_P (b : Addr) (xs : List Int32) (args : Array Value) (s : State) : Prop := args = #[.ref b] ∧ s.IntsAt b xs ∧ xs.length ≤ 384 ∧ (Jvm.Cond.and given_1 narrow_1).before args s = true
def lw_Q (_ : Array Value) (s : State) (o : Outcome) (t : State) : Prop := o = .returned (some (.int 1)) ∧ Framed s o t [] 600000 7302250
def lw_Z (below : List Frame) (a : Array Value) (s : State) : State → Prop := fun t => ∃ o, t.status = .running ∧ Ended t below o ∧ lw_Q a s o t
/-- the law's own end, with 1 on the stack, nothing written that was there before, its room as the claim has it -/
theorem lw_ret {p : Program} {l : Launch} {e : Env} {s : State} {m : MethodId} {below : List Frame} {meth : Method} {c : Code} {b : Nat} (hx : p.tables.exec = Jvm.exec) (hb : c.code = code) (hr : meth.sig.returnType = ret) (hlocks : meth.locks = false) {pc : Nat} {H : Heap} {ls : Array Slot} (hdg : decode code pc = .ok (.ireturn, 1)) : W p l e room_1 s m #[Value.ref b] below meth c H [] 600000 7302250 (lw_Z below #[Value.ref b] s) (F0 m pc ls [.int 1]) := by
  intro T hT X
  obtain ⟨fs, hret, hrun, hended, hW, hframe⟩ := X.leave (v := some (.int 1)) (hlocks := hlocks) (fun h => by rw [hr] at h; cases h)
  have hmeth' : T.vm.method? m = some meth := X.method'
  refine ⟨T.setFrames fs, ?_, .returned (some (.int 1)), hrun, hended, rfl, ⟨_, rfl⟩, hW, hframe⟩
  jvm_step X.here [X.here.top, hx, hb, hdg, hmeth', hr, ret, narrow_b1]
  (try refine ⟨rfl, ?_⟩); (try refine ⟨rfl, ?_⟩)
  first | (intro acts; rw [hret _ acts rfl rfl rfl]) | rw [hret _ _ rfl rfl rfl]
  exact Steps.refl _
/-- what holds at the law's entry: the machine, the code, the tables' words (any of lw_tbl by 'hts w (by decide +kernel)'), the script of L ints xs at the cell b, what the Statement gives of the start (any of its parts by flat_of_before) -/
def lw_At (p : Program) (s : State) (m : MethodId) (meth : Method) (c : Code) (b L : Nat) (xs : Nat → Int32) : Prop :=
  p.tables.exec = Jvm.exec ∧ c.code = code ∧ meth.sig.returnType = ret ∧ c.maxLocals = 4 ∧ s.vm.findClass R_law = some m.cls ∧ (∀ w ∈ lw_tbl, w.before #[Value.ref b] s = true) ∧ va_X b L xs s s.heap ∧ b < s.heap.size ∧ meth.locks = false ∧ (Jvm.Cond.and given_1 narrow_1).before #[Value.ref b] s = true
/-! ===== the start: what lies in the heap before the law begins ===== -/
abbrev ax_ofL (l : List Int32) : Nat → Int32 := fun j => l.getD j 0
def ax_old (L : Nat) (xs : Nat → Int32) : ax_H := fun k => match k with
  | 0 => .inl (0, L, xs)
  | 1 => .inl (0, 5, ax_ofL [0, 0, 1, 0, 0])
  | 2 => .inl (0, 5, ax_ofL [5, 4, 9, 9, 2])
  | 3 => .inl (0, 1, ax_ofL [0])
  | 4 => .inl (0, 1, ax_ofL [9])
  | 5 => .inl (0, 3, ax_ofL [0, 0, 0])
  | 6 => .inl (0, 3, ax_ofL [4, 4, 3])
  | 7 => .inr (12, [.ref 11, .int 0])
  | 8 => .inr (12, [.ref 12, .int 0])
  | 9 => .inr (12, [.ref 13, .int 0])
  | 10 => .inr (12, [.ref 14, .int 0])
  | 11 => .inl (2, 5, ax_ofL [99, 111, 117, 114, 116])
  | 12 => .inl (2, 4, ax_ofL [100, 105, 115, 104])
  | 13 => .inl (2, 4, ax_ofL [109, 111, 114, 101])
  | 14 => .inl (2, 4, ax_ofL [108, 101, 115, 115])
  | _ => ax_dead
theorem ax_hasT {args : Array Value} {s : State} (hts : ∀ w ∈ lw_tbl, w.before args s = true) {i : Nat} {w : Cond} (h : ax_isW i w = true) : w.before args s = true := hts _ (List.mem_append_right _ (ax_isW_mem h))
theorem ax_start {p : Program} {s : State} {m : MethodId} {meth : Method} {c : Code} {b L : Nat} {xs : Nat → Int32} (C0 : lw_At p s m meth c b L xs) : ∃ P : ax_P, ax_K P s ∧ ax_B P = s.heap.size ∧ ax_FE P = ax_old L xs ∧ P.2.1 0 = b := by
  obtain ⟨hx, hb, hr, hml, hown, hts, hX, hbl, hlocks, hgv⟩ := C0
  have hs := flat_of_before _ hgv
  have hA : ∀ a : Nat, a < s.heap.size → ¬ (fun q : Nat => s.heap.size ≤ q) a := fun a h1 h2 => by
    have h2 : s.heap.size ≤ a := h2
    omega
  obtain ⟨t1, E1, T1⟩ := va_Tof (args := #[Value.ref b]) (s := s) (tm := .static "DinnerPleas" "DISH_LEAST" "[I") (ty := .int) (N := 5) (f := fun j => .int (ax_ofL [0, 0, 1, 0, 0] j)) (A := fun q : Nat => s.heap.size ≤ q) (by decide) (hs _ (by decide +kernel)) (va_eqt (hs _ (by decide +kernel))) (fun j hj => by
      match j, hj with
      | 0, _ => exact va_eqt (hs _ (by decide +kernel))
      | 1, _ => exact va_eqt (hs _ (by decide +kernel))
      | 2, _ => exact va_eqt (hs _ (by decide +kernel))
      | 3, _ => exact va_eqt (hs _ (by decide +kernel))
      | 4, _ => exact va_eqt (hs _ (by decide +kernel))) hA
  have Z1 := va_Zof (args := #[Value.ref b]) (ax_hasT hts (i := 321) (by decide +kernel)) (ax_hasT hts (i := 1) (by decide +kernel)) E1 hA
  obtain ⟨t2, E2, T2⟩ := va_Tof (args := #[Value.ref b]) (s := s) (tm := .static "DinnerPleas" "DISH_MOST" "[I") (ty := .int) (N := 5) (f := fun j => .int (ax_ofL [5, 4, 9, 9, 2] j)) (A := fun q : Nat => s.heap.size ≤ q) (by decide) (hs _ (by decide +kernel)) (va_eqt (hs _ (by decide +kernel))) (fun j hj => by
      match j, hj with
      | 0, _ => exact va_eqt (hs _ (by decide +kernel))
      | 1, _ => exact va_eqt (hs _ (by decide +kernel))
      | 2, _ => exact va_eqt (hs _ (by decide +kernel))
      | 3, _ => exact va_eqt (hs _ (by decide +kernel))
      | 4, _ => exact va_eqt (hs _ (by decide +kernel))) hA
  have Z2 := va_Zof (args := #[Value.ref b]) (ax_hasT hts (i := 323) (by decide +kernel)) (ax_hasT hts (i := 1) (by decide +kernel)) E2 hA
  obtain ⟨t3, E3, T3⟩ := va_Tof (args := #[Value.ref b]) (s := s) (tm := .static "DinnerPleas$Reader" "COURT_LEAST" "[I") (ty := .int) (N := 1) (f := fun j => .int (ax_ofL [0] j)) (A := fun q : Nat => s.heap.size ≤ q) (by decide) (hs _ (by decide +kernel)) (va_eqt (hs _ (by decide +kernel))) (fun j hj => by
      match j, hj with
      | 0, _ => exact va_eqt (hs _ (by decide +kernel))) hA
  have Z3 := va_Zof (args := #[Value.ref b]) (ax_hasT hts (i := 429) (by decide +kernel)) (ax_hasT hts (i := 6) (by decide +kernel)) E3 hA
  obtain ⟨t4, E4, T4⟩ := va_Tof (args := #[Value.ref b]) (s := s) (tm := .static "DinnerPleas$Reader" "COURT_MOST" "[I") (ty := .int) (N := 1) (f := fun j => .int (ax_ofL [9] j)) (A := fun q : Nat => s.heap.size ≤ q) (by decide) (hs _ (by decide +kernel)) (va_eqt (hs _ (by decide +kernel))) (fun j hj => by
      match j, hj with
      | 0, _ => exact va_eqt (hs _ (by decide +kernel))) hA
  have Z4 := va_Zof (args := #[Value.ref b]) (ax_hasT hts (i := 431) (by decide +kernel)) (ax_hasT hts (i := 6) (by decide +kernel)) E4 hA
  obtain ⟨t5, E5, T5⟩ := va_Tof (args := #[Value.ref b]) (s := s) (tm := .static "DinnerPleas$Reader" "BOOK_LEAST" "[I") (ty := .int) (N := 3) (f := fun j => .int (ax_ofL [0, 0, 0] j)) (A := fun q : Nat => s.heap.size ≤ q) (by decide) (hs _ (by decide +kernel)) (va_eqt (hs _ (by decide +kernel))) (fun j hj => by
      match j, hj with
      | 0, _ => exact va_eqt (hs _ (by decide +kernel))
      | 1, _ => exact va_eqt (hs _ (by decide +kernel))
      | 2, _ => exact va_eqt (hs _ (by decide +kernel))) hA
  have Z5 := va_Zof (args := #[Value.ref b]) (ax_hasT hts (i := 453) (by decide +kernel)) (ax_hasT hts (i := 6) (by decide +kernel)) E5 hA
  obtain ⟨t6, E6, T6⟩ := va_Tof (args := #[Value.ref b]) (s := s) (tm := .static "DinnerPleas$Reader" "BOOK_MOST" "[I") (ty := .int) (N := 3) (f := fun j => .int (ax_ofL [4, 4, 3] j)) (A := fun q : Nat => s.heap.size ≤ q) (by decide) (hs _ (by decide +kernel)) (va_eqt (hs _ (by decide +kernel))) (fun j hj => by
      match j, hj with
      | 0, _ => exact va_eqt (hs _ (by decide +kernel))
      | 1, _ => exact va_eqt (hs _ (by decide +kernel))
      | 2, _ => exact va_eqt (hs _ (by decide +kernel))) hA
  have Z6 := va_Zof (args := #[Value.ref b]) (ax_hasT hts (i := 455) (by decide +kernel)) (ax_hasT hts (i := 6) (by decide +kernel)) E6 hA
  obtain ⟨adK, adV, hstr, hev⟩ := vk_Sof (args := #[Value.ref b]) (s := s) (N := 4) (tm := fun i => Term.string "DinnerPleas$Reader" ([47, 57, 62, 68].getD i 0)) (len := [5, 4, 4, 4]) (byt := [[99, 111, 117, 114, 116], [100, 105, 115, 104], [109, 111, 114, 101], [108, 101, 115, 115]]) (A := fun q : Nat => s.heap.size ≤ q)
    (fun i hi => by
      match i, hi with
      | 0, _ => exact (by decide)
      | 1, _ => exact (by decide)
      | 2, _ => exact (by decide)
      | 3, _ => exact (by decide))
    (fun i hi => by
      match i, hi with
      | 0, _ => exact hs _ (by decide +kernel)
      | 1, _ => exact hs _ (by decide +kernel)
      | 2, _ => exact hs _ (by decide +kernel)
      | 3, _ => exact hs _ (by decide +kernel))
    (fun i hi => by
      match i, hi with
      | 0, _ => exact hs _ (by decide +kernel)
      | 1, _ => exact hs _ (by decide +kernel)
      | 2, _ => exact hs _ (by decide +kernel)
      | 3, _ => exact hs _ (by decide +kernel))
    (fun i hi => by
      match i, hi with
      | 0, _ => exact hs _ (by decide +kernel)
      | 1, _ => exact hs _ (by decide +kernel)
      | 2, _ => exact hs _ (by decide +kernel)
      | 3, _ => exact hs _ (by decide +kernel))
    (fun i hi => by
      match i, hi with
      | 0, _ => exact hs _ (by decide +kernel)
      | 1, _ => exact hs _ (by decide +kernel)
      | 2, _ => exact hs _ (by decide +kernel)
      | 3, _ => exact hs _ (by decide +kernel))
    (fun i hi j hj => by
      match i, hi, j, hj with
      | 0, _, 0, _ => exact hs _ (by decide +kernel)
      | 0, _, 1, _ => exact hs _ (by decide +kernel)
      | 0, _, 2, _ => exact hs _ (by decide +kernel)
      | 0, _, 3, _ => exact hs _ (by decide +kernel)
      | 0, _, 4, _ => exact hs _ (by decide +kernel)
      | 1, _, 0, _ => exact hs _ (by decide +kernel)
      | 1, _, 1, _ => exact hs _ (by decide +kernel)
      | 1, _, 2, _ => exact hs _ (by decide +kernel)
      | 1, _, 3, _ => exact hs _ (by decide +kernel)
      | 2, _, 0, _ => exact hs _ (by decide +kernel)
      | 2, _, 1, _ => exact hs _ (by decide +kernel)
      | 2, _, 2, _ => exact hs _ (by decide +kernel)
      | 2, _, 3, _ => exact hs _ (by decide +kernel)
      | 3, _, 0, _ => exact hs _ (by decide +kernel)
      | 3, _, 1, _ => exact hs _ (by decide +kernel)
      | 3, _, 2, _ => exact hs _ (by decide +kernel)
      | 3, _, 3, _ => exact hs _ (by decide +kernel))
    (fun i j hi hj hij => by
      match i, hi, j, hj with
      | 0, _, 0, _ => exact absurd rfl hij
      | 0, _, 1, _ => exact Or.inl (hs _ (by decide +kernel))
      | 0, _, 2, _ => exact Or.inl (hs _ (by decide +kernel))
      | 0, _, 3, _ => exact Or.inl (hs _ (by decide +kernel))
      | 1, _, 0, _ => exact Or.inr (hs _ (by decide +kernel))
      | 1, _, 1, _ => exact absurd rfl hij
      | 1, _, 2, _ => exact Or.inl (hs _ (by decide +kernel))
      | 1, _, 3, _ => exact Or.inl (hs _ (by decide +kernel))
      | 2, _, 0, _ => exact Or.inr (hs _ (by decide +kernel))
      | 2, _, 1, _ => exact Or.inr (hs _ (by decide +kernel))
      | 2, _, 2, _ => exact absurd rfl hij
      | 2, _, 3, _ => exact Or.inl (hs _ (by decide +kernel))
      | 3, _, 0, _ => exact Or.inr (hs _ (by decide +kernel))
      | 3, _, 1, _ => exact Or.inr (hs _ (by decide +kernel))
      | 3, _, 2, _ => exact Or.inr (hs _ (by decide +kernel))
      | 3, _, 3, _ => exact absurd rfl hij) hA
  have hkn : ∀ c : Nat, ∃ q : ClassId × (Nat → Nat), c < 11 → u_Kn s (ax_cn c) (ax_TT c) (ax_NN c) q.1 q.2 := by
    intro c
    by_cases hc : c < 11
    · obtain ⟨cC, iS, h⟩ := u_known (ws := lw_tbl) hts (fun w hw => (List.mem_filter.mp (ax_layG hc w hw)).1) (ax_hasT hts (ax_ins_ok c hc))
      exact ⟨(cC, iS), fun _ => h⟩
    · exact ⟨(0, fun _ => 0), fun h => absurd h hc⟩
  obtain ⟨kn, hkn⟩ := Classical.axiomOfChoice hkn
  obtain ⟨cI, kI, coI, hI1, hI2, hI3⟩ := Cond.arrayClass_spec (ax_hasT hts ax_w55)
  obtain ⟨cZ, kZ, coZ, hZ1, hZ2, hZ3⟩ := Cond.arrayClass_spec (ax_hasT hts ax_w1027)
  have hq : ∃ v : Value, v.category = 1 ∧ va_Z "jdk/internal/util/Preconditions" "SIOOBE_FORMATTER" "Ljava/util/function/BiFunction;" v (fun q : Nat => s.heap.size ≤ q) s s.heap := by
    rcases va_Zqof (args := #[Value.ref b]) (C := "jdk/internal/util/Preconditions") (n := "SIOOBE_FORMATTER") (d := "Ljava/util/function/BiFunction;") (ax_hasT hts (i := 401) (by decide +kernel)) (ax_hasT hts (i := 15) (by decide +kernel)) (hs _ (by decide +kernel)) hA with h | ⟨t, h⟩
    · exact ⟨.null, rfl, h⟩
    · exact ⟨.ref t, rfl, h⟩
  obtain ⟨vq, hvc, hvq⟩ := hq
  have hcs : va_Z "java/lang/String" "COMPACT_STRINGS" "Z" (.int 1) (fun q : Nat => s.heap.size ≤ q) s s.heap := va_Zof (args := #[Value.ref b]) (ax_hasT hts (i := 385) (by decide +kernel)) (ax_hasT hts (i := 13) (by decide +kernel)) (va_eqi (hs _ (by decide +kernel))) hA
  refine ⟨(s.heap.size, fun k => match k with
    | 0 => b
    | 1 => t1
    | 2 => t2
    | 3 => t3
    | 4 => t4
    | 5 => t5
    | 6 => t6
    | 7 => adK 0
    | 8 => adK 1
    | 9 => adK 2
    | 10 => adK 3
    | 11 => adV 0
    | 12 => adV 1
    | 13 => adV 2
    | 14 => adV 3
    | _ => 0, vq, (fun c => (kn c).1, fun c => (kn c).2), fun t => if t = 0 then cI else cZ, ax_old L xs), ⟨⟨fun c q hc => ?_, fun k q hk => ?_⟩, fun w hw => ?_, fun k t len f hk he => ?_, fun k ci fs hk he => ?_, fun q hq => ?_, fun q hq => ?_, hvc, Nat.le_refl _⟩, rfl, rfl, rfl⟩
  · have hl : c < 11 := (List.getElem?_eq_some_iff.mp hc).1
    have e : q = (ax_cn c, ax_TT c, ax_NN c) := Option.some.inj (hc.symm.trans (ax_vw c hl))
    subst e
    exact hkn c hl
  · match k, hk with
    | 0, hk =>
      cases hk
      exact ⟨fun n z => ⟨fun k h => (by cases h), kI, hI2, coI, hI3⟩, hI1⟩
    | 1, hk =>
      cases hk
      exact ⟨fun n z => ⟨fun k h => (by cases h), kZ, hZ2, coZ, hZ3⟩, hZ1⟩
    | k + 2, hk => cases hk
  · refine va_Nw.of ?_ (hts w (List.mem_filter.mp hw).1)
    have h2 := (List.mem_filter.mp hw).2
    cases w <;> first | rfl | (simp [ax_isN] at h2)
  · match k, hk, he with
    | 0, _, he =>
      cases he
      obtain ⟨scr, x1, x2, x3, x4, x5⟩ := hX
      exact ⟨scr, x1, x2, x3, by omega, (by rw [x4]), x5, hA b hbl⟩
    | 1, _, he => cases he; exact T1
    | 2, _, he => cases he; exact T2
    | 3, _, he => cases he; exact T3
    | 4, _, he => cases he; exact T4
    | 5, _, he => cases he; exact T5
    | 6, _, he => cases he; exact T6
    | 7, _, he => cases he
    | 8, _, he => cases he
    | 9, _, he => cases he
    | 10, _, he => cases he
    | 11, _, he => cases he; exact (hstr.1 0 (by omega)).2.2.2
    | 12, _, he => cases he; exact (hstr.1 1 (by omega)).2.2.2
    | 13, _, he => cases he; exact (hstr.1 2 (by omega)).2.2.2
    | 14, _, he => cases he; exact (hstr.1 3 (by omega)).2.2.2
    | k + 15, _, he => cases he
  · match k, hk, he with
    | 0, _, he => cases he
    | 1, _, he => cases he
    | 2, _, he => cases he
    | 3, _, he => cases he
    | 4, _, he => cases he
    | 5, _, he => cases he
    | 6, _, he => cases he
    | 7, _, he => cases he; exact Or.inr ⟨rfl, 11, by omega, rfl, (hstr.1 0 (by omega)).1, (hstr.1 0 (by omega)).2.2.1, (hstr.1 0 (by omega)).2.1⟩
    | 8, _, he => cases he; exact Or.inr ⟨rfl, 12, by omega, rfl, (hstr.1 1 (by omega)).1, (hstr.1 1 (by omega)).2.2.1, (hstr.1 1 (by omega)).2.1⟩
    | 9, _, he => cases he; exact Or.inr ⟨rfl, 13, by omega, rfl, (hstr.1 2 (by omega)).1, (hstr.1 2 (by omega)).2.2.1, (hstr.1 2 (by omega)).2.1⟩
    | 10, _, he => cases he; exact Or.inr ⟨rfl, 14, by omega, rfl, (hstr.1 3 (by omega)).1, (hstr.1 3 (by omega)).2.2.1, (hstr.1 3 (by omega)).2.1⟩
    | 11, _, he => cases he
    | 12, _, he => cases he
    | 13, _, he => cases he
    | 14, _, he => cases he
    | k + 15, _, he => cases he; exact Or.inl rfl
  · unfold ax_stas at hq
    simp only [List.mem_cons, List.not_mem_nil, or_false] at hq
    rcases hq with rfl | rfl | rfl | rfl | rfl | rfl | rfl | rfl | rfl | rfl
    · exact Z1
    · exact Z2
    · exact hcs
    · exact hvq
    · exact Z3
    · exact Z4
    · exact Z1
    · exact Z2
    · exact Z5
    · exact Z6
  · unfold ax_strs at hq
    simp only [List.mem_cons, List.not_mem_nil, or_false] at hq
    rcases hq with rfl | rfl | rfl | rfl
    · exact vk_R.of (A := #[Value.ref b]) (ax_hasT hts (i := 371) (by decide +kernel)) (hev 0 (by omega))
    · exact vk_R.of (A := #[Value.ref b]) (ax_hasT hts (i := 440) (by decide +kernel)) (hev 1 (by omega))
    · exact vk_R.of (A := #[Value.ref b]) (ax_hasT hts (i := 447) (by decide +kernel)) (hev 2 (by omega))
    · exact vk_R.of (A := #[Value.ref b]) (ax_hasT hts (i := 456) (by decide +kernel)) (hev 3 (by omega))
/-- the law, out of the small machine's run of it -/
theorem ax_whole {p : Program} {e : Env} {s : State} {m : MethodId} {below : List Frame} {meth : Method} {c : Code} (l : Launch) {b L : Nat} {xs : Nat → Int32} (C0 : lw_At p s m meth c b L xs) (hW : ax_W 1000 226 0 [.ref 0, ax_dm, ax_dm, ax_dm] [] 0 (ax_old L xs) (fun v n _ => v = some (.int 1) ∧ n ≤ 1000)) : W p l e room_1 s m #[Value.ref b] below meth c s.heap [] 0 0 (lw_Z below #[Value.ref b] s) (entryFrame m ([Value.ref b] : List Value).toArray 4) := by
  obtain ⟨P, hK, hB, hF, h0⟩ := ax_start C0
  obtain ⟨hx, hb, hr, hml, hown, hts, hX, hbl, hlocks, hgv⟩ := C0
  obtain ⟨g, o, hrun, ho, hn⟩ := hW
  have hf : P.2.2.1.category = 1 := hK.2.2.2.2.2.2.1
  have hRel : ax_Rel P 0 (ax_old L xs) s.heap := by
    refine ⟨fun k q hk => ?_, by rw [hB]; rfl, fun k _ => rfl, fun k _ => (by rw [hF]), fun k t len f he => ?_⟩
    · simp [ax_ws] at hk
    · cases he
  have htr : ([Value.ref b] : List Value) = ([Value.ref 0] : List Value).map (ax_tr P) := by
    show _ = [Value.ref (ax_ad P 0)]
    rw [ax_ad_old (by omega), h0]
  have hS0 : ∀ (H : Heap) (locs : List Loc), va_S (ax_A P) s.heap H locs → ∀ q ∈ locs, s.heap.size ≤ q.base := fun H locs hS q hq => by
    have := hS.2.2 q hq
    rw [← hB]
    exact this
  have hCC : ax_C p s m #[Value.ref b] meth c 226 := ⟨hx, hb, hml, hown, fun w hw => hts w (List.mem_filter.mp hw).1, hr, hlocks, fun hi => by cases hi⟩
  have hl := ax_ent_has (P := P) (z := 226) (as := [Value.ref 0]) hf (by decide)
  rw [← htr] at hl
  rw [lg_entry_eq]
  refine ax_sound g 1000 226 0 [.ref 0, ax_dm, ax_dm, ax_dm] [] 0 (ax_old L xs) o hrun (by omega) o.2.1 (400 * o.2.1) hCC hK hRel va_S.rf hl rfl (by decide) (by decide) (by omega) (by omega) (show o.2.1 ≤ 600000 by omega) (show 400 * o.2.1 ≤ 7302250 by omega) (fun pc ls st i H locs w1 w2 w3 w4 => ?_)
  rw [ho] at w1
  unfold ax_rv at w1
  split at w1
  · split at w1
    · split at w1
      · split at w1
        · cases w1
          refine va_forget (hS0 H locs w4) (W.widen (show o.2.1 ≤ 600000 by omega) (show 400 * o.2.1 ≤ 7302250 by omega) ?_)
          exact lw_ret hx hb hr hlocks w2
        · cases w1
      · cases w1
    · cases w1
  · split at w1
    · split at w1 <;> cases w1
    · cases w1
  · split at w1
    · split at w1 <;> cases w1
    · cases w1
  · split at w1
    · split at w1 <;> cases w1
    · cases w1
  · cases w1
end
section
/-! ===== the small machine's steps as equations, heap and calls ===== -/
def gf (h : ax_H) (a ci j : Nat) : Option Value := match h a with
  | .inr (c, fs) => if c = ci then fs[j]? else none
  | .inl _ => none
def al (h : ax_H) (a : Nat) (x : Int32) : Option Int32 := match h a with
  | .inl (t, len, f) => if t = 0 ∧ ¬ (x < 0 ∨ len ≤ x.toNatClampNeg) then some (f x.toNatClampNeg) else none
  | .inr _ => none
def bl (h : ax_H) (a : Nat) (x : Int32) : Option Int32 := match h a with
  | .inl (t, len, f) => if (t = 1 ∨ t = 2) ∧ ¬ (x < 0 ∨ len ≤ x.toNatClampNeg) then some (f x.toNatClampNeg) else none
  | .inr _ => none
def an (h : ax_H) (a : Nat) : Option Int32 := match h a with
  | .inl (_, len, _) => some (nI len)
  | .inr _ => none
def sa (h : ax_H) (a : Nat) (x v : Int32) : Option ax_H := match h a with
  | .inl (t, len, f) => if t = 0 ∧ 20 ≤ a ∧ ¬ (x < 0 ∨ len ≤ x.toNatClampNeg) then some (ax_up h a (.inl (0, len, upd f x.toNatClampNeg v))) else none
  | .inr _ => none
def sb (h : ax_H) (a : Nat) (x v : Int32) : Option ax_H := match h a with
  | .inl (t, len, f) => if t = 1 ∧ 20 ≤ a ∧ (v = 0 ∨ v = 1) ∧ ¬ (x < 0 ∨ len ≤ x.toNatClampNeg) then some (ax_up h a (.inl (1, len, upd f x.toNatClampNeg v))) else none
  | .inr _ => none
def isC (h : ax_H) (a ci : Nat) : Bool := match h a with
  | .inr (c, _) => decide (c = ci)
  | .inl _ => false
def acp (h : ax_H) (a0 : Nat) (sp : Int32) (a : Nat) (dp m : Int32) : Option ax_H := match h a0, h a with
  | .inl (t0, n0, f), .inl (t1, n1, g) => if t0 = 0 ∧ t1 = 0 ∧ 20 ≤ a0 ∧ 20 ≤ a ∧ ¬ sp < 0 ∧ ¬ dp < 0 ∧ ¬ m < 0 ∧ sp.toNatClampNeg + m.toNatClampNeg ≤ n0 ∧ dp.toNatClampNeg + m.toNatClampNeg ≤ n1 then some (ax_up h a (.inl (0, n1, va_cpy f g sp.toNatClampNeg dp.toNatClampNeg m.toNatClampNeg))) else none
  | _, _ => none
def mxI (x y : Int32) : Int32 := if x < y then y else x
def mnI (x y : Int32) : Int32 := if y < x then y else x
def abI (x : Int32) : Int32 := if 0 ≤ x then x else 0 - x
def ax_ct (d y pc : Nat) (lc r : List Value) (Q : Option Value → Nat → ax_H → Prop) : Option Value → Nat → ax_H → Prop := fun v n h => ax_W d y pc lc (v.toList ++ r) n h Q
theorem ct_s {d y pc : Nat} {lc r : List Value} {Q : Option Value → Nat → ax_H → Prop} {v : Value} {n : Nat} {h : ax_H} : ax_ct d y pc lc r Q (some v) n h = ax_W d y pc lc (v :: r) n h Q := rfl
theorem ct_n {d y pc : Nat} {lc r : List Value} {Q : Option Value → Nat → ax_H → Prop} {n : Nat} {h : ax_H} : ax_ct d y pc lc r Q none n h = ax_W d y pc lc r n h Q := rfl
section AxEqs
variable {d y pc : Nat} {lc st r : List Value} {n : Nat} {h : ax_H} {Q : Option Value → Nat → ax_H → Prop} {i : Instr}
theorem e_none (ha : ax_at y pc = some i) (h0 : ax_st i st = none) (h2 : ax_lc i lc st = none) (h3 : ax_br i pc st = none) (h4 : ax_hp (ax_cl y) (ax_ini y) i st n h = none) (h5 : ax_cv (ax_cl y) i st h = none) (h6 : ax_nv (ax_cl y) i st h = none) (h7 : ax_rv y i st = none) : ax_W d y pc lc st n h Q = False := by
  apply propext
  refine ⟨?_, False.elim⟩
  rintro ⟨g, o, hr, -⟩
  cases g with
  | zero => rw [ax_run] at hr; cases hr
  | succ g =>
    obtain ⟨i2, ha2, hc⟩ := ax_run_inv hr
    rw [ha] at ha2
    cases ha2
    rcases hc with ⟨_, w, _⟩ | ⟨_, _, w, _⟩ | ⟨_, _, _, w, _⟩ | ⟨_, _, _, _, w, _⟩ | ⟨_, _, _, _, _, _, _, _, w, _⟩ | ⟨_, _, _, _, _, _, _, _, w, _⟩ | ⟨_, _, _, _, _, _, _, w, _⟩
    · rw [h0] at w; cases w
    · rw [h2] at w; cases w
    · rw [h3] at w; cases w
    · rw [h4] at w; cases w
    · rw [h5] at w; cases w
    · rw [h6] at w; cases w
    · rw [h7] at w; cases w
theorem e_getf {k a : Nat} (ci j pc1 : Nat) (ha : ax_at y pc = some (.getfield k)) (hf : ax_fld (ax_cl y) k = some (ci, j)) (hp : pc + 3 = pc1) : ax_W d y pc lc (.ref a :: st) n h Q = (match gf h a ci j with
    | some v => ax_W d y pc1 lc (v :: st) n h Q
    | none => False) := by
  subst hp
  have e : ax_getf (ax_cl y) k a st h = (gf h a ci j).map (fun v => v :: st) := by
    unfold ax_getf gf
    rw [hf]
    cases h a with
    | inl x => rfl
    | inr x =>
      obtain ⟨c, fs⟩ := x
      dsimp only
      split
      · cases fs[j]? <;> rfl
      · rfl
  cases hg : gf h a ci j with
  | some v =>
    rw [hg] at e
    exact e_hp (v :: st) n h _ ha rfl rfl rfl (by show (ax_getf _ _ _ _ _).map _ = _; rw [e]; rfl) rfl
  | none =>
    rw [hg] at e
    exact e_none ha rfl rfl rfl (by show (ax_getf _ _ _ _ _).map _ = _; rw [e]; rfl) rfl rfl rfl
theorem e_putI {k a : Nat} {v : Int32} (ci j pc1 : Nat) (ha : ax_at y pc = some (.putfield k)) (hf : ax_fld (ax_cl y) k = some (ci, j)) (hci : ci < 11) (hty : ax_fty ci j = .int) (hfi : ax_fin ci j = false) (hp : pc + 3 = pc1) {h1 : ax_H} (hh : ∀ fs, h a = .inr (ci, fs) → j < fs.length ∧ 20 ≤ a ∧ ax_up h a (.inr (ci, fs.set j (.int v))) = h1) (hc : isC h a ci = true) : ax_W d y pc lc (.int v :: .ref a :: st) n h Q = ax_W d y pc1 lc st n h1 Q := by
  subst hp
  unfold isC at hc
  cases he : h a with
  | inl x => rw [he] at hc; cases hc
  | inr x =>
    obtain ⟨c, fs⟩ := x
    rw [he] at hc
    have hc : c = ci := of_decide_eq_true hc
    subst hc
    obtain ⟨w1, w2, w3⟩ := hh fs he
    refine e_hp st n h1 _ ha rfl rfl rfl ?_ rfl
    show (ax_putf (ax_cl y) (ax_ini y) k a (.int v) h).map _ = _
    unfold ax_putf
    rw [hf, he]
    dsimp only
    rw [if_pos ⟨rfl, hci, w1, w2, by rw [hty]; rfl, by rw [hty]; rfl, Or.inl hfi⟩]
    rw [w3]
    rfl
theorem e_putL {k a : Nat} {v : Int64} (ci j pc1 : Nat) (ha : ax_at y pc = some (.putfield k)) (hf : ax_fld (ax_cl y) k = some (ci, j)) (hci : ci < 11) (hty : ax_fty ci j = .long) (hfi : ax_fin ci j = false) (hp : pc + 3 = pc1) {h1 : ax_H} (hh : ∀ fs, h a = .inr (ci, fs) → j < fs.length ∧ 20 ≤ a ∧ ax_up h a (.inr (ci, fs.set j (.long v))) = h1) (hc : isC h a ci = true) : ax_W d y pc lc (.long v :: .ref a :: st) n h Q = ax_W d y pc1 lc st n h1 Q := by
  subst hp
  unfold isC at hc
  cases he : h a with
  | inl x => rw [he] at hc; cases hc
  | inr x =>
    obtain ⟨c, fs⟩ := x
    rw [he] at hc
    have hc : c = ci := of_decide_eq_true hc
    subst hc
    obtain ⟨w1, w2, w3⟩ := hh fs he
    refine e_hp st n h1 _ ha rfl rfl rfl ?_ rfl
    show (ax_putf (ax_cl y) (ax_ini y) k a (.long v) h).map _ = _
    unfold ax_putf
    rw [hf, he]
    dsimp only
    rw [if_pos ⟨rfl, hci, w1, w2, by rw [hty]; rfl, by rw [hty]; rfl, Or.inl hfi⟩]
    rw [w3]
    rfl
theorem e_putZ {k a : Nat} {v : Int32} (ci j pc1 : Nat) (ha : ax_at y pc = some (.putfield k)) (hf : ax_fld (ax_cl y) k = some (ci, j)) (hci : ci < 11) (hty : ax_fty ci j = .boolean) (hfi : ax_fin ci j = false) (hp : pc + 3 = pc1) {h1 : ax_H} (hv : v = 0 ∨ v = 1) (hh : ∀ fs, h a = .inr (ci, fs) → j < fs.length ∧ 20 ≤ a ∧ ax_up h a (.inr (ci, fs.set j (.int v))) = h1) (hc : isC h a ci = true) : ax_W d y pc lc (.int v :: .ref a :: st) n h Q = ax_W d y pc1 lc st n h1 Q := by
  subst hp
  unfold isC at hc
  cases he : h a with
  | inl x => rw [he] at hc; cases hc
  | inr x =>
    obtain ⟨c, fs⟩ := x
    rw [he] at hc
    have hc : c = ci := of_decide_eq_true hc
    subst hc
    obtain ⟨w1, w2, w3⟩ := hh fs he
    refine e_hp st n h1 _ ha rfl rfl rfl ?_ rfl
    show (ax_putf (ax_cl y) (ax_ini y) k a (.int v) h).map _ = _
    unfold ax_putf
    rw [hf, he]
    dsimp only
    rw [if_pos ⟨rfl, hci, w1, w2, by rw [hty]; rcases hv with rfl | rfl <;> rfl, by rw [hty]; rcases hv with rfl | rfl <;> rfl, Or.inl hfi⟩]
    rw [w3]
    rfl
theorem e_iald {a : Nat} {x : Int32} (pc1 : Nat) (ha : ax_at y pc = some .iaload) (hp : pc + 1 = pc1) : ax_W d y pc lc (.int x :: .ref a :: st) n h Q = (match al h a x with
    | some v => ax_W d y pc1 lc (.int v :: st) n h Q
    | none => False) := by
  subst hp
  have e : ax_hp (ax_cl y) (ax_ini y) .iaload (.int x :: .ref a :: st) n h = (al h a x).map (fun v => (.int v :: st, n, h)) := by
    show (match h a with
      | .inl (t, len, f) => if t = 0 ∧ ¬ (x < 0 ∨ len ≤ x.toNatClampNeg) then some (Value.int (f x.toNatClampNeg) :: st, n, h) else none
      | .inr _ => none) = _
    unfold al
    cases h a with
    | inr x => rfl
    | inl x =>
      obtain ⟨t, len, f⟩ := x
      dsimp only
      split <;> rfl
  cases hg : al h a x with
  | some v => rw [hg] at e; exact e_hp (.int v :: st) n h _ ha rfl rfl rfl e rfl
  | none => rw [hg] at e; exact e_none ha rfl rfl rfl e rfl rfl rfl
theorem e_bald {a : Nat} {x : Int32} (pc1 : Nat) (ha : ax_at y pc = some .baload) (hp : pc + 1 = pc1) : ax_W d y pc lc (.int x :: .ref a :: st) n h Q = (match bl h a x with
    | some v => ax_W d y pc1 lc (.int v :: st) n h Q
    | none => False) := by
  subst hp
  have e : ax_hp (ax_cl y) (ax_ini y) .baload (.int x :: .ref a :: st) n h = (bl h a x).map (fun v => (.int v :: st, n, h)) := by
    show (match h a with
      | .inl (t, len, f) => if (t = 1 ∨ t = 2) ∧ ¬ (x < 0 ∨ len ≤ x.toNatClampNeg) then some (Value.int (f x.toNatClampNeg) :: st, n, h) else none
      | .inr _ => none) = _
    unfold bl
    cases h a with
    | inr x => rfl
    | inl x =>
      obtain ⟨t, len, f⟩ := x
      dsimp only
      split <;> rfl
  cases hg : bl h a x with
  | some v => rw [hg] at e; exact e_hp (.int v :: st) n h _ ha rfl rfl rfl e rfl
  | none => rw [hg] at e; exact e_none ha rfl rfl rfl e rfl rfl rfl
theorem e_alen {a : Nat} (pc1 : Nat) (ha : ax_at y pc = some .arraylength) (hp : pc + 1 = pc1) : ax_W d y pc lc (.ref a :: st) n h Q = (match an h a with
    | some v => ax_W d y pc1 lc (.int v :: st) n h Q
    | none => False) := by
  subst hp
  have e : ax_hp (ax_cl y) (ax_ini y) .arraylength (.ref a :: st) n h = (an h a).map (fun v => (.int v :: st, n, h)) := by
    show (match h a with
      | .inl (_, len, _) => some (Value.int (nI len) :: st, n, h)
      | .inr _ => none) = _
    unfold an
    cases h a with
    | inr x => rfl
    | inl x => rfl
  cases hg : an h a with
  | some v => rw [hg] at e; exact e_hp (.int v :: st) n h _ ha rfl rfl rfl e rfl
  | none => rw [hg] at e; exact e_none ha rfl rfl rfl e rfl rfl rfl
theorem e_iast {a : Nat} {x v : Int32} (pc1 : Nat) (ha : ax_at y pc = some .iastore) (hp : pc + 1 = pc1) : ax_W d y pc lc (.int v :: .int x :: .ref a :: st) n h Q = (match sa h a x v with
    | some h1 => ax_W d y pc1 lc st n h1 Q
    | none => False) := by
  subst hp
  have e : ax_hp (ax_cl y) (ax_ini y) .iastore (.int v :: .int x :: .ref a :: st) n h = (sa h a x v).map (fun h1 => (st, n, h1)) := by
    show (match h a with
      | .inl (t, len, f) => if t = 0 ∧ 20 ≤ a ∧ ¬ (x < 0 ∨ len ≤ x.toNatClampNeg) then some (st, n, ax_up h a (.inl (0, len, upd f x.toNatClampNeg v))) else none
      | .inr _ => none) = _
    unfold sa
    cases h a with
    | inr x => rfl
    | inl x =>
      obtain ⟨t, len, f⟩ := x
      dsimp only
      split <;> rfl
  cases hg : sa h a x v with
  | some h1 => rw [hg] at e; exact e_hp st n h1 _ ha rfl rfl rfl e rfl
  | none => rw [hg] at e; exact e_none ha rfl rfl rfl e rfl rfl rfl
theorem e_bast {a : Nat} {x v : Int32} (pc1 : Nat) (ha : ax_at y pc = some .bastore) (hp : pc + 1 = pc1) : ax_W d y pc lc (.int v :: .int x :: .ref a :: st) n h Q = (match sb h a x v with
    | some h1 => ax_W d y pc1 lc st n h1 Q
    | none => False) := by
  subst hp
  have e : ax_hp (ax_cl y) (ax_ini y) .bastore (.int v :: .int x :: .ref a :: st) n h = (sb h a x v).map (fun h1 => (st, n, h1)) := by
    show (match h a with
      | .inl (t, len, f) => if t = 1 ∧ 20 ≤ a ∧ (v = 0 ∨ v = 1) ∧ ¬ (x < 0 ∨ len ≤ x.toNatClampNeg) then some (st, n, ax_up h a (.inl (1, len, upd f x.toNatClampNeg v))) else none
      | .inr _ => none) = _
    unfold sb
    cases h a with
    | inr x => rfl
    | inl x =>
      obtain ⟨t, len, f⟩ := x
      dsimp only
      split <;> rfl
  cases hg : sb h a x v with
  | some h1 => rw [hg] at e; exact e_hp st n h1 _ ha rfl rfl rfl e rfl
  | none => rw [hg] at e; exact e_none ha rfl rfl rfl e rfl rfl rfl
theorem e_gets {k : Nat} (v : Value) (pc1 : Nat) (ha : ax_at y pc = some (.getstatic k)) (hf : ax_sta (ax_cl y) k = some v) (hp : pc + 3 = pc1) : ax_W d y pc lc st n h Q = ax_W d y pc1 lc (v :: st) n h Q := by
  subst hp
  exact e_hp (v :: st) n h _ ha rfl rfl rfl (by show (ax_sta _ _).map _ = _; rw [hf]; rfl) rfl
theorem e_ldcI {k : Nat} (v : Int32) (pc1 : Nat) (ha : ax_at y pc = some (.ldc k)) (hf : ax_csi (ax_cl y) k = some v) (hp : pc + 2 = pc1) : ax_W d y pc lc st n h Q = ax_W d y pc1 lc (.int v :: st) n h Q := by
  subst hp
  refine e_hp (.int v :: st) n h _ ha rfl rfl rfl ?_ rfl
  show (match ax_csi (ax_cl y) k with
    | some v => some (Value.int v :: st, n, h)
    | none => (ax_str (ax_cl y) k).map (fun a => (Value.ref a :: st, n, h))) = _
  rw [hf]
theorem e_ldcS {k : Nat} (a pc1 : Nat) (ha : ax_at y pc = some (.ldc k)) (hf : ax_csi (ax_cl y) k = none) (hs : ax_str (ax_cl y) k = some a) (hp : pc + 2 = pc1) : ax_W d y pc lc st n h Q = ax_W d y pc1 lc (.ref a :: st) n h Q := by
  subst hp
  refine e_hp (.ref a :: st) n h _ ha rfl rfl rfl ?_ rfl
  show (match ax_csi (ax_cl y) k with
    | some v => some (Value.int v :: st, n, h)
    | none => (ax_str (ax_cl y) k).map (fun a => (Value.ref a :: st, n, h))) = _
  rw [hf, hs]
  rfl
theorem e_ldcW {k : Nat} (v : Int32) (pc1 : Nat) (ha : ax_at y pc = some (.ldc_w k)) (hf : ax_csi (ax_cl y) k = some v) (hp : pc + 3 = pc1) : ax_W d y pc lc st n h Q = ax_W d y pc1 lc (.int v :: st) n h Q := by
  subst hp
  exact e_hp (.int v :: st) n h _ ha rfl rfl rfl (by show (ax_csi _ _).map _ = _; rw [hf]; rfl) rfl
theorem e_ldc2 {k : Nat} (v : Int64) (pc1 : Nat) (ha : ax_at y pc = some (.ldc2_w k)) (hf : ax_csl (ax_cl y) k = some v) (hp : pc + 3 = pc1) : ax_W d y pc lc st n h Q = ax_W d y pc1 lc (.long v :: st) n h Q := by
  subst hp
  exact e_hp (.long v :: st) n h _ ha rfl rfl rfl (by show (ax_csl _ _).map _ = _; rw [hf]; rfl) rfl
theorem e_icmp {off : Int} {x w : Int32} (cnd : Jvm.ClassFile.Cond) (a b : Nat) (ha : ax_at y pc = some (.if_icmp cnd off)) (h0 : 0 ≤ (pc : Int) + off) (hp : ((pc : Int) + off).toNat = a) (hb : pc + 3 = b) : ax_W d y pc lc (.int w :: .int x :: st) n h Q = if ax_cmp cnd x w = true then ax_W d y a lc st n h Q else ax_W d y b lc st n h Q := by
  subst hp; subst hb
  have hb : ax_br (.if_icmp cnd off) pc (.int w :: .int x :: st) = some (if ax_cmp cnd x w then ((pc : Int) + off).toNat else pc + 3, st) := if_pos h0
  rw [e_br st _ ha rfl rfl hb]
  split <;> rfl
theorem e_cond {off : Int} {x : Int32} (cnd : Jvm.ClassFile.Cond) (a b : Nat) (ha : ax_at y pc = some (.ifCond cnd off)) (h0 : 0 ≤ (pc : Int) + off) (hp : ((pc : Int) + off).toNat = a) (hb : pc + 3 = b) : ax_W d y pc lc (.int x :: st) n h Q = if ax_cmp cnd x 0 = true then ax_W d y a lc st n h Q else ax_W d y b lc st n h Q := by
  subst hp; subst hb
  have hb : ax_br (.ifCond cnd off) pc (.int x :: st) = some (if ax_cmp cnd x 0 then ((pc : Int) + off).toNat else pc + 3, st) := if_pos h0
  rw [e_br st _ ha rfl rfl hb]
  split <;> rfl
theorem if_cm {c : Prop} [Decidable c] {α : Sort _} {b : Bool} (h : b = decide c) (x y : α) : (if b = true then x else y) = if c then x else y := by
  subst h
  by_cases hc : c <;> simp [hc]
theorem if_cn {c : Prop} [Decidable c] {α : Sort _} {b : Bool} (h : b = decide (¬ c)) (x y : α) : (if b = true then x else y) = if c then y else x := by
  subst h
  by_cases hc : c <;> simp [hc]
theorem e_go {off : Int} (a : Nat) (ha : ax_at y pc = some (.goto off)) (h0 : 0 ≤ (pc : Int) + off) (hp : ((pc : Int) + off).toNat = a) : ax_W d y pc lc st n h Q = ax_W d y a lc st n h Q := by
  subst hp
  exact e_br st _ ha rfl rfl (if_pos h0)
theorem e_tsw {df lo hi : Int} {offs : Array Int} {x : Int32} (a : Nat) (ha : ax_at y pc = some (.tableswitch df lo hi offs)) (hx : ¬ (x.toInt < lo ∨ hi < x.toInt)) (off : Int) (ho : offs[(x.toInt - lo).toNat]? = some off) (h0 : 0 ≤ (pc : Int) + off) (hp : ((pc : Int) + off).toNat = a) : ax_W d y pc lc (.int x :: st) n h Q = ax_W d y a lc st n h Q := by
  subst hp
  refine e_br st _ ha rfl rfl ?_
  show (if x.toInt < lo ∨ hi < x.toInt then _ else (match offs[(x.toInt - lo).toNat]? with
    | some off => if 0 ≤ (pc : Int) + off then some (((pc : Int) + off).toNat, st) else none
    | none => none)) = _
  rw [if_neg hx, ho]
  exact if_pos h0
theorem e_tsd {df lo hi : Int} {offs : Array Int} {x : Int32} (a : Nat) (ha : ax_at y pc = some (.tableswitch df lo hi offs)) (hx : x.toInt < lo ∨ hi < x.toInt) (h0 : 0 ≤ (pc : Int) + df) (hp : ((pc : Int) + df).toNat = a) : ax_W d y pc lc (.int x :: st) n h Q = ax_W d y a lc st n h Q := by
  subst hp
  refine e_br st _ ha rfl rfl ?_
  show (if x.toInt < lo ∨ hi < x.toInt then (if 0 ≤ (pc : Int) + df then some (((pc : Int) + df).toNat, st) else none) else _) = _
  rw [if_pos hx]
  exact if_pos h0
theorem e_iret {v : Int32} (ha : ax_at y pc = some .ireturn) (hr : ax_rt y = some .int) : ax_W d y pc lc [.int v] n h Q = Q (some (.int v)) n h := by
  refine e_rv _ ha rfl rfl rfl rfl rfl rfl ?_
  show (match ax_rt y with
    | some ty => if narrow ty (Value.int v) = Value.int v then some (some (Value.int v)) else none
    | none => none) = _
  rw [hr]
  exact if_pos rfl
theorem e_tret {v : Int32} {ty : FieldType} (ha : ax_at y pc = some .ireturn) (hr : ax_rt y = some ty) (hn : narrow ty (.int v) = .int v) : ax_W d y pc lc [.int v] n h Q = Q (some (.int v)) n h := by
  refine e_rv _ ha rfl rfl rfl rfl rfl rfl ?_
  show (match ax_rt y with
    | some ty => if narrow ty (Value.int v) = Value.int v then some (some (Value.int v)) else none
    | none => none) = _
  rw [hr]
  exact if_pos hn
theorem e_zret {v : Int32} (ha : ax_at y pc = some .ireturn) (hr : ax_rt y = some .boolean) (hv : v = 0 ∨ v = 1) : ax_W d y pc lc [.int v] n h Q = Q (some (.int v)) n h := e_tret ha hr (by rcases hv with rfl | rfl <;> rfl)
theorem e_lret {v : Int64} (ha : ax_at y pc = some .lreturn) (hr : ax_rt y = some .long) : ax_W d y pc lc [.long v] n h Q = Q (some (.long v)) n h := e_rv _ ha rfl rfl rfl rfl rfl rfl (if_pos hr)
theorem e_vret (ha : ax_at y pc = some .return_) (hr : ax_rt y = none) : ax_W d y pc lc [] n h Q = Q none n h := e_rv _ ha rfl rfl rfl rfl rfl rfl (if_pos hr)
theorem e_aret {a : Nat} {nm : String} (ha : ax_at y pc = some .areturn) (hr : ax_rt y = some (.object nm)) : ax_W d y pc lc [.ref a] n h Q = Q (some (.ref a)) n h := by
  refine e_rv _ ha rfl rfl rfl rfl rfl rfl ?_
  show (match ax_rt y with
    | some (.object _) => some (some (Value.ref a))
    | _ => none) = _
  rw [hr]
theorem e_virt {k b : Nat} {as lc1 : List Value} (z pc1 : Nat) (ha : ax_at y pc = some (.invokevirtual k)) (hm : ax_mth (ax_cl y) k = some z) (hz : z < 226 ∧ ax_sc z = false ∧ ¬ (ax_nm z).name = "<init>") (hp : ax_pop (ax_np z) [] st = some (as, .ref b :: r)) (hr : r.length ≤ 4 ∧ (ax_spread (.ref b :: as)).length ≤ ax_ml z) (he : ax_ent z (.ref b :: as) = lc1) (h1 : pc + 3 = pc1) (hc : isC h b (ax_cl z) = true) : ax_W (d + 1) y pc lc st n h Q = ax_W d z 0 lc1 [] n h (ax_ct (d + 1) y pc1 lc r Q) := by
  unfold isC at hc
  cases hb : h b with
  | inl x => rw [hb] at hc; cases hc
  | inr x =>
    obtain ⟨c, fs⟩ := x
    rw [hb] at hc
    have hc : c = ax_cl z := of_decide_eq_true hc
    subst hc
    refine e_cv z (.ref b :: as) lc1 pc1 ha rfl rfl rfl rfl ?_ he h1
    show (match ax_mth (ax_cl y) k with
      | some z => if z < 226 ∧ ax_sc z = false ∧ ¬ (ax_nm z).name = "<init>" then (match ax_pop (ax_np z) [] st with
        | some (as, .ref b :: r) => (match h b with
          | .inr (ci, _) => if ci = ax_cl z ∧ r.length ≤ 4 ∧ (ax_spread (.ref b :: as)).length ≤ ax_ml z then some (z, Value.ref b :: as, r) else none
          | .inl _ => none)
        | _ => none) else none
      | none => none) = _
    rw [hm]
    dsimp only
    rw [if_pos hz, hp]
    dsimp only
    rw [hb]
    exact if_pos ⟨rfl, hr⟩
theorem e_stat {k : Nat} {as lc1 : List Value} (z pc1 : Nat) (ha : ax_at y pc = some (.invokestatic k)) (hm : ax_mth (ax_cl y) k = some z) (hz : z < 226 ∧ ax_sc z = true) (hp : ax_pop (ax_np z) [] st = some (as, r)) (hr : r.length ≤ 4 ∧ (ax_spread as).length ≤ ax_ml z) (he : ax_ent z as = lc1) (h1 : pc + 3 = pc1) : ax_W (d + 1) y pc lc st n h Q = ax_W d z 0 lc1 [] n h (ax_ct (d + 1) y pc1 lc r Q) := by
  have h4 : ax_hp (ax_cl y) (ax_ini y) (.invokestatic k) st n h = none := rfl
  refine e_cv z as lc1 pc1 ha rfl rfl rfl h4 ?_ he h1
  show (match ax_mth (ax_cl y) k with
    | some z => if z < 226 ∧ ax_sc z = true then (match ax_pop (ax_np z) [] st with
      | some (as, r) => if r.length ≤ 4 ∧ (ax_spread as).length ≤ ax_ml z then some (z, as, r) else none
      | none => none) else none
    | none => none) = _
  rw [hm]
  dsimp only
  rw [if_pos hz, hp]
  exact if_pos hr
theorem e_spec {k b : Nat} {as lc1 : List Value} (z pc1 : Nat) (ha : ax_at y pc = some (.invokespecial k)) (hm : ax_mth (ax_cl y) k = some z) (hz : z < 226 ∧ ax_sc z = false ∧ (ax_nm z).name = "<init>") (hp : ax_pop (ax_np z) [] st = some (as, .ref b :: r)) (hr : r.length ≤ 4 ∧ (ax_spread (.ref b :: as)).length ≤ ax_ml z) (he : ax_ent z (.ref b :: as) = lc1) (h1 : pc + 3 = pc1) : ax_W (d + 1) y pc lc st n h Q = ax_W d z 0 lc1 [] n h (ax_ct (d + 1) y pc1 lc r Q) := by
  have h4 : ax_hp (ax_cl y) (ax_ini y) (.invokespecial k) st n h = none := rfl
  refine e_cv z (.ref b :: as) lc1 pc1 ha rfl rfl rfl h4 ?_ he h1
  show (match ax_mth (ax_cl y) k with
    | some z => if z < 226 ∧ ax_sc z = false ∧ (ax_nm z).name = "<init>" then (match ax_pop (ax_np z) [] st with
      | some (as, .ref b :: r) => if r.length ≤ 4 ∧ (ax_spread (.ref b :: as)).length ≤ ax_ml z then some (z, Value.ref b :: as, r) else none
      | _ => none) else none
    | none => none) = _
  rw [hm]
  dsimp only
  rw [if_pos hz, hp]
  exact if_pos hr
theorem ax_cv_far {c k z : Nat} {st : List Value} {h : ax_H} (hm : ax_mth c k = some z) (hz : ¬ z < 226) : ax_cv c (.invokestatic k) st h = none ∧ ax_cv c (.invokespecial k) st h = none := by
  constructor
  · show (match ax_mth c k with
      | some z => if z < 226 ∧ ax_sc z = true then _ else none
      | none => none) = _
    rw [hm]
    exact if_neg (fun q => hz q.1)
  · show (match ax_mth c k with
      | some z => if z < 226 ∧ ax_sc z = false ∧ (ax_nm z).name = "<init>" then _ else none
      | none => none) = _
    rw [hm]
    exact if_neg (fun q => hz q.1)
theorem e_obj {k b pc1 : Nat} (ha : ax_at y pc = some (.invokespecial k)) (hm : ax_mth (ax_cl y) k = some 900) (hr : r.length ≤ 4) (h1 : pc + 3 = pc1) : ax_W (d + 1) y pc lc (.ref b :: r) n h Q = ax_W (d + 1) y pc1 lc r n h Q := by
  refine e_nv r h pc1 ha rfl rfl rfl rfl (ax_cv_far hm (by omega)).2 ?_ h1
  show (if ax_mth (ax_cl y) k = some 900 then (if r.length ≤ 4 then some (r, h) else none) else none) = _
  rw [if_pos hm, if_pos hr]
theorem e_max {k pc1 : Nat} {x w : Int32} (ha : ax_at y pc = some (.invokestatic k)) (hm : ax_mth (ax_cl y) k = some 902) (hr : r.length ≤ 4) (h1 : pc + 3 = pc1) : ax_W (d + 1) y pc lc (.int w :: .int x :: r) n h Q = ax_W (d + 1) y pc1 lc (.int (mxI x w) :: r) n h Q := by
  refine e_nv _ h pc1 ha rfl rfl rfl rfl (ax_cv_far hm (by omega)).1 ?_ h1
  unfold ax_nv
  dsimp only
  rw [hm]
  rw [if_neg (by decide), if_pos rfl, if_pos hr]
  rfl
theorem e_min {k pc1 : Nat} {x w : Int32} (ha : ax_at y pc = some (.invokestatic k)) (hm : ax_mth (ax_cl y) k = some 903) (hr : r.length ≤ 4) (h1 : pc + 3 = pc1) : ax_W (d + 1) y pc lc (.int w :: .int x :: r) n h Q = ax_W (d + 1) y pc1 lc (.int (mnI x w) :: r) n h Q := by
  refine e_nv _ h pc1 ha rfl rfl rfl rfl (ax_cv_far hm (by omega)).1 ?_ h1
  unfold ax_nv
  dsimp only
  rw [hm]
  rw [if_neg (by decide), if_neg (by decide), if_pos rfl, if_pos hr]
  rfl
theorem e_abs {k pc1 : Nat} {x : Int32} (ha : ax_at y pc = some (.invokestatic k)) (hm : ax_mth (ax_cl y) k = some 904) (hr : r.length ≤ 4) (h1 : pc + 3 = pc1) : ax_W (d + 1) y pc lc (.int x :: r) n h Q = ax_W (d + 1) y pc1 lc (.int (abI x) :: r) n h Q := by
  refine e_nv _ h pc1 ha rfl rfl rfl rfl (ax_cv_far hm (by omega)).1 ?_ h1
  unfold ax_nv
  dsimp only
  rw [hm]
  rw [if_neg (by decide), if_neg (by decide), if_neg (by decide), if_pos rfl, if_pos hr]
  rfl
theorem e_acp {k pc1 a0 a : Nat} {sp dp m : Int32} {h1 : ax_H} (ha : ax_at y pc = some (.invokestatic k)) (hm : ax_mth (ax_cl y) k = some 901) (hr : r.length ≤ 4) (hp : pc + 3 = pc1) (hh : acp h a0 sp a dp m = some h1) : ax_W (d + 1) y pc lc (.int m :: .int dp :: .ref a :: .int sp :: .ref a0 :: r) n h Q = ax_W (d + 1) y pc1 lc r n h1 Q := by
  refine e_nv _ h1 pc1 ha rfl rfl rfl rfl (ax_cv_far hm (by omega)).1 ?_ hp
  unfold ax_nv
  dsimp only
  rw [hm]
  rw [if_pos rfl]
  unfold acp at hh
  cases e0 : h a0 with
  | inr q => rw [e0] at hh; cases hh
  | inl q =>
    obtain ⟨t0, n0, f⟩ := q
    cases e1 : h a with
    | inr q => rw [e0, e1] at hh; cases hh
    | inl q =>
      obtain ⟨t1, n1, g⟩ := q
      rw [e0, e1] at hh
      dsimp only at hh ⊢
      split at hh
      · rename_i w
        obtain ⟨w1, w2, w3, w4, w5⟩ := w
        rw [if_pos ⟨w1, w2, w3, w4, hr, w5⟩]
        cases hh
        rfl
      · cases hh
end AxEqs
end
section
/-! ===== the heap once both objects are made: its shape is fixed, numbers alone change ===== -/
abbrev ax_M : Type := Nat → Nat → Int32
abbrev ax_L : Type := Nat → Nat → Int64
abbrev ax_S : Type := Nat × (Nat → Int32)
def hx_tab : List ((Nat × Nat) ⊕ (Nat × List (Nat × Nat))) := [.inr (9, [(0, 21), (0, 32), (0, 43), (0, 55), (0, 67), (0, 69), (0, 72), (0, 73), (0, 77), (0, 78), (0, 83), (2, 0), (2, 0), (1, 0), (1, 0), (1, 0)]), .inr (0, [(0, 22), (0, 24), (0, 26), (0, 28), (0, 30), (1, 0), (1, 0)]), .inr (6, [(1, 0), (1, 0), (0, 23), (1, 0)]), .inl (0, 40), .inr (6, [(1, 0), (1, 0), (0, 25), (1, 0)]), .inl (0, 25), .inr (6, [(1, 0), (1, 0), (0, 27), (1, 0)]), .inl (0, 36), .inr (6, [(1, 0), (1, 0), (0, 29), (1, 0)]), .inl (0, 8), .inr (6, [(1, 0), (1, 0), (0, 31), (1, 0)]), .inl (0, 66), .inr (0, [(0, 33), (0, 35), (0, 37), (0, 39), (0, 41), (1, 0), (1, 0)]), .inr (6, [(1, 0), (1, 0), (0, 34), (1, 0)]), .inl (0, 40), .inr (6, [(1, 0), (1, 0), (0, 36), (1, 0)]), .inl (0, 25), .inr (6, [(1, 0), (1, 0), (0, 38), (1, 0)]), .inl (0, 36), .inr (6, [(1, 0), (1, 0), (0, 40), (1, 0)]), .inl (0, 8), .inr (6, [(1, 0), (1, 0), (0, 42), (1, 0)]), .inl (0, 66), .inr (2, [(0, 44), (1, 0)]), .inr (0, [(0, 45), (0, 47), (0, 49), (0, 51), (0, 53), (1, 0), (1, 0)]), .inr (6, [(1, 0), (1, 0), (0, 46), (1, 0)]), .inl (0, 40), .inr (6, [(1, 0), (1, 0), (0, 48), (1, 0)]), .inl (0, 25), .inr (6, [(1, 0), (1, 0), (0, 50), (1, 0)]), .inl (0, 36), .inr (6, [(1, 0), (1, 0), (0, 52), (1, 0)]), .inl (0, 8), .inr (6, [(1, 0), (1, 0), (0, 54), (1, 0)]), .inl (0, 66), .inr (2, [(0, 56), (1, 0)]), .inr (0, [(0, 57), (0, 59), (0, 61), (0, 63), (0, 65), (1, 0), (1, 0)]), .inr (6, [(1, 0), (1, 0), (0, 58), (1, 0)]), .inl (0, 40), .inr (6, [(1, 0), (1, 0), (0, 60), (1, 0)]), .inl (0, 25), .inr (6, [(1, 0), (1, 0), (0, 62), (1, 0)]), .inl (0, 36), .inr (6, [(1, 0), (1, 0), (0, 64), (1, 0)]), .inl (0, 8), .inr (6, [(1, 0), (1, 0), (0, 66), (1, 0)]), .inl (0, 66), .inr (6, [(1, 0), (1, 0), (0, 68), (1, 0)]), .inl (0, 150), .inr (5, [(0, 67), (0, 70), (1, 0), (1, 0), (1, 0), (1, 0)]), .inr (6, [(1, 0), (1, 0), (0, 71), (1, 0)]), .inl (0, 5), .inr (1, [(0, 21), (1, 0), (1, 0), (1, 0)]), .inr (8, [(0, 21), (0, 76), (0, 74), (1, 0)]), .inr (6, [(1, 0), (1, 0), (0, 75), (1, 0)]), .inl (0, 16), .inr (1, [(0, 21), (1, 0), (1, 0), (1, 0)]), .inr (4, [(0, 21), (1, 0), (1, 0)]), .inr (3, [(0, 21), (0, 79), (0, 81), (1, 0)]), .inr (6, [(1, 0), (1, 0), (0, 80), (1, 0)]), .inl (0, 4), .inr (6, [(1, 0), (1, 0), (0, 82), (1, 0)]), .inl (0, 4), .inr (7, [(1, 0), (1, 0)]), .inr (10, [(0, 85), (0, 86), (0, 87), (0, 88), (2, 0), (2, 0), (1, 0), (1, 0), (1, 0), (1, 0), (0, 89), (0, 90), (0, 91), (0, 92), (0, 93), (0, 94), (0, 95), (1, 0), (0, 96), (1, 0), (1, 0), (0, 97), (0, 98), (0, 99), (1, 0), (1, 0), (1, 0), (1, 0), (1, 0), (0, 100), (0, 101)]), .inl (0, 181), .inl (0, 362), .inl (1, 2), .inl (0, 3), .inl (0, 8), .inl (0, 6), .inl (0, 6), .inl (0, 6), .inl (0, 6), .inl (0, 6), .inl (0, 6), .inl (0, 4), .inl (0, 6), .inl (0, 3), .inl (0, 150), .inl (0, 181), .inl (0, 5)]
def hx_fv (M : ax_M) (N : ax_L) (a j : Nat) (k : Nat × Nat) : Value := match k with
  | (0, r) => .ref r
  | (1, _) => .int (M a j)
  | (_, _) => .long (N a j)
def hx_fs (M : ax_M) (N : ax_L) (a : Nat) : Nat → List (Nat × Nat) → List Value
  | _, [] => []
  | j, k :: l => hx_fv M N a j k :: hx_fs M N a (j + 1) l
def hx (S : ax_S) (M : ax_M) (N : ax_L) : ax_H := fun a => if a < 20 then ax_old S.1 S.2 a else (match hx_tab[a - 20]? with
  | some (.inl (t, len)) => .inl (t, len, M a)
  | some (.inr (ci, ks)) => .inr (ci, hx_fs M N a 0 ks)
  | none => ax_dead)
def ux (M : ax_M) (a j : Nat) (v : Int32) : ax_M := fun b k => if b = a ∧ k = j then v else M b k
def ua (M : ax_M) (a : Nat) (f : Nat → Int32) : ax_M := fun b => if b = a then f else M b
def ul (N : ax_L) (a j : Nat) (v : Int64) : ax_L := fun b k => if b = a ∧ k = j then v else N b k
theorem ux_s {M : ax_M} {a j : Nat} {v : Int32} : ux M a j v a j = v := if_pos ⟨rfl, rfl⟩
theorem ux_a {M : ax_M} {a j b k : Nat} {v : Int32} (h : b ≠ a) : ux M a j v b k = M b k := if_neg (fun q => h q.1)
theorem ux_f {M : ax_M} {a j b : Nat} {v : Int32} (h : b ≠ a) : ux M a j v b = M b := funext fun _ => if_neg (fun q => h q.1)
theorem ux_j {M : ax_M} {a j k : Nat} {v : Int32} (h : k ≠ j) : ux M a j v a k = M a k := if_neg (fun q => h q.2)
theorem ux_upd {M : ax_M} {a j : Nat} {v : Int32} : ux M a j v = ua M a (upd (M a) j v) := by
  funext b k
  unfold ux ua upd
  by_cases h1 : b = a
  · subst h1; simp
  · simp [h1]
theorem ua_s {M : ax_M} {a : Nat} {f : Nat → Int32} : ua M a f a = f := if_pos rfl
theorem ua_a {M : ax_M} {a b : Nat} {f : Nat → Int32} (h : b ≠ a) : ua M a f b = M b := if_neg h
theorem ul_s {N : ax_L} {a j : Nat} {v : Int64} : ul N a j v a j = v := if_pos ⟨rfl, rfl⟩
theorem ul_j {N : ax_L} {a j k : Nat} {v : Int64} (h : k ≠ j) : ul N a j v a k = N a k := if_neg (fun q => h q.2)
theorem ul_a {N : ax_L} {a j b k : Nat} {v : Int64} (h : b ≠ a) : ul N a j v b k = N b k := if_neg (fun q => h q.1)
section Hx
variable {S : ax_S} {M : ax_M} {N : ax_L} {a : Nat}
theorem hx_inl {t len : Nat} (h20 : 20 ≤ a) (h : hx_tab[a - 20]? = some (.inl (t, len))) : hx S M N a = .inl (t, len, M a) := by
  unfold hx; rw [if_neg (by omega), h]
theorem hx_inr {ci : Nat} {ks : List (Nat × Nat)} (h20 : 20 ≤ a) (h : hx_tab[a - 20]? = some (.inr (ci, ks))) : hx S M N a = .inr (ci, hx_fs M N a 0 ks) := by
  unfold hx; rw [if_neg (by omega), h]
theorem hx_fs_len (ks : List (Nat × Nat)) : ∀ j, (hx_fs M N a j ks).length = ks.length := by
  induction ks with
  | nil => intro j; rfl
  | cons k l ih => intro j; simp [hx_fs, ih]
theorem hx_fs_ext {M2 : ax_M} {N2 : ax_L} (ks : List (Nat × Nat)) : ∀ j, (∀ i k, ks[i]? = some k → hx_fv M2 N2 a (j + i) k = hx_fv M N a (j + i) k) → hx_fs M2 N2 a j ks = hx_fs M N a j ks := by
  induction ks with
  | nil => intro j h; rfl
  | cons k l ih =>
    intro j h
    have h0 := h 0 k rfl
    rw [Nat.add_zero] at h0
    unfold hx_fs
    rw [h0, ih (j + 1) (fun i q hq => by have := h (i + 1) q (by simpa using hq); rwa [show j + (i + 1) = j + 1 + i by omega] at this)]
theorem hx_fs_set {M2 : ax_M} {N2 : ax_L} {v : Value} (ks : List (Nat × Nat)) : ∀ (j0 j : Nat) (k : Nat × Nat), ks[j]? = some k → hx_fv M2 N2 a (j0 + j) k = v → (∀ i q, i ≠ j → ks[i]? = some q → hx_fv M2 N2 a (j0 + i) q = hx_fv M N a (j0 + i) q) → (hx_fs M N a j0 ks).set j v = hx_fs M2 N2 a j0 ks := by
  induction ks with
  | nil => intro j0 j k h; simp at h
  | cons k0 l ih =>
    intro j0 j k h hv ho
    cases j with
    | zero =>
      simp at h
      subst h
      show v :: hx_fs M N a (j0 + 1) l = hx_fv M2 N2 a j0 k0 :: hx_fs M2 N2 a (j0 + 1) l
      rw [← hv, Nat.add_zero, hx_fs_ext (M := M) (N := N) (M2 := M2) (N2 := N2) l (j0 + 1) (fun i q hq => by have := ho (i + 1) q (by omega) (by simpa using hq); rwa [show j0 + (i + 1) = j0 + 1 + i by omega] at this)]
    | succ j =>
      have h0 := ho 0 k0 (by omega) rfl
      rw [Nat.add_zero] at h0
      show hx_fv M N a j0 k0 :: (hx_fs M N a (j0 + 1) l).set j v = hx_fv M2 N2 a j0 k0 :: hx_fs M2 N2 a (j0 + 1) l
      rw [h0, ih (j0 + 1) j k (by simpa using h) (by rw [show j0 + 1 + j = j0 + (j + 1) by omega]; exact hv) (fun i q hi hq => by have := ho (i + 1) q (by omega) (by simpa using hq); rwa [show j0 + (i + 1) = j0 + 1 + i by omega] at this)]
def okI (a ci j : Nat) : Bool := decide (20 ≤ a) && (match hx_tab[a - 20]? with
  | some (.inr (c, ks)) => decide (c = ci) && decide (ks[j]? = some (1, 0))
  | _ => false)
def okL (a ci j : Nat) : Bool := decide (20 ≤ a) && (match hx_tab[a - 20]? with
  | some (.inr (c, ks)) => decide (c = ci) && decide (ks[j]? = some (2, 0))
  | _ => false)
theorem okI_spec {ci j : Nat} (h : okI a ci j = true) : 20 ≤ a ∧ ∃ ks, hx_tab[a - 20]? = some (.inr (ci, ks)) ∧ ks[j]? = some (1, 0) := by
  unfold okI at h
  rw [Bool.and_eq_true, decide_eq_true_eq] at h
  refine ⟨h.1, ?_⟩
  have h2 := h.2
  split at h2
  · rename_i c ks e
    rw [Bool.and_eq_true, decide_eq_true_eq, decide_eq_true_eq] at h2
    obtain ⟨rfl, h3⟩ := h2
    exact ⟨ks, e, h3⟩
  · cases h2
theorem okL_spec {ci j : Nat} (h : okL a ci j = true) : 20 ≤ a ∧ ∃ ks, hx_tab[a - 20]? = some (.inr (ci, ks)) ∧ ks[j]? = some (2, 0) := by
  unfold okL at h
  rw [Bool.and_eq_true, decide_eq_true_eq] at h
  refine ⟨h.1, ?_⟩
  have h2 := h.2
  split at h2
  · rename_i c ks e
    rw [Bool.and_eq_true, decide_eq_true_eq, decide_eq_true_eq] at h2
    obtain ⟨rfl, h3⟩ := h2
    exact ⟨ks, e, h3⟩
  · cases h2
theorem hx_other {M2 : ax_M} {N2 : ax_L} (hM : ∀ b, b ≠ a → M2 b = M b) (hN : ∀ b, b ≠ a → N2 b = N b) (e : ax_E) (he : hx S M2 N2 a = e) : ax_up (hx S M N) a e = hx S M2 N2 := by
  funext b
  unfold ax_up
  by_cases hb : b = a
  · rw [if_pos hb, hb, he]
  · rw [if_neg hb]
    unfold hx
    split
    · rfl
    · split
      · rw [hM b hb]
      · rename_i ci ks _
        rw [hx_fs_ext ks 0 (fun i k hk => ?_)]
        unfold hx_fv
        split <;> simp [hM b hb, hN b hb]
      · rfl
theorem hx_putI {ci j : Nat} {v : Int32} (h : okI a ci j = true) : ∀ fs, hx S M N a = .inr (ci, fs) → j < fs.length ∧ 20 ≤ a ∧ ax_up (hx S M N) a (.inr (ci, fs.set j (.int v))) = hx S (ux M a j v) N := by
  intro fs hf
  obtain ⟨h20, ks, h1, h2⟩ := okI_spec h
  rw [hx_inr h20 h1] at hf
  cases hf
  refine ⟨by rw [hx_fs_len]; exact (List.getElem?_eq_some_iff.mp h2).1, h20, hx_other (fun b hb => ux_f hb) (fun _ _ => rfl) _ ?_⟩
  rw [hx_inr h20 h1, hx_fs_set (M := M) (N := N) (M2 := ux M a j v) (N2 := N) ks 0 j (1, 0) h2]
  · show Value.int (ux M a j v a (0 + j)) = _
    rw [Nat.zero_add, ux_s]
  · intro i q hi hq
    unfold hx_fv
    split
    · rfl
    · rw [Nat.zero_add, ux_j hi]
    · rfl
theorem hx_putL {ci j : Nat} {v : Int64} (h : okL a ci j = true) : ∀ fs, hx S M N a = .inr (ci, fs) → j < fs.length ∧ 20 ≤ a ∧ ax_up (hx S M N) a (.inr (ci, fs.set j (.long v))) = hx S M (ul N a j v) := by
  intro fs hf
  obtain ⟨h20, ks, h1, h2⟩ := okL_spec h
  rw [hx_inr h20 h1] at hf
  cases hf
  refine ⟨by rw [hx_fs_len]; exact (List.getElem?_eq_some_iff.mp h2).1, h20, hx_other (fun _ _ => rfl) (fun b hb => funext fun k => ul_a hb) _ ?_⟩
  rw [hx_inr h20 h1, hx_fs_set (M := M) (N := N) (M2 := M) (N2 := ul N a j v) ks 0 j (2, 0) h2]
  · show Value.long (ul N a j v a (0 + j)) = _
    rw [Nat.zero_add, ul_s]
  · intro i q hi hq
    unfold hx_fv
    split
    · rfl
    · rfl
    · rw [Nat.zero_add, ul_j hi]
theorem hx_isI {ci j : Nat} (h : okI a ci j = true) : isC (hx S M N) a ci = true := by
  obtain ⟨h20, ks, h1, -⟩ := okI_spec h
  unfold isC
  rw [hx_inr h20 h1]
  exact decide_eq_true rfl
theorem hx_isL {ci j : Nat} (h : okL a ci j = true) : isC (hx S M N) a ci = true := by
  obtain ⟨h20, ks, h1, -⟩ := okL_spec h
  unfold isC
  rw [hx_inr h20 h1]
  exact decide_eq_true rfl
def okA (a len : Nat) : Bool := decide (20 ≤ a) && decide (hx_tab[a - 20]? = some (.inl (0, len))) && decide (len < 1000)
theorem okA_spec {len : Nat} (h : okA a len = true) : 20 ≤ a ∧ hx_tab[a - 20]? = some (.inl (0, len)) ∧ len < 1000 := by
  unfold okA at h
  simp only [Bool.and_eq_true, decide_eq_true_eq] at h
  exact ⟨h.1.1, h.1.2, h.2⟩
theorem hx_alG {len k : Nat} (h : okA a len = true) (hk : k < len) : al (hx S M N) a (nI k) = some (M a k) := by
  obtain ⟨h20, h1, h2⟩ := okA_spec h
  have hk31 : k < 2 ^ 31 := by omega
  unfold al
  rw [hx_inl h20 h1]
  dsimp only
  rw [nI_clamp hk31, if_pos ⟨rfl, fun q => q.elim (fun z => nI_pos hk31 z) (fun z => by omega)⟩]
theorem hx_saG {len k : Nat} {v : Int32} (h : okA a len = true) (hk : k < len) : sa (hx S M N) a (nI k) v = some (hx S (ux M a k v) N) := by
  obtain ⟨h20, h1, h2⟩ := okA_spec h
  have hk31 : k < 2 ^ 31 := by omega
  unfold sa
  rw [hx_inl h20 h1]
  dsimp only
  rw [nI_clamp hk31, if_pos ⟨rfl, h20, fun q => q.elim (fun z => nI_pos hk31 z) (fun z => by omega)⟩]
  congr 1
  refine hx_other (fun b hb => ux_f hb) (fun _ _ => rfl) _ ?_
  rw [hx_inl h20 h1, ux_upd, ua_s]
theorem hx_anG {len : Nat} (h : okA a len = true) : an (hx S M N) a = some (nI len) := by
  obtain ⟨h20, h1, h2⟩ := okA_spec h
  unfold an
  rw [hx_inl h20 h1]
theorem hx_acp {b len : Nat} (h : okA a len = true) (h2 : okA b len = true) : acp (hx S M N) a 0 b 0 (nI len) = some (hx S (ua M b (va_cpy (M a) (M b) 0 0 len)) N) := by
  obtain ⟨a20, a1, a2⟩ := okA_spec h
  obtain ⟨b20, b1, b2⟩ := okA_spec h2
  have hk31 : len < 2 ^ 31 := by omega
  have h0 : (0 : Int32).toNatClampNeg = 0 := rfl
  unfold acp
  rw [hx_inl a20 a1, hx_inl b20 b1]
  dsimp only
  rw [nI_clamp hk31, h0, if_pos ⟨rfl, rfl, a20, b20, by decide, by decide, nI_pos hk31, by omega, by omega⟩]
  congr 1
  refine hx_other (fun c hc => ua_a hc) (fun _ _ => rfl) _ ?_
  rw [hx_inl b20 b1, ua_s]
theorem ic_20 : isC (hx S M N) 20 9 = true := rfl
theorem gf_20_0 : gf (hx S M N) 20 9 0 = some (.ref 21) := rfl
theorem gf_20_1 : gf (hx S M N) 20 9 1 = some (.ref 32) := rfl
theorem gf_20_2 : gf (hx S M N) 20 9 2 = some (.ref 43) := rfl
theorem gf_20_3 : gf (hx S M N) 20 9 3 = some (.ref 55) := rfl
theorem gf_20_4 : gf (hx S M N) 20 9 4 = some (.ref 67) := rfl
theorem gf_20_5 : gf (hx S M N) 20 9 5 = some (.ref 69) := rfl
theorem gf_20_6 : gf (hx S M N) 20 9 6 = some (.ref 72) := rfl
theorem gf_20_7 : gf (hx S M N) 20 9 7 = some (.ref 73) := rfl
theorem gf_20_8 : gf (hx S M N) 20 9 8 = some (.ref 77) := rfl
theorem gf_20_9 : gf (hx S M N) 20 9 9 = some (.ref 78) := rfl
theorem gf_20_10 : gf (hx S M N) 20 9 10 = some (.ref 83) := rfl
theorem gf_20_11 : gf (hx S M N) 20 9 11 = some (.long (N 20 11)) := rfl
theorem ok_20_11 : okL 20 9 11 = true := by decide +kernel
theorem gf_20_12 : gf (hx S M N) 20 9 12 = some (.long (N 20 12)) := rfl
theorem ok_20_12 : okL 20 9 12 = true := by decide +kernel
theorem gf_20_13 : gf (hx S M N) 20 9 13 = some (.int (M 20 13)) := rfl
theorem ok_20_13 : okI 20 9 13 = true := by decide +kernel
theorem gf_20_14 : gf (hx S M N) 20 9 14 = some (.int (M 20 14)) := rfl
theorem ok_20_14 : okI 20 9 14 = true := by decide +kernel
theorem gf_20_15 : gf (hx S M N) 20 9 15 = some (.int (M 20 15)) := rfl
theorem ok_20_15 : okI 20 9 15 = true := by decide +kernel
theorem ic_21 : isC (hx S M N) 21 0 = true := rfl
theorem gf_21_0 : gf (hx S M N) 21 0 0 = some (.ref 22) := rfl
theorem gf_21_1 : gf (hx S M N) 21 0 1 = some (.ref 24) := rfl
theorem gf_21_2 : gf (hx S M N) 21 0 2 = some (.ref 26) := rfl
theorem gf_21_3 : gf (hx S M N) 21 0 3 = some (.ref 28) := rfl
theorem gf_21_4 : gf (hx S M N) 21 0 4 = some (.ref 30) := rfl
theorem gf_21_5 : gf (hx S M N) 21 0 5 = some (.int (M 21 5)) := rfl
theorem ok_21_5 : okI 21 0 5 = true := by decide +kernel
theorem gf_21_6 : gf (hx S M N) 21 0 6 = some (.int (M 21 6)) := rfl
theorem ok_21_6 : okI 21 0 6 = true := by decide +kernel
theorem ic_22 : isC (hx S M N) 22 6 = true := rfl
theorem gf_22_0 : gf (hx S M N) 22 6 0 = some (.int (M 22 0)) := rfl
theorem ok_22_0 : okI 22 6 0 = true := by decide +kernel
theorem gf_22_1 : gf (hx S M N) 22 6 1 = some (.int (M 22 1)) := rfl
theorem ok_22_1 : okI 22 6 1 = true := by decide +kernel
theorem gf_22_2 : gf (hx S M N) 22 6 2 = some (.ref 23) := rfl
theorem gf_22_3 : gf (hx S M N) 22 6 3 = some (.int (M 22 3)) := rfl
theorem ok_22_3 : okI 22 6 3 = true := by decide +kernel
theorem oka_23 : okA 23 40 = true := by decide +kernel
theorem al_23 {k : Nat} (h : k < 40) : al (hx S M N) 23 (nI k) = some (M 23 k) := hx_alG oka_23 h
theorem sa_23 {k : Nat} {v : Int32} (h : k < 40) : sa (hx S M N) 23 (nI k) v = some (hx S (ux M 23 k v) N) := hx_saG oka_23 h
theorem an_23 : an (hx S M N) 23 = some (nI 40) := rfl
theorem ic_24 : isC (hx S M N) 24 6 = true := rfl
theorem gf_24_0 : gf (hx S M N) 24 6 0 = some (.int (M 24 0)) := rfl
theorem ok_24_0 : okI 24 6 0 = true := by decide +kernel
theorem gf_24_1 : gf (hx S M N) 24 6 1 = some (.int (M 24 1)) := rfl
theorem ok_24_1 : okI 24 6 1 = true := by decide +kernel
theorem gf_24_2 : gf (hx S M N) 24 6 2 = some (.ref 25) := rfl
theorem gf_24_3 : gf (hx S M N) 24 6 3 = some (.int (M 24 3)) := rfl
theorem ok_24_3 : okI 24 6 3 = true := by decide +kernel
theorem oka_25 : okA 25 25 = true := by decide +kernel
theorem al_25 {k : Nat} (h : k < 25) : al (hx S M N) 25 (nI k) = some (M 25 k) := hx_alG oka_25 h
theorem sa_25 {k : Nat} {v : Int32} (h : k < 25) : sa (hx S M N) 25 (nI k) v = some (hx S (ux M 25 k v) N) := hx_saG oka_25 h
theorem an_25 : an (hx S M N) 25 = some (nI 25) := rfl
theorem ic_26 : isC (hx S M N) 26 6 = true := rfl
theorem gf_26_0 : gf (hx S M N) 26 6 0 = some (.int (M 26 0)) := rfl
theorem ok_26_0 : okI 26 6 0 = true := by decide +kernel
theorem gf_26_1 : gf (hx S M N) 26 6 1 = some (.int (M 26 1)) := rfl
theorem ok_26_1 : okI 26 6 1 = true := by decide +kernel
theorem gf_26_2 : gf (hx S M N) 26 6 2 = some (.ref 27) := rfl
theorem gf_26_3 : gf (hx S M N) 26 6 3 = some (.int (M 26 3)) := rfl
theorem ok_26_3 : okI 26 6 3 = true := by decide +kernel
theorem oka_27 : okA 27 36 = true := by decide +kernel
theorem al_27 {k : Nat} (h : k < 36) : al (hx S M N) 27 (nI k) = some (M 27 k) := hx_alG oka_27 h
theorem sa_27 {k : Nat} {v : Int32} (h : k < 36) : sa (hx S M N) 27 (nI k) v = some (hx S (ux M 27 k v) N) := hx_saG oka_27 h
theorem an_27 : an (hx S M N) 27 = some (nI 36) := rfl
theorem ic_28 : isC (hx S M N) 28 6 = true := rfl
theorem gf_28_0 : gf (hx S M N) 28 6 0 = some (.int (M 28 0)) := rfl
theorem ok_28_0 : okI 28 6 0 = true := by decide +kernel
theorem gf_28_1 : gf (hx S M N) 28 6 1 = some (.int (M 28 1)) := rfl
theorem ok_28_1 : okI 28 6 1 = true := by decide +kernel
theorem gf_28_2 : gf (hx S M N) 28 6 2 = some (.ref 29) := rfl
theorem gf_28_3 : gf (hx S M N) 28 6 3 = some (.int (M 28 3)) := rfl
theorem ok_28_3 : okI 28 6 3 = true := by decide +kernel
theorem oka_29 : okA 29 8 = true := by decide +kernel
theorem al_29 {k : Nat} (h : k < 8) : al (hx S M N) 29 (nI k) = some (M 29 k) := hx_alG oka_29 h
theorem sa_29 {k : Nat} {v : Int32} (h : k < 8) : sa (hx S M N) 29 (nI k) v = some (hx S (ux M 29 k v) N) := hx_saG oka_29 h
theorem an_29 : an (hx S M N) 29 = some (nI 8) := rfl
theorem ic_30 : isC (hx S M N) 30 6 = true := rfl
theorem gf_30_0 : gf (hx S M N) 30 6 0 = some (.int (M 30 0)) := rfl
theorem ok_30_0 : okI 30 6 0 = true := by decide +kernel
theorem gf_30_1 : gf (hx S M N) 30 6 1 = some (.int (M 30 1)) := rfl
theorem ok_30_1 : okI 30 6 1 = true := by decide +kernel
theorem gf_30_2 : gf (hx S M N) 30 6 2 = some (.ref 31) := rfl
theorem gf_30_3 : gf (hx S M N) 30 6 3 = some (.int (M 30 3)) := rfl
theorem ok_30_3 : okI 30 6 3 = true := by decide +kernel
theorem oka_31 : okA 31 66 = true := by decide +kernel
theorem al_31 {k : Nat} (h : k < 66) : al (hx S M N) 31 (nI k) = some (M 31 k) := hx_alG oka_31 h
theorem sa_31 {k : Nat} {v : Int32} (h : k < 66) : sa (hx S M N) 31 (nI k) v = some (hx S (ux M 31 k v) N) := hx_saG oka_31 h
theorem an_31 : an (hx S M N) 31 = some (nI 66) := rfl
theorem ic_32 : isC (hx S M N) 32 0 = true := rfl
theorem gf_32_0 : gf (hx S M N) 32 0 0 = some (.ref 33) := rfl
theorem gf_32_1 : gf (hx S M N) 32 0 1 = some (.ref 35) := rfl
theorem gf_32_2 : gf (hx S M N) 32 0 2 = some (.ref 37) := rfl
theorem gf_32_3 : gf (hx S M N) 32 0 3 = some (.ref 39) := rfl
theorem gf_32_4 : gf (hx S M N) 32 0 4 = some (.ref 41) := rfl
theorem gf_32_5 : gf (hx S M N) 32 0 5 = some (.int (M 32 5)) := rfl
theorem ok_32_5 : okI 32 0 5 = true := by decide +kernel
theorem gf_32_6 : gf (hx S M N) 32 0 6 = some (.int (M 32 6)) := rfl
theorem ok_32_6 : okI 32 0 6 = true := by decide +kernel
theorem ic_33 : isC (hx S M N) 33 6 = true := rfl
theorem gf_33_0 : gf (hx S M N) 33 6 0 = some (.int (M 33 0)) := rfl
theorem ok_33_0 : okI 33 6 0 = true := by decide +kernel
theorem gf_33_1 : gf (hx S M N) 33 6 1 = some (.int (M 33 1)) := rfl
theorem ok_33_1 : okI 33 6 1 = true := by decide +kernel
theorem gf_33_2 : gf (hx S M N) 33 6 2 = some (.ref 34) := rfl
theorem gf_33_3 : gf (hx S M N) 33 6 3 = some (.int (M 33 3)) := rfl
theorem ok_33_3 : okI 33 6 3 = true := by decide +kernel
theorem oka_34 : okA 34 40 = true := by decide +kernel
theorem al_34 {k : Nat} (h : k < 40) : al (hx S M N) 34 (nI k) = some (M 34 k) := hx_alG oka_34 h
theorem sa_34 {k : Nat} {v : Int32} (h : k < 40) : sa (hx S M N) 34 (nI k) v = some (hx S (ux M 34 k v) N) := hx_saG oka_34 h
theorem an_34 : an (hx S M N) 34 = some (nI 40) := rfl
theorem ic_35 : isC (hx S M N) 35 6 = true := rfl
theorem gf_35_0 : gf (hx S M N) 35 6 0 = some (.int (M 35 0)) := rfl
theorem ok_35_0 : okI 35 6 0 = true := by decide +kernel
theorem gf_35_1 : gf (hx S M N) 35 6 1 = some (.int (M 35 1)) := rfl
theorem ok_35_1 : okI 35 6 1 = true := by decide +kernel
theorem gf_35_2 : gf (hx S M N) 35 6 2 = some (.ref 36) := rfl
theorem gf_35_3 : gf (hx S M N) 35 6 3 = some (.int (M 35 3)) := rfl
theorem ok_35_3 : okI 35 6 3 = true := by decide +kernel
theorem oka_36 : okA 36 25 = true := by decide +kernel
theorem al_36 {k : Nat} (h : k < 25) : al (hx S M N) 36 (nI k) = some (M 36 k) := hx_alG oka_36 h
theorem sa_36 {k : Nat} {v : Int32} (h : k < 25) : sa (hx S M N) 36 (nI k) v = some (hx S (ux M 36 k v) N) := hx_saG oka_36 h
theorem an_36 : an (hx S M N) 36 = some (nI 25) := rfl
theorem ic_37 : isC (hx S M N) 37 6 = true := rfl
theorem gf_37_0 : gf (hx S M N) 37 6 0 = some (.int (M 37 0)) := rfl
theorem ok_37_0 : okI 37 6 0 = true := by decide +kernel
theorem gf_37_1 : gf (hx S M N) 37 6 1 = some (.int (M 37 1)) := rfl
theorem ok_37_1 : okI 37 6 1 = true := by decide +kernel
theorem gf_37_2 : gf (hx S M N) 37 6 2 = some (.ref 38) := rfl
theorem gf_37_3 : gf (hx S M N) 37 6 3 = some (.int (M 37 3)) := rfl
theorem ok_37_3 : okI 37 6 3 = true := by decide +kernel
theorem oka_38 : okA 38 36 = true := by decide +kernel
theorem al_38 {k : Nat} (h : k < 36) : al (hx S M N) 38 (nI k) = some (M 38 k) := hx_alG oka_38 h
theorem sa_38 {k : Nat} {v : Int32} (h : k < 36) : sa (hx S M N) 38 (nI k) v = some (hx S (ux M 38 k v) N) := hx_saG oka_38 h
theorem an_38 : an (hx S M N) 38 = some (nI 36) := rfl
theorem ic_39 : isC (hx S M N) 39 6 = true := rfl
theorem gf_39_0 : gf (hx S M N) 39 6 0 = some (.int (M 39 0)) := rfl
theorem ok_39_0 : okI 39 6 0 = true := by decide +kernel
theorem gf_39_1 : gf (hx S M N) 39 6 1 = some (.int (M 39 1)) := rfl
theorem ok_39_1 : okI 39 6 1 = true := by decide +kernel
theorem gf_39_2 : gf (hx S M N) 39 6 2 = some (.ref 40) := rfl
theorem gf_39_3 : gf (hx S M N) 39 6 3 = some (.int (M 39 3)) := rfl
theorem ok_39_3 : okI 39 6 3 = true := by decide +kernel
theorem oka_40 : okA 40 8 = true := by decide +kernel
theorem al_40 {k : Nat} (h : k < 8) : al (hx S M N) 40 (nI k) = some (M 40 k) := hx_alG oka_40 h
theorem sa_40 {k : Nat} {v : Int32} (h : k < 8) : sa (hx S M N) 40 (nI k) v = some (hx S (ux M 40 k v) N) := hx_saG oka_40 h
theorem an_40 : an (hx S M N) 40 = some (nI 8) := rfl
theorem ic_41 : isC (hx S M N) 41 6 = true := rfl
theorem gf_41_0 : gf (hx S M N) 41 6 0 = some (.int (M 41 0)) := rfl
theorem ok_41_0 : okI 41 6 0 = true := by decide +kernel
theorem gf_41_1 : gf (hx S M N) 41 6 1 = some (.int (M 41 1)) := rfl
theorem ok_41_1 : okI 41 6 1 = true := by decide +kernel
theorem gf_41_2 : gf (hx S M N) 41 6 2 = some (.ref 42) := rfl
theorem gf_41_3 : gf (hx S M N) 41 6 3 = some (.int (M 41 3)) := rfl
theorem ok_41_3 : okI 41 6 3 = true := by decide +kernel
theorem oka_42 : okA 42 66 = true := by decide +kernel
theorem al_42 {k : Nat} (h : k < 66) : al (hx S M N) 42 (nI k) = some (M 42 k) := hx_alG oka_42 h
theorem sa_42 {k : Nat} {v : Int32} (h : k < 66) : sa (hx S M N) 42 (nI k) v = some (hx S (ux M 42 k v) N) := hx_saG oka_42 h
theorem an_42 : an (hx S M N) 42 = some (nI 66) := rfl
theorem ic_43 : isC (hx S M N) 43 2 = true := rfl
theorem gf_43_0 : gf (hx S M N) 43 2 0 = some (.ref 44) := rfl
theorem gf_43_1 : gf (hx S M N) 43 2 1 = some (.int (M 43 1)) := rfl
theorem ok_43_1 : okI 43 2 1 = true := by decide +kernel
theorem ic_44 : isC (hx S M N) 44 0 = true := rfl
theorem gf_44_0 : gf (hx S M N) 44 0 0 = some (.ref 45) := rfl
theorem gf_44_1 : gf (hx S M N) 44 0 1 = some (.ref 47) := rfl
theorem gf_44_2 : gf (hx S M N) 44 0 2 = some (.ref 49) := rfl
theorem gf_44_3 : gf (hx S M N) 44 0 3 = some (.ref 51) := rfl
theorem gf_44_4 : gf (hx S M N) 44 0 4 = some (.ref 53) := rfl
theorem gf_44_5 : gf (hx S M N) 44 0 5 = some (.int (M 44 5)) := rfl
theorem ok_44_5 : okI 44 0 5 = true := by decide +kernel
theorem gf_44_6 : gf (hx S M N) 44 0 6 = some (.int (M 44 6)) := rfl
theorem ok_44_6 : okI 44 0 6 = true := by decide +kernel
theorem ic_45 : isC (hx S M N) 45 6 = true := rfl
theorem gf_45_0 : gf (hx S M N) 45 6 0 = some (.int (M 45 0)) := rfl
theorem ok_45_0 : okI 45 6 0 = true := by decide +kernel
theorem gf_45_1 : gf (hx S M N) 45 6 1 = some (.int (M 45 1)) := rfl
theorem ok_45_1 : okI 45 6 1 = true := by decide +kernel
theorem gf_45_2 : gf (hx S M N) 45 6 2 = some (.ref 46) := rfl
theorem gf_45_3 : gf (hx S M N) 45 6 3 = some (.int (M 45 3)) := rfl
theorem ok_45_3 : okI 45 6 3 = true := by decide +kernel
theorem oka_46 : okA 46 40 = true := by decide +kernel
theorem al_46 {k : Nat} (h : k < 40) : al (hx S M N) 46 (nI k) = some (M 46 k) := hx_alG oka_46 h
theorem sa_46 {k : Nat} {v : Int32} (h : k < 40) : sa (hx S M N) 46 (nI k) v = some (hx S (ux M 46 k v) N) := hx_saG oka_46 h
theorem an_46 : an (hx S M N) 46 = some (nI 40) := rfl
theorem ic_47 : isC (hx S M N) 47 6 = true := rfl
theorem gf_47_0 : gf (hx S M N) 47 6 0 = some (.int (M 47 0)) := rfl
theorem ok_47_0 : okI 47 6 0 = true := by decide +kernel
theorem gf_47_1 : gf (hx S M N) 47 6 1 = some (.int (M 47 1)) := rfl
theorem ok_47_1 : okI 47 6 1 = true := by decide +kernel
theorem gf_47_2 : gf (hx S M N) 47 6 2 = some (.ref 48) := rfl
theorem gf_47_3 : gf (hx S M N) 47 6 3 = some (.int (M 47 3)) := rfl
theorem ok_47_3 : okI 47 6 3 = true := by decide +kernel
theorem oka_48 : okA 48 25 = true := by decide +kernel
theorem al_48 {k : Nat} (h : k < 25) : al (hx S M N) 48 (nI k) = some (M 48 k) := hx_alG oka_48 h
theorem sa_48 {k : Nat} {v : Int32} (h : k < 25) : sa (hx S M N) 48 (nI k) v = some (hx S (ux M 48 k v) N) := hx_saG oka_48 h
theorem an_48 : an (hx S M N) 48 = some (nI 25) := rfl
theorem ic_49 : isC (hx S M N) 49 6 = true := rfl
theorem gf_49_0 : gf (hx S M N) 49 6 0 = some (.int (M 49 0)) := rfl
theorem ok_49_0 : okI 49 6 0 = true := by decide +kernel
theorem gf_49_1 : gf (hx S M N) 49 6 1 = some (.int (M 49 1)) := rfl
theorem ok_49_1 : okI 49 6 1 = true := by decide +kernel
theorem gf_49_2 : gf (hx S M N) 49 6 2 = some (.ref 50) := rfl
theorem gf_49_3 : gf (hx S M N) 49 6 3 = some (.int (M 49 3)) := rfl
theorem ok_49_3 : okI 49 6 3 = true := by decide +kernel
theorem oka_50 : okA 50 36 = true := by decide +kernel
theorem al_50 {k : Nat} (h : k < 36) : al (hx S M N) 50 (nI k) = some (M 50 k) := hx_alG oka_50 h
theorem sa_50 {k : Nat} {v : Int32} (h : k < 36) : sa (hx S M N) 50 (nI k) v = some (hx S (ux M 50 k v) N) := hx_saG oka_50 h
theorem an_50 : an (hx S M N) 50 = some (nI 36) := rfl
theorem ic_51 : isC (hx S M N) 51 6 = true := rfl
theorem gf_51_0 : gf (hx S M N) 51 6 0 = some (.int (M 51 0)) := rfl
theorem ok_51_0 : okI 51 6 0 = true := by decide +kernel
theorem gf_51_1 : gf (hx S M N) 51 6 1 = some (.int (M 51 1)) := rfl
theorem ok_51_1 : okI 51 6 1 = true := by decide +kernel
theorem gf_51_2 : gf (hx S M N) 51 6 2 = some (.ref 52) := rfl
theorem gf_51_3 : gf (hx S M N) 51 6 3 = some (.int (M 51 3)) := rfl
theorem ok_51_3 : okI 51 6 3 = true := by decide +kernel
theorem oka_52 : okA 52 8 = true := by decide +kernel
theorem al_52 {k : Nat} (h : k < 8) : al (hx S M N) 52 (nI k) = some (M 52 k) := hx_alG oka_52 h
theorem sa_52 {k : Nat} {v : Int32} (h : k < 8) : sa (hx S M N) 52 (nI k) v = some (hx S (ux M 52 k v) N) := hx_saG oka_52 h
theorem an_52 : an (hx S M N) 52 = some (nI 8) := rfl
theorem ic_53 : isC (hx S M N) 53 6 = true := rfl
theorem gf_53_0 : gf (hx S M N) 53 6 0 = some (.int (M 53 0)) := rfl
theorem ok_53_0 : okI 53 6 0 = true := by decide +kernel
theorem gf_53_1 : gf (hx S M N) 53 6 1 = some (.int (M 53 1)) := rfl
theorem ok_53_1 : okI 53 6 1 = true := by decide +kernel
theorem gf_53_2 : gf (hx S M N) 53 6 2 = some (.ref 54) := rfl
theorem gf_53_3 : gf (hx S M N) 53 6 3 = some (.int (M 53 3)) := rfl
theorem ok_53_3 : okI 53 6 3 = true := by decide +kernel
theorem oka_54 : okA 54 66 = true := by decide +kernel
theorem al_54 {k : Nat} (h : k < 66) : al (hx S M N) 54 (nI k) = some (M 54 k) := hx_alG oka_54 h
theorem sa_54 {k : Nat} {v : Int32} (h : k < 66) : sa (hx S M N) 54 (nI k) v = some (hx S (ux M 54 k v) N) := hx_saG oka_54 h
theorem an_54 : an (hx S M N) 54 = some (nI 66) := rfl
theorem ic_55 : isC (hx S M N) 55 2 = true := rfl
theorem gf_55_0 : gf (hx S M N) 55 2 0 = some (.ref 56) := rfl
theorem gf_55_1 : gf (hx S M N) 55 2 1 = some (.int (M 55 1)) := rfl
theorem ok_55_1 : okI 55 2 1 = true := by decide +kernel
theorem ic_56 : isC (hx S M N) 56 0 = true := rfl
theorem gf_56_0 : gf (hx S M N) 56 0 0 = some (.ref 57) := rfl
theorem gf_56_1 : gf (hx S M N) 56 0 1 = some (.ref 59) := rfl
theorem gf_56_2 : gf (hx S M N) 56 0 2 = some (.ref 61) := rfl
theorem gf_56_3 : gf (hx S M N) 56 0 3 = some (.ref 63) := rfl
theorem gf_56_4 : gf (hx S M N) 56 0 4 = some (.ref 65) := rfl
theorem gf_56_5 : gf (hx S M N) 56 0 5 = some (.int (M 56 5)) := rfl
theorem ok_56_5 : okI 56 0 5 = true := by decide +kernel
theorem gf_56_6 : gf (hx S M N) 56 0 6 = some (.int (M 56 6)) := rfl
theorem ok_56_6 : okI 56 0 6 = true := by decide +kernel
theorem ic_57 : isC (hx S M N) 57 6 = true := rfl
theorem gf_57_0 : gf (hx S M N) 57 6 0 = some (.int (M 57 0)) := rfl
theorem ok_57_0 : okI 57 6 0 = true := by decide +kernel
theorem gf_57_1 : gf (hx S M N) 57 6 1 = some (.int (M 57 1)) := rfl
theorem ok_57_1 : okI 57 6 1 = true := by decide +kernel
theorem gf_57_2 : gf (hx S M N) 57 6 2 = some (.ref 58) := rfl
theorem gf_57_3 : gf (hx S M N) 57 6 3 = some (.int (M 57 3)) := rfl
theorem ok_57_3 : okI 57 6 3 = true := by decide +kernel
theorem oka_58 : okA 58 40 = true := by decide +kernel
theorem al_58 {k : Nat} (h : k < 40) : al (hx S M N) 58 (nI k) = some (M 58 k) := hx_alG oka_58 h
theorem sa_58 {k : Nat} {v : Int32} (h : k < 40) : sa (hx S M N) 58 (nI k) v = some (hx S (ux M 58 k v) N) := hx_saG oka_58 h
theorem an_58 : an (hx S M N) 58 = some (nI 40) := rfl
theorem ic_59 : isC (hx S M N) 59 6 = true := rfl
theorem gf_59_0 : gf (hx S M N) 59 6 0 = some (.int (M 59 0)) := rfl
theorem ok_59_0 : okI 59 6 0 = true := by decide +kernel
theorem gf_59_1 : gf (hx S M N) 59 6 1 = some (.int (M 59 1)) := rfl
theorem ok_59_1 : okI 59 6 1 = true := by decide +kernel
theorem gf_59_2 : gf (hx S M N) 59 6 2 = some (.ref 60) := rfl
theorem gf_59_3 : gf (hx S M N) 59 6 3 = some (.int (M 59 3)) := rfl
theorem ok_59_3 : okI 59 6 3 = true := by decide +kernel
theorem oka_60 : okA 60 25 = true := by decide +kernel
theorem al_60 {k : Nat} (h : k < 25) : al (hx S M N) 60 (nI k) = some (M 60 k) := hx_alG oka_60 h
theorem sa_60 {k : Nat} {v : Int32} (h : k < 25) : sa (hx S M N) 60 (nI k) v = some (hx S (ux M 60 k v) N) := hx_saG oka_60 h
theorem an_60 : an (hx S M N) 60 = some (nI 25) := rfl
theorem ic_61 : isC (hx S M N) 61 6 = true := rfl
theorem gf_61_0 : gf (hx S M N) 61 6 0 = some (.int (M 61 0)) := rfl
theorem ok_61_0 : okI 61 6 0 = true := by decide +kernel
theorem gf_61_1 : gf (hx S M N) 61 6 1 = some (.int (M 61 1)) := rfl
theorem ok_61_1 : okI 61 6 1 = true := by decide +kernel
theorem gf_61_2 : gf (hx S M N) 61 6 2 = some (.ref 62) := rfl
theorem gf_61_3 : gf (hx S M N) 61 6 3 = some (.int (M 61 3)) := rfl
theorem ok_61_3 : okI 61 6 3 = true := by decide +kernel
theorem oka_62 : okA 62 36 = true := by decide +kernel
theorem al_62 {k : Nat} (h : k < 36) : al (hx S M N) 62 (nI k) = some (M 62 k) := hx_alG oka_62 h
theorem sa_62 {k : Nat} {v : Int32} (h : k < 36) : sa (hx S M N) 62 (nI k) v = some (hx S (ux M 62 k v) N) := hx_saG oka_62 h
theorem an_62 : an (hx S M N) 62 = some (nI 36) := rfl
theorem ic_63 : isC (hx S M N) 63 6 = true := rfl
theorem gf_63_0 : gf (hx S M N) 63 6 0 = some (.int (M 63 0)) := rfl
theorem ok_63_0 : okI 63 6 0 = true := by decide +kernel
theorem gf_63_1 : gf (hx S M N) 63 6 1 = some (.int (M 63 1)) := rfl
theorem ok_63_1 : okI 63 6 1 = true := by decide +kernel
theorem gf_63_2 : gf (hx S M N) 63 6 2 = some (.ref 64) := rfl
theorem gf_63_3 : gf (hx S M N) 63 6 3 = some (.int (M 63 3)) := rfl
theorem ok_63_3 : okI 63 6 3 = true := by decide +kernel
theorem oka_64 : okA 64 8 = true := by decide +kernel
theorem al_64 {k : Nat} (h : k < 8) : al (hx S M N) 64 (nI k) = some (M 64 k) := hx_alG oka_64 h
theorem sa_64 {k : Nat} {v : Int32} (h : k < 8) : sa (hx S M N) 64 (nI k) v = some (hx S (ux M 64 k v) N) := hx_saG oka_64 h
theorem an_64 : an (hx S M N) 64 = some (nI 8) := rfl
theorem ic_65 : isC (hx S M N) 65 6 = true := rfl
theorem gf_65_0 : gf (hx S M N) 65 6 0 = some (.int (M 65 0)) := rfl
theorem ok_65_0 : okI 65 6 0 = true := by decide +kernel
theorem gf_65_1 : gf (hx S M N) 65 6 1 = some (.int (M 65 1)) := rfl
theorem ok_65_1 : okI 65 6 1 = true := by decide +kernel
theorem gf_65_2 : gf (hx S M N) 65 6 2 = some (.ref 66) := rfl
theorem gf_65_3 : gf (hx S M N) 65 6 3 = some (.int (M 65 3)) := rfl
theorem ok_65_3 : okI 65 6 3 = true := by decide +kernel
theorem oka_66 : okA 66 66 = true := by decide +kernel
theorem al_66 {k : Nat} (h : k < 66) : al (hx S M N) 66 (nI k) = some (M 66 k) := hx_alG oka_66 h
theorem sa_66 {k : Nat} {v : Int32} (h : k < 66) : sa (hx S M N) 66 (nI k) v = some (hx S (ux M 66 k v) N) := hx_saG oka_66 h
theorem an_66 : an (hx S M N) 66 = some (nI 66) := rfl
theorem ic_67 : isC (hx S M N) 67 6 = true := rfl
theorem gf_67_0 : gf (hx S M N) 67 6 0 = some (.int (M 67 0)) := rfl
theorem ok_67_0 : okI 67 6 0 = true := by decide +kernel
theorem gf_67_1 : gf (hx S M N) 67 6 1 = some (.int (M 67 1)) := rfl
theorem ok_67_1 : okI 67 6 1 = true := by decide +kernel
theorem gf_67_2 : gf (hx S M N) 67 6 2 = some (.ref 68) := rfl
theorem gf_67_3 : gf (hx S M N) 67 6 3 = some (.int (M 67 3)) := rfl
theorem ok_67_3 : okI 67 6 3 = true := by decide +kernel
theorem oka_68 : okA 68 150 = true := by decide +kernel
theorem al_68 {k : Nat} (h : k < 150) : al (hx S M N) 68 (nI k) = some (M 68 k) := hx_alG oka_68 h
theorem sa_68 {k : Nat} {v : Int32} (h : k < 150) : sa (hx S M N) 68 (nI k) v = some (hx S (ux M 68 k v) N) := hx_saG oka_68 h
theorem an_68 : an (hx S M N) 68 = some (nI 150) := rfl
theorem ic_69 : isC (hx S M N) 69 5 = true := rfl
theorem gf_69_0 : gf (hx S M N) 69 5 0 = some (.ref 67) := rfl
theorem gf_69_1 : gf (hx S M N) 69 5 1 = some (.ref 70) := rfl
theorem gf_69_2 : gf (hx S M N) 69 5 2 = some (.int (M 69 2)) := rfl
theorem ok_69_2 : okI 69 5 2 = true := by decide +kernel
theorem gf_69_3 : gf (hx S M N) 69 5 3 = some (.int (M 69 3)) := rfl
theorem ok_69_3 : okI 69 5 3 = true := by decide +kernel
theorem gf_69_4 : gf (hx S M N) 69 5 4 = some (.int (M 69 4)) := rfl
theorem ok_69_4 : okI 69 5 4 = true := by decide +kernel
theorem gf_69_5 : gf (hx S M N) 69 5 5 = some (.int (M 69 5)) := rfl
theorem ok_69_5 : okI 69 5 5 = true := by decide +kernel
theorem ic_70 : isC (hx S M N) 70 6 = true := rfl
theorem gf_70_0 : gf (hx S M N) 70 6 0 = some (.int (M 70 0)) := rfl
theorem ok_70_0 : okI 70 6 0 = true := by decide +kernel
theorem gf_70_1 : gf (hx S M N) 70 6 1 = some (.int (M 70 1)) := rfl
theorem ok_70_1 : okI 70 6 1 = true := by decide +kernel
theorem gf_70_2 : gf (hx S M N) 70 6 2 = some (.ref 71) := rfl
theorem gf_70_3 : gf (hx S M N) 70 6 3 = some (.int (M 70 3)) := rfl
theorem ok_70_3 : okI 70 6 3 = true := by decide +kernel
theorem oka_71 : okA 71 5 = true := by decide +kernel
theorem al_71 {k : Nat} (h : k < 5) : al (hx S M N) 71 (nI k) = some (M 71 k) := hx_alG oka_71 h
theorem sa_71 {k : Nat} {v : Int32} (h : k < 5) : sa (hx S M N) 71 (nI k) v = some (hx S (ux M 71 k v) N) := hx_saG oka_71 h
theorem an_71 : an (hx S M N) 71 = some (nI 5) := rfl
theorem ic_72 : isC (hx S M N) 72 1 = true := rfl
theorem gf_72_0 : gf (hx S M N) 72 1 0 = some (.ref 21) := rfl
theorem gf_72_1 : gf (hx S M N) 72 1 1 = some (.int (M 72 1)) := rfl
theorem ok_72_1 : okI 72 1 1 = true := by decide +kernel
theorem gf_72_2 : gf (hx S M N) 72 1 2 = some (.int (M 72 2)) := rfl
theorem ok_72_2 : okI 72 1 2 = true := by decide +kernel
theorem gf_72_3 : gf (hx S M N) 72 1 3 = some (.int (M 72 3)) := rfl
theorem ok_72_3 : okI 72 1 3 = true := by decide +kernel
theorem ic_73 : isC (hx S M N) 73 8 = true := rfl
theorem gf_73_0 : gf (hx S M N) 73 8 0 = some (.ref 21) := rfl
theorem gf_73_1 : gf (hx S M N) 73 8 1 = some (.ref 76) := rfl
theorem gf_73_2 : gf (hx S M N) 73 8 2 = some (.ref 74) := rfl
theorem gf_73_3 : gf (hx S M N) 73 8 3 = some (.int (M 73 3)) := rfl
theorem ok_73_3 : okI 73 8 3 = true := by decide +kernel
theorem ic_74 : isC (hx S M N) 74 6 = true := rfl
theorem gf_74_0 : gf (hx S M N) 74 6 0 = some (.int (M 74 0)) := rfl
theorem ok_74_0 : okI 74 6 0 = true := by decide +kernel
theorem gf_74_1 : gf (hx S M N) 74 6 1 = some (.int (M 74 1)) := rfl
theorem ok_74_1 : okI 74 6 1 = true := by decide +kernel
theorem gf_74_2 : gf (hx S M N) 74 6 2 = some (.ref 75) := rfl
theorem gf_74_3 : gf (hx S M N) 74 6 3 = some (.int (M 74 3)) := rfl
theorem ok_74_3 : okI 74 6 3 = true := by decide +kernel
theorem oka_75 : okA 75 16 = true := by decide +kernel
theorem al_75 {k : Nat} (h : k < 16) : al (hx S M N) 75 (nI k) = some (M 75 k) := hx_alG oka_75 h
theorem sa_75 {k : Nat} {v : Int32} (h : k < 16) : sa (hx S M N) 75 (nI k) v = some (hx S (ux M 75 k v) N) := hx_saG oka_75 h
theorem an_75 : an (hx S M N) 75 = some (nI 16) := rfl
theorem ic_76 : isC (hx S M N) 76 1 = true := rfl
theorem gf_76_0 : gf (hx S M N) 76 1 0 = some (.ref 21) := rfl
theorem gf_76_1 : gf (hx S M N) 76 1 1 = some (.int (M 76 1)) := rfl
theorem ok_76_1 : okI 76 1 1 = true := by decide +kernel
theorem gf_76_2 : gf (hx S M N) 76 1 2 = some (.int (M 76 2)) := rfl
theorem ok_76_2 : okI 76 1 2 = true := by decide +kernel
theorem gf_76_3 : gf (hx S M N) 76 1 3 = some (.int (M 76 3)) := rfl
theorem ok_76_3 : okI 76 1 3 = true := by decide +kernel
theorem ic_77 : isC (hx S M N) 77 4 = true := rfl
theorem gf_77_0 : gf (hx S M N) 77 4 0 = some (.ref 21) := rfl
theorem gf_77_1 : gf (hx S M N) 77 4 1 = some (.int (M 77 1)) := rfl
theorem ok_77_1 : okI 77 4 1 = true := by decide +kernel
theorem gf_77_2 : gf (hx S M N) 77 4 2 = some (.int (M 77 2)) := rfl
theorem ok_77_2 : okI 77 4 2 = true := by decide +kernel
theorem ic_78 : isC (hx S M N) 78 3 = true := rfl
theorem gf_78_0 : gf (hx S M N) 78 3 0 = some (.ref 21) := rfl
theorem gf_78_1 : gf (hx S M N) 78 3 1 = some (.ref 79) := rfl
theorem gf_78_2 : gf (hx S M N) 78 3 2 = some (.ref 81) := rfl
theorem gf_78_3 : gf (hx S M N) 78 3 3 = some (.int (M 78 3)) := rfl
theorem ok_78_3 : okI 78 3 3 = true := by decide +kernel
theorem ic_79 : isC (hx S M N) 79 6 = true := rfl
theorem gf_79_0 : gf (hx S M N) 79 6 0 = some (.int (M 79 0)) := rfl
theorem ok_79_0 : okI 79 6 0 = true := by decide +kernel
theorem gf_79_1 : gf (hx S M N) 79 6 1 = some (.int (M 79 1)) := rfl
theorem ok_79_1 : okI 79 6 1 = true := by decide +kernel
theorem gf_79_2 : gf (hx S M N) 79 6 2 = some (.ref 80) := rfl
theorem gf_79_3 : gf (hx S M N) 79 6 3 = some (.int (M 79 3)) := rfl
theorem ok_79_3 : okI 79 6 3 = true := by decide +kernel
theorem oka_80 : okA 80 4 = true := by decide +kernel
theorem al_80 {k : Nat} (h : k < 4) : al (hx S M N) 80 (nI k) = some (M 80 k) := hx_alG oka_80 h
theorem sa_80 {k : Nat} {v : Int32} (h : k < 4) : sa (hx S M N) 80 (nI k) v = some (hx S (ux M 80 k v) N) := hx_saG oka_80 h
theorem an_80 : an (hx S M N) 80 = some (nI 4) := rfl
theorem ic_81 : isC (hx S M N) 81 6 = true := rfl
theorem gf_81_0 : gf (hx S M N) 81 6 0 = some (.int (M 81 0)) := rfl
theorem ok_81_0 : okI 81 6 0 = true := by decide +kernel
theorem gf_81_1 : gf (hx S M N) 81 6 1 = some (.int (M 81 1)) := rfl
theorem ok_81_1 : okI 81 6 1 = true := by decide +kernel
theorem gf_81_2 : gf (hx S M N) 81 6 2 = some (.ref 82) := rfl
theorem gf_81_3 : gf (hx S M N) 81 6 3 = some (.int (M 81 3)) := rfl
theorem ok_81_3 : okI 81 6 3 = true := by decide +kernel
theorem oka_82 : okA 82 4 = true := by decide +kernel
theorem al_82 {k : Nat} (h : k < 4) : al (hx S M N) 82 (nI k) = some (M 82 k) := hx_alG oka_82 h
theorem sa_82 {k : Nat} {v : Int32} (h : k < 4) : sa (hx S M N) 82 (nI k) v = some (hx S (ux M 82 k v) N) := hx_saG oka_82 h
theorem an_82 : an (hx S M N) 82 = some (nI 4) := rfl
theorem ic_83 : isC (hx S M N) 83 7 = true := rfl
theorem gf_83_0 : gf (hx S M N) 83 7 0 = some (.int (M 83 0)) := rfl
theorem ok_83_0 : okI 83 7 0 = true := by decide +kernel
theorem gf_83_1 : gf (hx S M N) 83 7 1 = some (.int (M 83 1)) := rfl
theorem ok_83_1 : okI 83 7 1 = true := by decide +kernel
theorem ic_84 : isC (hx S M N) 84 10 = true := rfl
theorem gf_84_0 : gf (hx S M N) 84 10 0 = some (.ref 85) := rfl
theorem gf_84_1 : gf (hx S M N) 84 10 1 = some (.ref 86) := rfl
theorem gf_84_2 : gf (hx S M N) 84 10 2 = some (.ref 87) := rfl
theorem gf_84_3 : gf (hx S M N) 84 10 3 = some (.ref 88) := rfl
theorem gf_84_4 : gf (hx S M N) 84 10 4 = some (.long (N 84 4)) := rfl
theorem ok_84_4 : okL 84 10 4 = true := by decide +kernel
theorem gf_84_5 : gf (hx S M N) 84 10 5 = some (.long (N 84 5)) := rfl
theorem ok_84_5 : okL 84 10 5 = true := by decide +kernel
theorem gf_84_6 : gf (hx S M N) 84 10 6 = some (.int (M 84 6)) := rfl
theorem ok_84_6 : okI 84 10 6 = true := by decide +kernel
theorem gf_84_7 : gf (hx S M N) 84 10 7 = some (.int (M 84 7)) := rfl
theorem ok_84_7 : okI 84 10 7 = true := by decide +kernel
theorem gf_84_8 : gf (hx S M N) 84 10 8 = some (.int (M 84 8)) := rfl
theorem ok_84_8 : okI 84 10 8 = true := by decide +kernel
theorem gf_84_9 : gf (hx S M N) 84 10 9 = some (.int (M 84 9)) := rfl
theorem ok_84_9 : okI 84 10 9 = true := by decide +kernel
theorem gf_84_10 : gf (hx S M N) 84 10 10 = some (.ref 89) := rfl
theorem gf_84_11 : gf (hx S M N) 84 10 11 = some (.ref 90) := rfl
theorem gf_84_12 : gf (hx S M N) 84 10 12 = some (.ref 91) := rfl
theorem gf_84_13 : gf (hx S M N) 84 10 13 = some (.ref 92) := rfl
theorem gf_84_14 : gf (hx S M N) 84 10 14 = some (.ref 93) := rfl
theorem gf_84_15 : gf (hx S M N) 84 10 15 = some (.ref 94) := rfl
theorem gf_84_16 : gf (hx S M N) 84 10 16 = some (.ref 95) := rfl
theorem gf_84_17 : gf (hx S M N) 84 10 17 = some (.int (M 84 17)) := rfl
theorem ok_84_17 : okI 84 10 17 = true := by decide +kernel
theorem gf_84_18 : gf (hx S M N) 84 10 18 = some (.ref 96) := rfl
theorem gf_84_19 : gf (hx S M N) 84 10 19 = some (.int (M 84 19)) := rfl
theorem ok_84_19 : okI 84 10 19 = true := by decide +kernel
theorem gf_84_20 : gf (hx S M N) 84 10 20 = some (.int (M 84 20)) := rfl
theorem ok_84_20 : okI 84 10 20 = true := by decide +kernel
theorem gf_84_21 : gf (hx S M N) 84 10 21 = some (.ref 97) := rfl
theorem gf_84_22 : gf (hx S M N) 84 10 22 = some (.ref 98) := rfl
theorem gf_84_23 : gf (hx S M N) 84 10 23 = some (.ref 99) := rfl
theorem gf_84_24 : gf (hx S M N) 84 10 24 = some (.int (M 84 24)) := rfl
theorem ok_84_24 : okI 84 10 24 = true := by decide +kernel
theorem gf_84_25 : gf (hx S M N) 84 10 25 = some (.int (M 84 25)) := rfl
theorem ok_84_25 : okI 84 10 25 = true := by decide +kernel
theorem gf_84_26 : gf (hx S M N) 84 10 26 = some (.int (M 84 26)) := rfl
theorem ok_84_26 : okI 84 10 26 = true := by decide +kernel
theorem gf_84_27 : gf (hx S M N) 84 10 27 = some (.int (M 84 27)) := rfl
theorem ok_84_27 : okI 84 10 27 = true := by decide +kernel
theorem gf_84_28 : gf (hx S M N) 84 10 28 = some (.int (M 84 28)) := rfl
theorem ok_84_28 : okI 84 10 28 = true := by decide +kernel
theorem gf_84_29 : gf (hx S M N) 84 10 29 = some (.ref 100) := rfl
theorem gf_84_30 : gf (hx S M N) 84 10 30 = some (.ref 101) := rfl
theorem oka_85 : okA 85 181 = true := by decide +kernel
theorem al_85 {k : Nat} (h : k < 181) : al (hx S M N) 85 (nI k) = some (M 85 k) := hx_alG oka_85 h
theorem sa_85 {k : Nat} {v : Int32} (h : k < 181) : sa (hx S M N) 85 (nI k) v = some (hx S (ux M 85 k v) N) := hx_saG oka_85 h
theorem an_85 : an (hx S M N) 85 = some (nI 181) := rfl
theorem oka_86 : okA 86 362 = true := by decide +kernel
theorem al_86 {k : Nat} (h : k < 362) : al (hx S M N) 86 (nI k) = some (M 86 k) := hx_alG oka_86 h
theorem sa_86 {k : Nat} {v : Int32} (h : k < 362) : sa (hx S M N) 86 (nI k) v = some (hx S (ux M 86 k v) N) := hx_saG oka_86 h
theorem an_86 : an (hx S M N) 86 = some (nI 362) := rfl
theorem oka_88 : okA 88 3 = true := by decide +kernel
theorem al_88 {k : Nat} (h : k < 3) : al (hx S M N) 88 (nI k) = some (M 88 k) := hx_alG oka_88 h
theorem sa_88 {k : Nat} {v : Int32} (h : k < 3) : sa (hx S M N) 88 (nI k) v = some (hx S (ux M 88 k v) N) := hx_saG oka_88 h
theorem an_88 : an (hx S M N) 88 = some (nI 3) := rfl
theorem oka_89 : okA 89 8 = true := by decide +kernel
theorem al_89 {k : Nat} (h : k < 8) : al (hx S M N) 89 (nI k) = some (M 89 k) := hx_alG oka_89 h
theorem sa_89 {k : Nat} {v : Int32} (h : k < 8) : sa (hx S M N) 89 (nI k) v = some (hx S (ux M 89 k v) N) := hx_saG oka_89 h
theorem an_89 : an (hx S M N) 89 = some (nI 8) := rfl
theorem oka_90 : okA 90 6 = true := by decide +kernel
theorem al_90 {k : Nat} (h : k < 6) : al (hx S M N) 90 (nI k) = some (M 90 k) := hx_alG oka_90 h
theorem sa_90 {k : Nat} {v : Int32} (h : k < 6) : sa (hx S M N) 90 (nI k) v = some (hx S (ux M 90 k v) N) := hx_saG oka_90 h
theorem an_90 : an (hx S M N) 90 = some (nI 6) := rfl
theorem oka_91 : okA 91 6 = true := by decide +kernel
theorem al_91 {k : Nat} (h : k < 6) : al (hx S M N) 91 (nI k) = some (M 91 k) := hx_alG oka_91 h
theorem sa_91 {k : Nat} {v : Int32} (h : k < 6) : sa (hx S M N) 91 (nI k) v = some (hx S (ux M 91 k v) N) := hx_saG oka_91 h
theorem an_91 : an (hx S M N) 91 = some (nI 6) := rfl
theorem oka_92 : okA 92 6 = true := by decide +kernel
theorem al_92 {k : Nat} (h : k < 6) : al (hx S M N) 92 (nI k) = some (M 92 k) := hx_alG oka_92 h
theorem sa_92 {k : Nat} {v : Int32} (h : k < 6) : sa (hx S M N) 92 (nI k) v = some (hx S (ux M 92 k v) N) := hx_saG oka_92 h
theorem an_92 : an (hx S M N) 92 = some (nI 6) := rfl
theorem oka_93 : okA 93 6 = true := by decide +kernel
theorem al_93 {k : Nat} (h : k < 6) : al (hx S M N) 93 (nI k) = some (M 93 k) := hx_alG oka_93 h
theorem sa_93 {k : Nat} {v : Int32} (h : k < 6) : sa (hx S M N) 93 (nI k) v = some (hx S (ux M 93 k v) N) := hx_saG oka_93 h
theorem an_93 : an (hx S M N) 93 = some (nI 6) := rfl
theorem oka_94 : okA 94 6 = true := by decide +kernel
theorem al_94 {k : Nat} (h : k < 6) : al (hx S M N) 94 (nI k) = some (M 94 k) := hx_alG oka_94 h
theorem sa_94 {k : Nat} {v : Int32} (h : k < 6) : sa (hx S M N) 94 (nI k) v = some (hx S (ux M 94 k v) N) := hx_saG oka_94 h
theorem an_94 : an (hx S M N) 94 = some (nI 6) := rfl
theorem oka_95 : okA 95 6 = true := by decide +kernel
theorem al_95 {k : Nat} (h : k < 6) : al (hx S M N) 95 (nI k) = some (M 95 k) := hx_alG oka_95 h
theorem sa_95 {k : Nat} {v : Int32} (h : k < 6) : sa (hx S M N) 95 (nI k) v = some (hx S (ux M 95 k v) N) := hx_saG oka_95 h
theorem an_95 : an (hx S M N) 95 = some (nI 6) := rfl
theorem oka_96 : okA 96 4 = true := by decide +kernel
theorem al_96 {k : Nat} (h : k < 4) : al (hx S M N) 96 (nI k) = some (M 96 k) := hx_alG oka_96 h
theorem sa_96 {k : Nat} {v : Int32} (h : k < 4) : sa (hx S M N) 96 (nI k) v = some (hx S (ux M 96 k v) N) := hx_saG oka_96 h
theorem an_96 : an (hx S M N) 96 = some (nI 4) := rfl
theorem oka_97 : okA 97 6 = true := by decide +kernel
theorem al_97 {k : Nat} (h : k < 6) : al (hx S M N) 97 (nI k) = some (M 97 k) := hx_alG oka_97 h
theorem sa_97 {k : Nat} {v : Int32} (h : k < 6) : sa (hx S M N) 97 (nI k) v = some (hx S (ux M 97 k v) N) := hx_saG oka_97 h
theorem an_97 : an (hx S M N) 97 = some (nI 6) := rfl
theorem oka_98 : okA 98 3 = true := by decide +kernel
theorem al_98 {k : Nat} (h : k < 3) : al (hx S M N) 98 (nI k) = some (M 98 k) := hx_alG oka_98 h
theorem sa_98 {k : Nat} {v : Int32} (h : k < 3) : sa (hx S M N) 98 (nI k) v = some (hx S (ux M 98 k v) N) := hx_saG oka_98 h
theorem an_98 : an (hx S M N) 98 = some (nI 3) := rfl
theorem oka_99 : okA 99 150 = true := by decide +kernel
theorem al_99 {k : Nat} (h : k < 150) : al (hx S M N) 99 (nI k) = some (M 99 k) := hx_alG oka_99 h
theorem sa_99 {k : Nat} {v : Int32} (h : k < 150) : sa (hx S M N) 99 (nI k) v = some (hx S (ux M 99 k v) N) := hx_saG oka_99 h
theorem an_99 : an (hx S M N) 99 = some (nI 150) := rfl
theorem oka_100 : okA 100 181 = true := by decide +kernel
theorem al_100 {k : Nat} (h : k < 181) : al (hx S M N) 100 (nI k) = some (M 100 k) := hx_alG oka_100 h
theorem sa_100 {k : Nat} {v : Int32} (h : k < 181) : sa (hx S M N) 100 (nI k) v = some (hx S (ux M 100 k v) N) := hx_saG oka_100 h
theorem an_100 : an (hx S M N) 100 = some (nI 181) := rfl
theorem oka_101 : okA 101 5 = true := by decide +kernel
theorem al_101 {k : Nat} (h : k < 5) : al (hx S M N) 101 (nI k) = some (M 101 k) := hx_alG oka_101 h
theorem sa_101 {k : Nat} {v : Int32} (h : k < 5) : sa (hx S M N) 101 (nI k) v = some (hx S (ux M 101 k v) N) := hx_saG oka_101 h
theorem an_101 : an (hx S M N) 101 = some (nI 5) := rfl
end Hx
end
