section
-- ===== PART A: goes FIRST, ahead of the names: the tables' words, and 'selects' of the private methods out of them =====
/-- a private method of a class that the tables say can be made, by its rows of tables_1 -/
def lw_okq (q : MethodName × Nat) : Prop := (q.1.cls ≠ "java/lang/invoke/MethodHandle" ∧ q.1.cls ≠ "java/lang/invoke/VarHandle") ∧ Cond.instantiable q.1.cls q.2 ∈ tables_1 ∧ Cond.privateMethod q.1 ∈ tables_1 ∧ Cond.instanceMethod q.1 ∈ tables_1
theorem lw_p0 : lw_okq (⟨"SnowOwed$Ball", "bareThings", "(I)V"⟩, 7) := ⟨⟨by decide +kernel, by decide +kernel⟩, List.mem_of_getElem? (i := 70) (by decide +kernel), List.mem_of_getElem? (i := 480) (by decide +kernel), List.mem_of_getElem? (i := 481) (by decide +kernel)⟩
theorem lw_p1 : lw_okq (⟨"SnowOwed$Village", "roll", "(II)I"⟩, 9) := ⟨⟨by decide +kernel, by decide +kernel⟩, List.mem_of_getElem? (i := 29) (by decide +kernel), List.mem_of_getElem? (i := 488) (by decide +kernel), List.mem_of_getElem? (i := 489) (by decide +kernel)⟩
theorem lw_p2 : lw_okq (⟨"SnowOwed$Paths", "branch", "(LSnowOwed$Village;III)V"⟩, 5) := ⟨⟨by decide +kernel, by decide +kernel⟩, List.mem_of_getElem? (i := 152) (by decide +kernel), List.mem_of_getElem? (i := 544) (by decide +kernel), List.mem_of_getElem? (i := 545) (by decide +kernel)⟩
theorem lw_p3 : lw_okq (⟨"SnowOwed$Paths", "weigh", "(LSnowOwed$Village;I)V"⟩, 5) := ⟨⟨by decide +kernel, by decide +kernel⟩, List.mem_of_getElem? (i := 152) (by decide +kernel), List.mem_of_getElem? (i := 548) (by decide +kernel), List.mem_of_getElem? (i := 549) (by decide +kernel)⟩
theorem lw_p4 : lw_okq (⟨"SnowOwed", "differences", "(LSnowOwed$Sheet;I)I"⟩, 11) := ⟨⟨by decide +kernel, by decide +kernel⟩, List.mem_of_getElem? (i := 21) (by decide +kernel), List.mem_of_getElem? (i := 566) (by decide +kernel), List.mem_of_getElem? (i := 567) (by decide +kernel)⟩
theorem lw_p5 : lw_okq (⟨"SnowOwed$Reader", "next", "()V"⟩, 9) := ⟨⟨by decide +kernel, by decide +kernel⟩, List.mem_of_getElem? (i := 196) (by decide +kernel), List.mem_of_getElem? (i := 602) (by decide +kernel), List.mem_of_getElem? (i := 603) (by decide +kernel)⟩
theorem lw_p6 : lw_okq (⟨"SnowOwed$Reader", "keyAtHand", "()I"⟩, 9) := ⟨⟨by decide +kernel, by decide +kernel⟩, List.mem_of_getElem? (i := 196) (by decide +kernel), List.mem_of_getElem? (i := 609) (by decide +kernel), List.mem_of_getElem? (i := 610) (by decide +kernel)⟩
theorem lw_p7 : lw_okq (⟨"SnowOwed$Reader", "level", "(III)Z"⟩, 9) := ⟨⟨by decide +kernel, by decide +kernel⟩, List.mem_of_getElem? (i := 196) (by decide +kernel), List.mem_of_getElem? (i := 654) (by decide +kernel), List.mem_of_getElem? (i := 655) (by decide +kernel)⟩
theorem lw_p8 : lw_okq (⟨"SnowOwed$Reader", "piece", "(II)Z"⟩, 9) := ⟨⟨by decide +kernel, by decide +kernel⟩, List.mem_of_getElem? (i := 196) (by decide +kernel), List.mem_of_getElem? (i := 658) (by decide +kernel), List.mem_of_getElem? (i := 659) (by decide +kernel)⟩
theorem lw_p9 : lw_okq (⟨"SnowOwed$Reader", "atomAtHand", "()I"⟩, 9) := ⟨⟨by decide +kernel, by decide +kernel⟩, List.mem_of_getElem? (i := 196) (by decide +kernel), List.mem_of_getElem? (i := 662) (by decide +kernel), List.mem_of_getElem? (i := 663) (by decide +kernel)⟩
theorem lw_p10 : lw_okq (⟨"SnowOwed$Reader", "byteAtHand", "()I"⟩, 9) := ⟨⟨by decide +kernel, by decide +kernel⟩, List.mem_of_getElem? (i := 196) (by decide +kernel), List.mem_of_getElem? (i := 672) (by decide +kernel), List.mem_of_getElem? (i := 673) (by decide +kernel)⟩
theorem lw_p11 : lw_okq (⟨"SnowOwed$Reader", "put", "(I)V"⟩, 9) := ⟨⟨by decide +kernel, by decide +kernel⟩, List.mem_of_getElem? (i := 196) (by decide +kernel), List.mem_of_getElem? (i := 738) (by decide +kernel), List.mem_of_getElem? (i := 739) (by decide +kernel)⟩
theorem lw_p12 : lw_okq (⟨"SnowOwed$Reader", "isSign", "(I)Z"⟩, 9) := ⟨⟨by decide +kernel, by decide +kernel⟩, List.mem_of_getElem? (i := 196) (by decide +kernel), List.mem_of_getElem? (i := 742) (by decide +kernel), List.mem_of_getElem? (i := 743) (by decide +kernel)⟩
theorem lw_p13 : lw_okq (⟨"SnowOwed$Reader", "levelAtHand", "()I"⟩, 9) := ⟨⟨by decide +kernel, by decide +kernel⟩, List.mem_of_getElem? (i := 196) (by decide +kernel), List.mem_of_getElem? (i := 746) (by decide +kernel), List.mem_of_getElem? (i := 747) (by decide +kernel)⟩
theorem lw_p14 : lw_okq (⟨"SnowOwed", "waitsAt", "(III)Z"⟩, 11) := ⟨⟨by decide +kernel, by decide +kernel⟩, List.mem_of_getElem? (i := 21) (by decide +kernel), List.mem_of_getElem? (i := 869) (by decide +kernel), List.mem_of_getElem? (i := 870) (by decide +kernel)⟩
theorem lw_p15 : lw_okq (⟨"SnowOwedModel", "comes", "(III)I"⟩, 34) := ⟨⟨by decide +kernel, by decide +kernel⟩, List.mem_of_getElem? (i := 890) (by decide +kernel), List.mem_of_getElem? (i := 1013) (by decide +kernel), List.mem_of_getElem? (i := 1014) (by decide +kernel)⟩
def lw_privs_1 : List (MethodName × Nat) := [(⟨"SnowOwed$Ball", "bareThings", "(I)V"⟩, 7), (⟨"SnowOwed$Village", "roll", "(II)I"⟩, 9), (⟨"SnowOwed$Paths", "branch", "(LSnowOwed$Village;III)V"⟩, 5), (⟨"SnowOwed$Paths", "weigh", "(LSnowOwed$Village;I)V"⟩, 5), (⟨"SnowOwed", "differences", "(LSnowOwed$Sheet;I)I"⟩, 11), (⟨"SnowOwed$Reader", "next", "()V"⟩, 9), (⟨"SnowOwed$Reader", "keyAtHand", "()I"⟩, 9), (⟨"SnowOwed$Reader", "level", "(III)Z"⟩, 9), (⟨"SnowOwed$Reader", "piece", "(II)Z"⟩, 9), (⟨"SnowOwed$Reader", "atomAtHand", "()I"⟩, 9), (⟨"SnowOwed$Reader", "byteAtHand", "()I"⟩, 9), (⟨"SnowOwed$Reader", "put", "(I)V"⟩, 9), (⟨"SnowOwed$Reader", "isSign", "(I)Z"⟩, 9), (⟨"SnowOwed$Reader", "levelAtHand", "()I"⟩, 9), (⟨"SnowOwed", "waitsAt", "(III)Z"⟩, 11), (⟨"SnowOwedModel", "comes", "(III)I"⟩, 34)]
theorem lw_r1 : ∀ q ∈ lw_privs_1, lw_okq q := List.forall_mem_cons.mpr ⟨lw_p0, List.forall_mem_cons.mpr ⟨lw_p1, List.forall_mem_cons.mpr ⟨lw_p2, List.forall_mem_cons.mpr ⟨lw_p3, List.forall_mem_cons.mpr ⟨lw_p4, List.forall_mem_cons.mpr ⟨lw_p5, List.forall_mem_cons.mpr ⟨lw_p6, List.forall_mem_cons.mpr ⟨lw_p7, List.forall_mem_cons.mpr ⟨lw_p8, List.forall_mem_cons.mpr ⟨lw_p9, List.forall_mem_cons.mpr ⟨lw_p10, List.forall_mem_cons.mpr ⟨lw_p11, List.forall_mem_cons.mpr ⟨lw_p12, List.forall_mem_cons.mpr ⟨lw_p13, List.forall_mem_cons.mpr ⟨lw_p14, List.forall_mem_cons.mpr ⟨lw_p15, fun _ h => absurd h List.not_mem_nil⟩⟩⟩⟩⟩⟩⟩⟩⟩⟩⟩⟩⟩⟩⟩⟩
theorem lw_p16 : lw_okq (⟨"SnowOwedModel", "put", "(III)V"⟩, 34) := ⟨⟨by decide +kernel, by decide +kernel⟩, List.mem_of_getElem? (i := 890) (by decide +kernel), List.mem_of_getElem? (i := 1017) (by decide +kernel), List.mem_of_getElem? (i := 1018) (by decide +kernel)⟩
theorem lw_p17 : lw_okq (⟨"SnowOwedModel", "isYard", "(I)Z"⟩, 34) := ⟨⟨by decide +kernel, by decide +kernel⟩, List.mem_of_getElem? (i := 890) (by decide +kernel), List.mem_of_getElem? (i := 1025) (by decide +kernel), List.mem_of_getElem? (i := 1026) (by decide +kernel)⟩
theorem lw_p18 : lw_okq (⟨"SnowOwedModel", "of", "(II)I"⟩, 34) := ⟨⟨by decide +kernel, by decide +kernel⟩, List.mem_of_getElem? (i := 890) (by decide +kernel), List.mem_of_getElem? (i := 1029) (by decide +kernel), List.mem_of_getElem? (i := 1030) (by decide +kernel)⟩
theorem lw_p19 : lw_okq (⟨"SnowOwedModel", "givesOf", "(I)I"⟩, 34) := ⟨⟨by decide +kernel, by decide +kernel⟩, List.mem_of_getElem? (i := 890) (by decide +kernel), List.mem_of_getElem? (i := 1033) (by decide +kernel), List.mem_of_getElem? (i := 1034) (by decide +kernel)⟩
theorem lw_p20 : lw_okq (⟨"SnowOwedModel", "counts", "(I)I"⟩, 34) := ⟨⟨by decide +kernel, by decide +kernel⟩, List.mem_of_getElem? (i := 890) (by decide +kernel), List.mem_of_getElem? (i := 1037) (by decide +kernel), List.mem_of_getElem? (i := 1038) (by decide +kernel)⟩
theorem lw_p21 : lw_okq (⟨"SnowOwedModel", "weight", "()I"⟩, 34) := ⟨⟨by decide +kernel, by decide +kernel⟩, List.mem_of_getElem? (i := 890) (by decide +kernel), List.mem_of_getElem? (i := 1041) (by decide +kernel), List.mem_of_getElem? (i := 1042) (by decide +kernel)⟩
theorem lw_p22 : lw_okq (⟨"SnowOwedModel", "worksOut", "(I)I"⟩, 34) := ⟨⟨by decide +kernel, by decide +kernel⟩, List.mem_of_getElem? (i := 890) (by decide +kernel), List.mem_of_getElem? (i := 1045) (by decide +kernel), List.mem_of_getElem? (i := 1046) (by decide +kernel)⟩
theorem lw_p23 : lw_okq (⟨"SnowOwedModel", "goesOnBy", "(I)I"⟩, 34) := ⟨⟨by decide +kernel, by decide +kernel⟩, List.mem_of_getElem? (i := 890) (by decide +kernel), List.mem_of_getElem? (i := 1055) (by decide +kernel), List.mem_of_getElem? (i := 1056) (by decide +kernel)⟩
theorem lw_p24 : lw_okq (⟨"SnowOwedModel", "worthOf", "(I)I"⟩, 34) := ⟨⟨by decide +kernel, by decide +kernel⟩, List.mem_of_getElem? (i := 890) (by decide +kernel), List.mem_of_getElem? (i := 1059) (by decide +kernel), List.mem_of_getElem? (i := 1060) (by decide +kernel)⟩
theorem lw_p25 : lw_okq (⟨"SnowOwedModel", "ledTo", "(I)I"⟩, 34) := ⟨⟨by decide +kernel, by decide +kernel⟩, List.mem_of_getElem? (i := 890) (by decide +kernel), List.mem_of_getElem? (i := 1063) (by decide +kernel), List.mem_of_getElem? (i := 1064) (by decide +kernel)⟩
theorem lw_p26 : lw_okq (⟨"SnowOwedModel", "becomes", "(II)I"⟩, 34) := ⟨⟨by decide +kernel, by decide +kernel⟩, List.mem_of_getElem? (i := 890) (by decide +kernel), List.mem_of_getElem? (i := 1079) (by decide +kernel), List.mem_of_getElem? (i := 1080) (by decide +kernel)⟩
theorem lw_p27 : lw_okq (⟨"SnowOwedModel", "draw", "()I"⟩, 34) := ⟨⟨by decide +kernel, by decide +kernel⟩, List.mem_of_getElem? (i := 890) (by decide +kernel), List.mem_of_getElem? (i := 1091) (by decide +kernel), List.mem_of_getElem? (i := 1092) (by decide +kernel)⟩
theorem lw_p28 : lw_okq (⟨"SnowOwedModel", "wide", "()I"⟩, 34) := ⟨⟨by decide +kernel, by decide +kernel⟩, List.mem_of_getElem? (i := 890) (by decide +kernel), List.mem_of_getElem? (i := 1112) (by decide +kernel), List.mem_of_getElem? (i := 1113) (by decide +kernel)⟩
theorem lw_p29 : lw_okq (⟨"SnowOwedModel", "packs", "(II)V"⟩, 34) := ⟨⟨by decide +kernel, by decide +kernel⟩, List.mem_of_getElem? (i := 890) (by decide +kernel), List.mem_of_getElem? (i := 1124) (by decide +kernel), List.mem_of_getElem? (i := 1125) (by decide +kernel)⟩
theorem lw_p30 : lw_okq (⟨"SnowOwedModel", "goesOn", "(I)I"⟩, 34) := ⟨⟨by decide +kernel, by decide +kernel⟩, List.mem_of_getElem? (i := 890) (by decide +kernel), List.mem_of_getElem? (i := 1149) (by decide +kernel), List.mem_of_getElem? (i := 1150) (by decide +kernel)⟩
theorem lw_p31 : lw_okq (⟨"SnowOwedModel", "day", "(I)I"⟩, 34) := ⟨⟨by decide +kernel, by decide +kernel⟩, List.mem_of_getElem? (i := 890) (by decide +kernel), List.mem_of_getElem? (i := 1153) (by decide +kernel), List.mem_of_getElem? (i := 1154) (by decide +kernel)⟩
def lw_privs_2 : List (MethodName × Nat) := [(⟨"SnowOwedModel", "put", "(III)V"⟩, 34), (⟨"SnowOwedModel", "isYard", "(I)Z"⟩, 34), (⟨"SnowOwedModel", "of", "(II)I"⟩, 34), (⟨"SnowOwedModel", "givesOf", "(I)I"⟩, 34), (⟨"SnowOwedModel", "counts", "(I)I"⟩, 34), (⟨"SnowOwedModel", "weight", "()I"⟩, 34), (⟨"SnowOwedModel", "worksOut", "(I)I"⟩, 34), (⟨"SnowOwedModel", "goesOnBy", "(I)I"⟩, 34), (⟨"SnowOwedModel", "worthOf", "(I)I"⟩, 34), (⟨"SnowOwedModel", "ledTo", "(I)I"⟩, 34), (⟨"SnowOwedModel", "becomes", "(II)I"⟩, 34), (⟨"SnowOwedModel", "draw", "()I"⟩, 34), (⟨"SnowOwedModel", "wide", "()I"⟩, 34), (⟨"SnowOwedModel", "packs", "(II)V"⟩, 34), (⟨"SnowOwedModel", "goesOn", "(I)I"⟩, 34), (⟨"SnowOwedModel", "day", "(I)I"⟩, 34)]
theorem lw_r2 : ∀ q ∈ lw_privs_2, lw_okq q := List.forall_mem_cons.mpr ⟨lw_p16, List.forall_mem_cons.mpr ⟨lw_p17, List.forall_mem_cons.mpr ⟨lw_p18, List.forall_mem_cons.mpr ⟨lw_p19, List.forall_mem_cons.mpr ⟨lw_p20, List.forall_mem_cons.mpr ⟨lw_p21, List.forall_mem_cons.mpr ⟨lw_p22, List.forall_mem_cons.mpr ⟨lw_p23, List.forall_mem_cons.mpr ⟨lw_p24, List.forall_mem_cons.mpr ⟨lw_p25, List.forall_mem_cons.mpr ⟨lw_p26, List.forall_mem_cons.mpr ⟨lw_p27, List.forall_mem_cons.mpr ⟨lw_p28, List.forall_mem_cons.mpr ⟨lw_p29, List.forall_mem_cons.mpr ⟨lw_p30, List.forall_mem_cons.mpr ⟨lw_p31, fun _ h => absurd h List.not_mem_nil⟩⟩⟩⟩⟩⟩⟩⟩⟩⟩⟩⟩⟩⟩⟩⟩
theorem lw_p32 : lw_okq (⟨"SnowOwedModel", "thaws", "(I)V"⟩, 34) := ⟨⟨by decide +kernel, by decide +kernel⟩, List.mem_of_getElem? (i := 890) (by decide +kernel), List.mem_of_getElem? (i := 1157) (by decide +kernel), List.mem_of_getElem? (i := 1158) (by decide +kernel)⟩
theorem lw_p33 : lw_okq (⟨"SnowOwedModel", "passes", "(I)I"⟩, 34) := ⟨⟨by decide +kernel, by decide +kernel⟩, List.mem_of_getElem? (i := 890) (by decide +kernel), List.mem_of_getElem? (i := 1161) (by decide +kernel), List.mem_of_getElem? (i := 1162) (by decide +kernel)⟩
theorem lw_p34 : lw_okq (⟨"SnowOwedModel", "thinks", "()V"⟩, 34) := ⟨⟨by decide +kernel, by decide +kernel⟩, List.mem_of_getElem? (i := 890) (by decide +kernel), List.mem_of_getElem? (i := 1169) (by decide +kernel), List.mem_of_getElem? (i := 1170) (by decide +kernel)⟩
theorem lw_p35 : lw_okq (⟨"SnowOwedModel", "sumOf", "(I)I"⟩, 34) := ⟨⟨by decide +kernel, by decide +kernel⟩, List.mem_of_getElem? (i := 890) (by decide +kernel), List.mem_of_getElem? (i := 1173) (by decide +kernel), List.mem_of_getElem? (i := 1174) (by decide +kernel)⟩
theorem lw_p36 : lw_okq (⟨"SnowOwedModel", "putsBack", "()V"⟩, 34) := ⟨⟨by decide +kernel, by decide +kernel⟩, List.mem_of_getElem? (i := 890) (by decide +kernel), List.mem_of_getElem? (i := 1177) (by decide +kernel), List.mem_of_getElem? (i := 1178) (by decide +kernel)⟩
theorem lw_p37 : lw_okq (⟨"SnowOwedModel", "findWay", "(I)V"⟩, 34) := ⟨⟨by decide +kernel, by decide +kernel⟩, List.mem_of_getElem? (i := 890) (by decide +kernel), List.mem_of_getElem? (i := 1189) (by decide +kernel), List.mem_of_getElem? (i := 1190) (by decide +kernel)⟩
theorem lw_p38 : lw_okq (⟨"SnowOwedModel", "offBy", "(II)J"⟩, 34) := ⟨⟨by decide +kernel, by decide +kernel⟩, List.mem_of_getElem? (i := 890) (by decide +kernel), List.mem_of_getElem? (i := 1205) (by decide +kernel), List.mem_of_getElem? (i := 1206) (by decide +kernel)⟩
theorem lw_p39 : lw_okq (⟨"SnowOwedModel", "go", "()V"⟩, 34) := ⟨⟨by decide +kernel, by decide +kernel⟩, List.mem_of_getElem? (i := 890) (by decide +kernel), List.mem_of_getElem? (i := 1225) (by decide +kernel), List.mem_of_getElem? (i := 1226) (by decide +kernel)⟩
theorem lw_p40 : lw_okq (⟨"SnowOwedModel", "isLetter", "(I)Z"⟩, 34) := ⟨⟨by decide +kernel, by decide +kernel⟩, List.mem_of_getElem? (i := 890) (by decide +kernel), List.mem_of_getElem? (i := 1229) (by decide +kernel), List.mem_of_getElem? (i := 1230) (by decide +kernel)⟩
theorem lw_p41 : lw_okq (⟨"SnowOwedModel", "isFigure", "(I)Z"⟩, 34) := ⟨⟨by decide +kernel, by decide +kernel⟩, List.mem_of_getElem? (i := 890) (by decide +kernel), List.mem_of_getElem? (i := 1233) (by decide +kernel), List.mem_of_getElem? (i := 1234) (by decide +kernel)⟩
theorem lw_p42 : lw_okq (⟨"SnowOwedModel", "takesKey", "()Z"⟩, 34) := ⟨⟨by decide +kernel, by decide +kernel⟩, List.mem_of_getElem? (i := 890) (by decide +kernel), List.mem_of_getElem? (i := 1237) (by decide +kernel), List.mem_of_getElem? (i := 1238) (by decide +kernel)⟩
theorem lw_p43 : lw_okq (⟨"SnowOwedModel", "takesE", "()Z"⟩, 34) := ⟨⟨by decide +kernel, by decide +kernel⟩, List.mem_of_getElem? (i := 890) (by decide +kernel), List.mem_of_getElem? (i := 1241) (by decide +kernel), List.mem_of_getElem? (i := 1242) (by decide +kernel)⟩
theorem lw_p44 : lw_okq (⟨"SnowOwedModel", "takesPart", "()Z"⟩, 34) := ⟨⟨by decide +kernel, by decide +kernel⟩, List.mem_of_getElem? (i := 890) (by decide +kernel), List.mem_of_getElem? (i := 1245) (by decide +kernel), List.mem_of_getElem? (i := 1246) (by decide +kernel)⟩
theorem lw_p45 : lw_okq (⟨"SnowOwedModel", "nameOf", "(I)I"⟩, 34) := ⟨⟨by decide +kernel, by decide +kernel⟩, List.mem_of_getElem? (i := 890) (by decide +kernel), List.mem_of_getElem? (i := 1249) (by decide +kernel), List.mem_of_getElem? (i := 1250) (by decide +kernel)⟩
theorem lw_p46 : lw_okq (⟨"SnowOwedModel", "settle", "(I)V"⟩, 34) := ⟨⟨by decide +kernel, by decide +kernel⟩, List.mem_of_getElem? (i := 890) (by decide +kernel), List.mem_of_getElem? (i := 1253) (by decide +kernel), List.mem_of_getElem? (i := 1254) (by decide +kernel)⟩
theorem lw_p47 : lw_okq (⟨"SnowOwedModel", "notsOpen", "()I"⟩, 34) := ⟨⟨by decide +kernel, by decide +kernel⟩, List.mem_of_getElem? (i := 890) (by decide +kernel), List.mem_of_getElem? (i := 1260) (by decide +kernel), List.mem_of_getElem? (i := 1261) (by decide +kernel)⟩
def lw_privs_3 : List (MethodName × Nat) := [(⟨"SnowOwedModel", "thaws", "(I)V"⟩, 34), (⟨"SnowOwedModel", "passes", "(I)I"⟩, 34), (⟨"SnowOwedModel", "thinks", "()V"⟩, 34), (⟨"SnowOwedModel", "sumOf", "(I)I"⟩, 34), (⟨"SnowOwedModel", "putsBack", "()V"⟩, 34), (⟨"SnowOwedModel", "findWay", "(I)V"⟩, 34), (⟨"SnowOwedModel", "offBy", "(II)J"⟩, 34), (⟨"SnowOwedModel", "go", "()V"⟩, 34), (⟨"SnowOwedModel", "isLetter", "(I)Z"⟩, 34), (⟨"SnowOwedModel", "isFigure", "(I)Z"⟩, 34), (⟨"SnowOwedModel", "takesKey", "()Z"⟩, 34), (⟨"SnowOwedModel", "takesE", "()Z"⟩, 34), (⟨"SnowOwedModel", "takesPart", "()Z"⟩, 34), (⟨"SnowOwedModel", "nameOf", "(I)I"⟩, 34), (⟨"SnowOwedModel", "settle", "(I)V"⟩, 34), (⟨"SnowOwedModel", "notsOpen", "()I"⟩, 34)]
theorem lw_r3 : ∀ q ∈ lw_privs_3, lw_okq q := List.forall_mem_cons.mpr ⟨lw_p32, List.forall_mem_cons.mpr ⟨lw_p33, List.forall_mem_cons.mpr ⟨lw_p34, List.forall_mem_cons.mpr ⟨lw_p35, List.forall_mem_cons.mpr ⟨lw_p36, List.forall_mem_cons.mpr ⟨lw_p37, List.forall_mem_cons.mpr ⟨lw_p38, List.forall_mem_cons.mpr ⟨lw_p39, List.forall_mem_cons.mpr ⟨lw_p40, List.forall_mem_cons.mpr ⟨lw_p41, List.forall_mem_cons.mpr ⟨lw_p42, List.forall_mem_cons.mpr ⟨lw_p43, List.forall_mem_cons.mpr ⟨lw_p44, List.forall_mem_cons.mpr ⟨lw_p45, List.forall_mem_cons.mpr ⟨lw_p46, List.forall_mem_cons.mpr ⟨lw_p47, fun _ h => absurd h List.not_mem_nil⟩⟩⟩⟩⟩⟩⟩⟩⟩⟩⟩⟩⟩⟩⟩⟩
theorem lw_p48 : lw_okq (⟨"SnowOwedModel", "signHere", "()I"⟩, 34) := ⟨⟨by decide +kernel, by decide +kernel⟩, List.mem_of_getElem? (i := 890) (by decide +kernel), List.mem_of_getElem? (i := 1264) (by decide +kernel), List.mem_of_getElem? (i := 1265) (by decide +kernel)⟩
def lw_privs_4 : List (MethodName × Nat) := [(⟨"SnowOwedModel", "signHere", "()I"⟩, 34)]
theorem lw_r4 : ∀ q ∈ lw_privs_4, lw_okq q := List.forall_mem_cons.mpr ⟨lw_p48, fun _ h => absurd h List.not_mem_nil⟩
def lw_privs : List (MethodName × Nat) := lw_privs_1 ++ (lw_privs_2 ++ (lw_privs_3 ++ (lw_privs_4)))
def lw_tbl : List Cond := k2_sels lw_privs ++ tables_1
theorem lw_privs_ok : ∀ q ∈ lw_privs, lw_okq q := by
  show ∀ q ∈ lw_privs_1 ++ (lw_privs_2 ++ (lw_privs_3 ++ (lw_privs_4))), lw_okq q
  exact List.forall_mem_append.mpr ⟨lw_r1, List.forall_mem_append.mpr ⟨lw_r2, List.forall_mem_append.mpr ⟨lw_r3, lw_r4⟩⟩⟩

-- ===== names, by program =====
def RX0 : String := "SnowOwed$Ball"
def TX0 : u_T := fun k => match k with
  | 0 => ("SnowOwed$Ball", "owners", "[I", true)
  | 1 => ("SnowOwed$Ball", "kilos", "[I", true)
  | 2 => ("SnowOwed$Ball", "things", "[I", true)
  | 3 => ("SnowOwed$Ball", "layers", "I", false)
  | 4 => ("SnowOwed$Ball", "weight", "I", false)
  | 5 => ("SnowOwed$Ball", "place", "I", false)
  | _ => ("SnowOwed$Ball", "melted", "I", false)
def tyX0 : Nat → FieldType := fun k => match k with
  | 0 => .array .int
  | 1 => .array .int
  | 2 => .array .int
  | 3 => .int
  | 4 => .int
  | 5 => .int
  | _ => .int
theorem nmX0 : ∀ a, a < 7 → ∀ b, b < 7 → a ≠ b → (TX0 a).2.1 ≠ (TX0 b).2.1 := by decide +kernel
theorem tyX0_ok : ∀ k, k < 7 → parseFieldDescriptor (TX0 k).2.2.1 = some (tyX0 k) := by decide +kernel
abbrev cX0_init : ByteArray := prog_2_method_1_code
def yX0_init : MethodName := ⟨RX0, "<init>", "()V"⟩
abbrev cX0_grow : ByteArray := prog_2_method_2_code
def yX0_grow : MethodName := ⟨RX0, "grow", "(II)V"⟩
abbrev cX0_melt : ByteArray := prog_2_method_3_code
def yX0_melt : MethodName := ⟨RX0, "melt", "(I)V"⟩
abbrev cX0_bareThings : ByteArray := prog_2_method_4_code
def yX0_bareThings : MethodName := ⟨RX0, "bareThings", "(I)V"⟩
abbrev cX0_led : ByteArray := prog_2_method_5_code
def yX0_led : MethodName := ⟨RX0, "led", "(I)I"⟩
abbrev cX0_become : ByteArray := prog_2_method_6_code
def yX0_become : MethodName := ⟨RX0, "become", "(LSnowOwed$Ball;)V"⟩
def RX1 : String := "SnowOwed$Kinds"
def TX1 : u_T := fun k => match k with
  | _ => ("", "", "", false)
def tyX1 : Nat → FieldType := fun k => match k with
  | _ => .int
theorem nmX1 : ∀ a, a < 0 → ∀ b, b < 0 → a ≠ b → (TX1 a).2.1 ≠ (TX1 b).2.1 := by decide +kernel
theorem tyX1_ok : ∀ k, k < 0 → parseFieldDescriptor (TX1 k).2.2.1 = some (tyX1 k) := by decide +kernel
abbrev cX1_has : ByteArray := prog_3_method_2_code
def yX1_has : MethodName := ⟨RX1, "has", "(I)Z"⟩
abbrev cX1_isOf : ByteArray := prog_3_method_3_code
def yX1_isOf : MethodName := ⟨RX1, "isOf", "(II)Z"⟩
abbrev cX1_gift : ByteArray := prog_3_method_4_code
def yX1_gift : MethodName := ⟨RX1, "gift", "(III)I"⟩
abbrev cX1_goesOn : ByteArray := prog_3_method_5_code
def yX1_goesOn : MethodName := ⟨RX1, "goesOn", "(II)I"⟩
abbrev cX1_worth : ByteArray := prog_3_method_6_code
def yX1_worth : MethodName := ⟨RX1, "worth", "(III)I"⟩
def RX2 : String := "SnowOwed$Law"
def TX2 : u_T := fun k => match k with
  | 0 => ("SnowOwed$Law", "number", "I", true)
  | 1 => ("SnowOwed$Law", "key", "I", true)
  | 2 => ("SnowOwed$Law", "atoms", "I", true)
  | 3 => ("SnowOwed$Law", "codes", "[I", true)
  | _ => ("SnowOwed$Law", "stack", "[I", true)
def tyX2 : Nat → FieldType := fun k => match k with
  | 0 => .int
  | 1 => .int
  | 2 => .int
  | 3 => .array .int
  | _ => .array .int
theorem nmX2 : ∀ a, a < 5 → ∀ b, b < 5 → a ≠ b → (TX2 a).2.1 ≠ (TX2 b).2.1 := by decide +kernel
theorem tyX2_ok : ∀ k, k < 5 → parseFieldDescriptor (TX2 k).2.2.1 = some (tyX2 k) := by decide +kernel
abbrev cX2_init : ByteArray := prog_4_method_1_code
def yX2_init : MethodName := ⟨RX2, "<init>", "(III[I)V"⟩
abbrev cX2_value : ByteArray := prog_4_method_2_code
def yX2_value : MethodName := ⟨RX2, "value", "(III)I"⟩
abbrev cX2_named : ByteArray := prog_4_method_3_code
def yX2_named : MethodName := ⟨RX2, "named", "(IIII)I"⟩
abbrev cX2_joined : ByteArray := prog_4_method_4_code
def yX2_joined : MethodName := ⟨RX2, "joined", "(III)I"⟩
def RX3 : String := "SnowOwed$Paths"
def TX3 : u_T := fun k => match k with
  | 0 => ("SnowOwed$Paths", "thoughts", "[LSnowOwed$Village;", true)
  | 1 => ("SnowOwed$Paths", "found", "Z", false)
  | 2 => ("SnowOwed$Paths", "bestBroken", "I", false)
  | 3 => ("SnowOwed$Paths", "bestWeight", "I", false)
  | _ => ("SnowOwed$Paths", "bestMoves", "I", false)
def tyX3 : Nat → FieldType := fun k => match k with
  | 0 => .array (.object "SnowOwed$Village")
  | 1 => .boolean
  | 2 => .int
  | 3 => .int
  | _ => .int
theorem nmX3 : ∀ a, a < 5 → ∀ b, b < 5 → a ≠ b → (TX3 a).2.1 ≠ (TX3 b).2.1 := by decide +kernel
theorem tyX3_ok : ∀ k, k < 5 → parseFieldDescriptor (TX3 k).2.2.1 = some (tyX3 k) := by decide +kernel
abbrev cX3_init : ByteArray := prog_5_method_1_code
def yX3_init : MethodName := ⟨RX3, "<init>", "()V"⟩
abbrev cX3_thoughtOf : ByteArray := prog_5_method_2_code
def yX3_thoughtOf : MethodName := ⟨RX3, "thoughtOf", "(LSnowOwed$Village;)LSnowOwed$Village;"⟩
abbrev cX3_search : ByteArray := prog_5_method_3_code
def yX3_search : MethodName := ⟨RX3, "search", "(LSnowOwed$Village;I)V"⟩
abbrev cX3_branch : ByteArray := prog_5_method_4_code
def yX3_branch : MethodName := ⟨RX3, "branch", "(LSnowOwed$Village;III)V"⟩
abbrev cX3_weigh : ByteArray := prog_5_method_5_code
def yX3_weigh : MethodName := ⟨RX3, "weigh", "(LSnowOwed$Village;I)V"⟩
def RX4 : String := "SnowOwed$Reader"
def TX4 : u_T := fun k => match k with
  | 0 => ("SnowOwed$Reader", "codes", "[I", true)
  | 1 => ("SnowOwed$Reader", "codeCount", "I", false)
  | 2 => ("SnowOwed$Reader", "atoms", "I", false)
  | 3 => ("SnowOwed$Reader", "key", "I", false)
  | 4 => ("SnowOwed$Reader", "bytes", "[I", false)
  | 5 => ("SnowOwed$Reader", "length", "I", false)
  | 6 => ("SnowOwed$Reader", "sort", "I", false)
  | 7 => ("SnowOwed$Reader", "start", "I", false)
  | _ => ("SnowOwed$Reader", "behindIt", "I", false)
def tyX4 : Nat → FieldType := fun k => match k with
  | 0 => .array .int
  | 1 => .int
  | 2 => .int
  | 3 => .int
  | 4 => .array .int
  | 5 => .int
  | 6 => .int
  | 7 => .int
  | _ => .int
theorem nmX4 : ∀ a, a < 9 → ∀ b, b < 9 → a ≠ b → (TX4 a).2.1 ≠ (TX4 b).2.1 := by decide +kernel
theorem tyX4_ok : ∀ k, k < 9 → parseFieldDescriptor (TX4 k).2.2.1 = some (tyX4 k) := by decide +kernel
abbrev cX4_init : ByteArray := prog_6_method_1_code
def yX4_init : MethodName := ⟨RX4, "<init>", "()V"⟩
abbrev cX4_faultOf : ByteArray := prog_6_method_2_code
def yX4_faultOf : MethodName := ⟨RX4, "faultOf", "(LSnowOwed$Tape;)I"⟩
abbrev cX4_lawNumbered : ByteArray := prog_6_method_3_code
def yX4_lawNumbered : MethodName := ⟨RX4, "lawNumbered", "(I)LSnowOwed$Law;"⟩
abbrev cX4_next : ByteArray := prog_6_method_4_code
def yX4_next : MethodName := ⟨RX4, "next", "()V"⟩
abbrev cX4_sortOf : ByteArray := prog_6_method_5_code
def yX4_sortOf : MethodName := ⟨RX4, "sortOf", "(I)I"⟩
abbrev cX4_byteAtHand : ByteArray := prog_6_method_6_code
def yX4_byteAtHand : MethodName := ⟨RX4, "byteAtHand", "()I"⟩
abbrev cX4_isSign : ByteArray := prog_6_method_7_code
def yX4_isSign : MethodName := ⟨RX4, "isSign", "(I)Z"⟩
abbrev cX4_keyAtHand : ByteArray := prog_6_method_8_code
def yX4_keyAtHand : MethodName := ⟨RX4, "keyAtHand", "()I"⟩
abbrev cX4_names : ByteArray := prog_6_method_9_code
def yX4_names : MethodName := ⟨RX4, "names", "(I)Ljava/lang/String;"⟩
abbrev cX4_levelAtHand : ByteArray := prog_6_method_10_code
def yX4_levelAtHand : MethodName := ⟨RX4, "levelAtHand", "()I"⟩
abbrev cX4_put : ByteArray := prog_6_method_11_code
def yX4_put : MethodName := ⟨RX4, "put", "(I)V"⟩
abbrev cX4_level : ByteArray := prog_6_method_12_code
def yX4_level : MethodName := ⟨RX4, "level", "(III)Z"⟩
abbrev cX4_piece : ByteArray := prog_6_method_13_code
def yX4_piece : MethodName := ⟨RX4, "piece", "(II)Z"⟩
abbrev cX4_atomAtHand : ByteArray := prog_6_method_14_code
def yX4_atomAtHand : MethodName := ⟨RX4, "atomAtHand", "()I"⟩
def RX5 : String := "SnowOwed$Ring"
def TX5 : u_T := fun k => match k with
  | 0 => ("SnowOwed$Ring", "kinds", "[I", true)
  | 1 => ("SnowOwed$Ring", "snow", "[I", true)
  | 2 => ("SnowOwed$Ring", "gates", "[I", true)
  | 3 => ("SnowOwed$Ring", "broken", "[I", true)
  | _ => ("SnowOwed$Ring", "count", "I", false)
def tyX5 : Nat → FieldType := fun k => match k with
  | 0 => .array .int
  | 1 => .array .int
  | 2 => .array .int
  | 3 => .array .int
  | _ => .int
theorem nmX5 : ∀ a, a < 5 → ∀ b, b < 5 → a ≠ b → (TX5 a).2.1 ≠ (TX5 b).2.1 := by decide +kernel
theorem tyX5_ok : ∀ k, k < 5 → parseFieldDescriptor (TX5 k).2.2.1 = some (tyX5 k) := by decide +kernel
abbrev cX5_init : ByteArray := prog_7_method_1_code
def yX5_init : MethodName := ⟨RX5, "<init>", "()V"⟩
abbrev cX5_has : ByteArray := prog_7_method_2_code
def yX5_has : MethodName := ⟨RX5, "has", "(I)Z"⟩
abbrev cX5_add : ByteArray := prog_7_method_3_code
def yX5_add : MethodName := ⟨RX5, "add", "(III)I"⟩
abbrev cX5_squeezeThrough : ByteArray := prog_7_method_4_code
def yX5_squeezeThrough : MethodName := ⟨RX5, "squeezeThrough", "(II)I"⟩
abbrev cX5_snowOn : ByteArray := prog_7_method_5_code
def yX5_snowOn : MethodName := ⟨RX5, "snowOn", "(I)V"⟩
abbrev cX5_brokenOfAll : ByteArray := prog_7_method_6_code
def yX5_brokenOfAll : MethodName := ⟨RX5, "brokenOfAll", "()I"⟩
abbrev cX5_snowOfAll : ByteArray := prog_7_method_7_code
def yX5_snowOfAll : MethodName := ⟨RX5, "snowOfAll", "()I"⟩
abbrev cX5_become : ByteArray := prog_7_method_8_code
def yX5_become : MethodName := ⟨RX5, "become", "(LSnowOwed$Ring;)V"⟩
def RX6 : String := "SnowOwed$Sheet"
def TX6 : u_T := fun k => match k with
  | 0 => ("SnowOwed$Sheet", "numbers", "[I", true)
  | 1 => ("SnowOwed$Sheet", "sort", "I", false)
  | _ => ("SnowOwed$Sheet", "places", "I", false)
def tyX6 : Nat → FieldType := fun k => match k with
  | 0 => .array .int
  | 1 => .int
  | _ => .int
theorem nmX6 : ∀ a, a < 3 → ∀ b, b < 3 → a ≠ b → (TX6 a).2.1 ≠ (TX6 b).2.1 := by decide +kernel
theorem tyX6_ok : ∀ k, k < 3 → parseFieldDescriptor (TX6 k).2.2.1 = some (tyX6 k) := by decide +kernel
abbrev cX6_init : ByteArray := prog_8_method_1_code
def yX6_init : MethodName := ⟨RX6, "<init>", "()V"⟩
abbrev cX6_become : ByteArray := prog_8_method_2_code
def yX6_become : MethodName := ⟨RX6, "become", "(II)V"⟩
abbrev cX6_take : ByteArray := prog_8_method_3_code
def yX6_take : MethodName := ⟨RX6, "take", "(LSnowOwed$Sheet;)V"⟩
abbrev cX6_has : ByteArray := prog_8_method_4_code
def yX6_has : MethodName := ⟨RX6, "has", "(I)Z"⟩
abbrev cX6_hasMany : ByteArray := prog_8_method_5_code
def yX6_hasMany : MethodName := ⟨RX6, "hasMany", "(II)Z"⟩
def RX7 : String := "SnowOwed$Slot"
def TX7 : u_T := fun k => match k with
  | 0 => ("SnowOwed$Slot", "row", "LSnowOwed$Sheet;", true)
  | 1 => ("SnowOwed$Slot", "holds", "I", false)
  | 2 => ("SnowOwed$Slot", "kind", "I", false)
  | 3 => ("SnowOwed$Slot", "snow", "I", false)
  | 4 => ("SnowOwed$Slot", "gate", "I", false)
  | _ => ("SnowOwed$Slot", "number", "I", false)
def tyX7 : Nat → FieldType := fun k => match k with
  | 0 => .object "SnowOwed$Sheet"
  | 1 => .int
  | 2 => .int
  | 3 => .int
  | 4 => .int
  | _ => .int
theorem nmX7 : ∀ a, a < 6 → ∀ b, b < 6 → a ≠ b → (TX7 a).2.1 ≠ (TX7 b).2.1 := by decide +kernel
theorem tyX7_ok : ∀ k, k < 6 → parseFieldDescriptor (TX7 k).2.2.1 = some (tyX7 k) := by decide +kernel
abbrev cX7_init : ByteArray := prog_9_method_1_code
def yX7_init : MethodName := ⟨RX7, "<init>", "()V"⟩
abbrev cX7_takeYard : ByteArray := prog_9_method_2_code
def yX7_takeYard : MethodName := ⟨RX7, "takeYard", "(LSnowOwed$Ring;I)V"⟩
def RX8 : String := "SnowOwed$Tape"
def TX8 : u_T := fun k => match k with
  | 0 => ("SnowOwed$Tape", "bytes", "[I", true)
  | _ => ("SnowOwed$Tape", "length", "I", false)
def tyX8 : Nat → FieldType := fun k => match k with
  | 0 => .array .int
  | _ => .int
theorem nmX8 : ∀ a, a < 2 → ∀ b, b < 2 → a ≠ b → (TX8 a).2.1 ≠ (TX8 b).2.1 := by decide +kernel
theorem tyX8_ok : ∀ k, k < 2 → parseFieldDescriptor (TX8 k).2.2.1 = some (tyX8 k) := by decide +kernel
abbrev cX8_init : ByteArray := prog_10_method_1_code
def yX8_init : MethodName := ⟨RX8, "<init>", "()V"⟩
abbrev cX8_put : ByteArray := prog_10_method_2_code
def yX8_put : MethodName := ⟨RX8, "put", "(I)V"⟩
def RX9 : String := "SnowOwed$Village"
def TX9 : u_T := fun k => match k with
  | 0 => ("SnowOwed$Village", "ring", "LSnowOwed$Ring;", true)
  | 1 => ("SnowOwed$Village", "ball", "LSnowOwed$Ball;", true)
  | 2 => ("SnowOwed$Village", "counting", "[LSnowOwed$Law;", true)
  | 3 => ("SnowOwed$Village", "texts", "I", false)
  | 4 => ("SnowOwed$Village", "day", "I", false)
  | 5 => ("SnowOwed$Village", "warm", "I", false)
  | 6 => ("SnowOwed$Village", "fall", "I", false)
  | 7 => ("SnowOwed$Village", "move", "I", false)
  | _ => ("SnowOwed$Village", "z", "I", false)
def tyX9 : Nat → FieldType := fun k => match k with
  | 0 => .object "SnowOwed$Ring"
  | 1 => .object "SnowOwed$Ball"
  | 2 => .array (.object "SnowOwed$Law")
  | 3 => .int
  | 4 => .int
  | 5 => .int
  | 6 => .int
  | 7 => .int
  | _ => .int
theorem nmX9 : ∀ a, a < 9 → ∀ b, b < 9 → a ≠ b → (TX9 a).2.1 ≠ (TX9 b).2.1 := by decide +kernel
theorem tyX9_ok : ∀ k, k < 9 → parseFieldDescriptor (TX9 k).2.2.1 = some (tyX9 k) := by decide +kernel
abbrev cX9_init : ByteArray := prog_11_method_1_code
def yX9_init : MethodName := ⟨RX9, "<init>", "()V"⟩
abbrev cX9_become : ByteArray := prog_11_method_2_code
def yX9_become : MethodName := ⟨RX9, "become", "(LSnowOwed$Village;)V"⟩
abbrev cX9_adopt : ByteArray := prog_11_method_3_code
def yX9_adopt : MethodName := ⟨RX9, "adopt", "(LSnowOwed$Law;)V"⟩
abbrev cX9_drawnRest : ByteArray := prog_11_method_4_code
def yX9_drawnRest : MethodName := ⟨RX9, "drawnRest", "(I)I"⟩
abbrev cX9_ballSize : ByteArray := prog_11_method_5_code
def yX9_ballSize : MethodName := ⟨RX9, "ballSize", "()I"⟩
abbrev cX9_gives : ByteArray := prog_11_method_6_code
def yX9_gives : MethodName := ⟨RX9, "gives", "(I)I"⟩
abbrev cX9_fineOf : ByteArray := prog_11_method_7_code
def yX9_fineOf : MethodName := ⟨RX9, "fineOf", "(I)I"⟩
abbrev cX9_passDays : ByteArray := prog_11_method_8_code
def yX9_passDays : MethodName := ⟨RX9, "passDays", "(I)I"⟩
abbrev cX9_passDay : ByteArray := prog_11_method_9_code
def yX9_passDay : MethodName := ⟨RX9, "passDay", "()I"⟩
abbrev cX9_roll : ByteArray := prog_11_method_10_code
def yX9_roll : MethodName := ⟨RX9, "roll", "(II)I"⟩
def RX10 : String := "SnowOwed"
def TX10 : u_T := fun k => match k with
  | 0 => ("SnowOwed", "now", "LSnowOwed$Village;", true)
  | 1 => ("SnowOwed", "image", "LSnowOwed$Village;", true)
  | 2 => ("SnowOwed", "imageKept", "Z", false)
  | 3 => ("SnowOwed", "paths", "LSnowOwed$Paths;", true)
  | 4 => ("SnowOwed", "tape", "LSnowOwed$Tape;", true)
  | 5 => ("SnowOwed", "reader", "LSnowOwed$Reader;", true)
  | 6 => ("SnowOwed", "laws", "[LSnowOwed$Law;", true)
  | 7 => ("SnowOwed", "sheets", "[LSnowOwed$Sheet;", true)
  | 8 => ("SnowOwed", "slots", "[LSnowOwed$Slot;", true)
  | 9 => ("SnowOwed", "waiting", "[I", true)
  | _ => ("SnowOwed", "waits", "I", false)
def tyX10 : Nat → FieldType := fun k => match k with
  | 0 => .object "SnowOwed$Village"
  | 1 => .object "SnowOwed$Village"
  | 2 => .boolean
  | 3 => .object "SnowOwed$Paths"
  | 4 => .object "SnowOwed$Tape"
  | 5 => .object "SnowOwed$Reader"
  | 6 => .array (.object "SnowOwed$Law")
  | 7 => .array (.object "SnowOwed$Sheet")
  | 8 => .array (.object "SnowOwed$Slot")
  | 9 => .array .int
  | _ => .int
theorem nmX10 : ∀ a, a < 11 → ∀ b, b < 11 → a ≠ b → (TX10 a).2.1 ≠ (TX10 b).2.1 := by decide +kernel
theorem tyX10_ok : ∀ k, k < 11 → parseFieldDescriptor (TX10 k).2.2.1 = some (tyX10 k) := by decide +kernel
abbrev cX10_init : ByteArray := prog_1_method_1_code
def yX10_init : MethodName := ⟨RX10, "<init>", "()V"⟩
abbrev cX10_yard : ByteArray := prog_1_method_2_code
def yX10_yard : MethodName := ⟨RX10, "yard", "(III)I"⟩
abbrev cX10_told : ByteArray := prog_1_method_3_code
def yX10_told : MethodName := ⟨RX10, "told", "(II)I"⟩
abbrev cX10_as : ByteArray := prog_1_method_4_code
def yX10_as : MethodName := ⟨RX10, "as", "(II)I"⟩
abbrev cX10_turns : ByteArray := prog_1_method_5_code
def yX10_turns : MethodName := ⟨RX10, "turns", "(II)I"⟩
abbrev cX10_set : ByteArray := prog_1_method_6_code
def yX10_set : MethodName := ⟨RX10, "set", "(III)I"⟩
abbrev cX10_deal : ByteArray := prog_1_method_7_code
def yX10_deal : MethodName := ⟨RX10, "deal", "(I)I"⟩
abbrev cX10_seed : ByteArray := prog_1_method_8_code
def yX10_seed : MethodName := ⟨RX10, "seed", "(I)I"⟩
abbrev cX10_rule : ByteArray := prog_1_method_9_code
def yX10_rule : MethodName := ⟨RX10, "rule", "(II)I"⟩
abbrev cX10_at : ByteArray := prog_1_method_10_code
def yX10_at : MethodName := ⟨RX10, "at", "(I)I"⟩
abbrev cX10_ball : ByteArray := prog_1_method_11_code
def yX10_ball : MethodName := ⟨RX10, "ball", "(I)I"⟩
abbrev cX10_layer : ByteArray := prog_1_method_12_code
def yX10_layer : MethodName := ⟨RX10, "layer", "(II)I"⟩
abbrev cX10_pack : ByteArray := prog_1_method_13_code
def yX10_pack : MethodName := ⟨RX10, "pack", "(II)I"⟩
abbrev cX10_lose : ByteArray := prog_1_method_14_code
def yX10_lose : MethodName := ⟨RX10, "lose", "(I)I"⟩
abbrev cX10_find : ByteArray := prog_1_method_15_code
def yX10_find : MethodName := ⟨RX10, "find", "(I)I"⟩
abbrev cX10_thing : ByteArray := prog_1_method_16_code
def yX10_thing : MethodName := ⟨RX10, "thing", "(I)I"⟩
abbrev cX10_days : ByteArray := prog_1_method_17_code
def yX10_days : MethodName := ⟨RX10, "days", "(I)I"⟩
abbrev cX10_behind : ByteArray := prog_1_method_18_code
def yX10_behind : MethodName := ⟨RX10, "behind", "(II)I"⟩
abbrev cX10_gone : ByteArray := prog_1_method_19_code
def yX10_gone : MethodName := ⟨RX10, "gone", "()I"⟩
abbrev cX10_way : ByteArray := prog_1_method_20_code
def yX10_way : MethodName := ⟨RX10, "way", "(II)I"⟩
abbrev cX10_most : ByteArray := prog_1_method_21_code
def yX10_most : MethodName := ⟨RX10, "most", "()I"⟩
abbrev cX10_warmed : ByteArray := prog_1_method_22_code
def yX10_warmed : MethodName := ⟨RX10, "warmed", "(II)I"⟩
abbrev cX10_fine : ByteArray := prog_1_method_23_code
def yX10_fine : MethodName := ⟨RX10, "fine", "(I)I"⟩
abbrev cX10_feed : ByteArray := prog_1_method_24_code
def yX10_feed : MethodName := ⟨RX10, "feed", "(III)I"⟩
abbrev cX10_trim : ByteArray := prog_1_method_25_code
def yX10_trim : MethodName := ⟨RX10, "trim", "(I)I"⟩
abbrev cX10_text : ByteArray := prog_1_method_26_code
def yX10_text : MethodName := ⟨RX10, "text", "()I"⟩
abbrev cX10_textTold : ByteArray := prog_1_method_27_code
def yX10_textTold : MethodName := ⟨RX10, "textTold", "(II)I"⟩
abbrev cX10_why : ByteArray := prog_1_method_28_code
def yX10_why : MethodName := ⟨RX10, "why", "(I)I"⟩
abbrev cX10_sheet : ByteArray := prog_1_method_29_code
def yX10_sheet : MethodName := ⟨RX10, "sheet", "(III)I"⟩
abbrev cX10_mark : ByteArray := prog_1_method_30_code
def yX10_mark : MethodName := ⟨RX10, "mark", "(III)I"⟩
abbrev cX10_pour : ByteArray := prog_1_method_31_code
def yX10_pour : MethodName := ⟨RX10, "pour", "(I)I"⟩
abbrev cX10_reads : ByteArray := prog_1_method_32_code
def yX10_reads : MethodName := ⟨RX10, "reads", "(I)I"⟩
abbrev cX10_copy : ByteArray := prog_1_method_33_code
def yX10_copy : MethodName := ⟨RX10, "copy", "(IIIII)I"⟩
abbrev cX10_lay : ByteArray := prog_1_method_34_code
def yX10_lay : MethodName := ⟨RX10, "lay", "(III)I"⟩
abbrev cX10_ask : ByteArray := prog_1_method_35_code
def yX10_ask : MethodName := ⟨RX10, "ask", "(II)I"⟩
abbrev cX10_item : ByteArray := prog_1_method_36_code
def yX10_item : MethodName := ⟨RX10, "item", "(II)I"⟩
abbrev cX10_rest : ByteArray := prog_1_method_37_code
def yX10_rest : MethodName := ⟨RX10, "rest", "(II)I"⟩
abbrev cX10_tell : ByteArray := prog_1_method_38_code
def yX10_tell : MethodName := ⟨RX10, "tell", "(I)I"⟩
abbrev cX10_check : ByteArray := prog_1_method_39_code
def yX10_check : MethodName := ⟨RX10, "check", "(I)I"⟩
abbrev cX10_keep : ByteArray := prog_1_method_40_code
def yX10_keep : MethodName := ⟨RX10, "keep", "()I"⟩
abbrev cX10_back : ByteArray := prog_1_method_41_code
def yX10_back : MethodName := ⟨RX10, "back", "()I"⟩
abbrev cX10_count : ByteArray := prog_1_method_42_code
def yX10_count : MethodName := ⟨RX10, "count", "(I)I"⟩
abbrev cX10_isSnow : ByteArray := prog_1_method_43_code
def yX10_isSnow : MethodName := ⟨RX10, "isSnow", "(I)Z"⟩
abbrev cX10_isGate : ByteArray := prog_1_method_44_code
def yX10_isGate : MethodName := ⟨RX10, "isGate", "(I)Z"⟩
abbrev cX10_isThing : ByteArray := prog_1_method_45_code
def yX10_isThing : MethodName := ⟨RX10, "isThing", "(I)Z"⟩
abbrev cX10_isSheet : ByteArray := prog_1_method_46_code
def yX10_isSheet : MethodName := ⟨RX10, "isSheet", "(I)Z"⟩
abbrev cX10_isSlot : ByteArray := prog_1_method_47_code
def yX10_isSlot : MethodName := ⟨RX10, "isSlot", "(I)Z"⟩
abbrev cX10_held : ByteArray := prog_1_method_48_code
def yX10_held : MethodName := ⟨RX10, "held", "(II)I"⟩
abbrev cX10_differences : ByteArray := prog_1_method_49_code
def yX10_differences : MethodName := ⟨RX10, "differences", "(LSnowOwed$Sheet;I)I"⟩
abbrev cX10_waitsAt : ByteArray := prog_1_method_50_code
def yX10_waitsAt : MethodName := ⟨RX10, "waitsAt", "(III)Z"⟩
def RX11 : String := "SnowOwedModel"
def TX11 : u_T := fun k => match k with
  | 0 => ("SnowOwedModel", "now", "[I", true)
  | 1 => ("SnowOwedModel", "image", "[I", true)
  | 2 => ("SnowOwedModel", "aside", "[I", true)
  | 3 => ("SnowOwedModel", "hasImage", "Z", false)
  | 4 => ("SnowOwedModel", "before", "[I", true)
  | 5 => ("SnowOwedModel", "best", "[I", true)
  | 6 => ("SnowOwedModel", "tape", "[I", true)
  | 7 => ("SnowOwedModel", "taped", "I", false)
  | 8 => ("SnowOwedModel", "next", "I", false)
  | 9 => ("SnowOwedModel", "from", "I", false)
  | 10 => ("SnowOwedModel", "token", "I", false)
  | 11 => ("SnowOwedModel", "value", "I", false)
  | 12 => ("SnowOwedModel", "ended", "I", false)
  | 13 => ("SnowOwedModel", "key", "I", false)
  | 14 => ("SnowOwedModel", "keys", "[C", true)
  | 15 => ("SnowOwedModel", "keyAt", "[I", true)
  | 16 => ("SnowOwedModel", "code", "[I", true)
  | 17 => ("SnowOwedModel", "codes", "I", false)
  | 18 => ("SnowOwedModel", "atoms", "I", false)
  | 19 => ("SnowOwedModel", "waits", "[I", true)
  | 20 => ("SnowOwedModel", "held", "I", false)
  | 21 => ("SnowOwedModel", "tested", "[Z", true)
  | 22 => ("SnowOwedModel", "stack", "[I", true)
  | 23 => ("SnowOwedModel", "facts", "[I", true)
  | 24 => ("SnowOwedModel", "sorts", "[I", true)
  | 25 => ("SnowOwedModel", "sizes", "[I", true)
  | 26 => ("SnowOwedModel", "cells", "[I", true)
  | 27 => ("SnowOwedModel", "holds", "[I", true)
  | 28 => ("SnowOwedModel", "holdsA", "[I", true)
  | 29 => ("SnowOwedModel", "holdsB", "[I", true)
  | 30 => ("SnowOwedModel", "heldCells", "[I", true)
  | 31 => ("SnowOwedModel", "moved", "[I", true)
  | 32 => ("SnowOwedModel", "tells", "[I", true)
  | _ => ("SnowOwedModel", "waiting", "I", false)
def tyX11 : Nat → FieldType := fun k => match k with
  | 0 => .array .int
  | 1 => .array .int
  | 2 => .array .int
  | 3 => .boolean
  | 4 => .array .int
  | 5 => .array .int
  | 6 => .array .int
  | 7 => .int
  | 8 => .int
  | 9 => .int
  | 10 => .int
  | 11 => .int
  | 12 => .int
  | 13 => .int
  | 14 => .array .char
  | 15 => .array .int
  | 16 => .array .int
  | 17 => .int
  | 18 => .int
  | 19 => .array .int
  | 20 => .int
  | 21 => .array .boolean
  | 22 => .array .int
  | 23 => .array .int
  | 24 => .array .int
  | 25 => .array .int
  | 26 => .array .int
  | 27 => .array .int
  | 28 => .array .int
  | 29 => .array .int
  | 30 => .array .int
  | 31 => .array .int
  | 32 => .array .int
  | _ => .int
theorem nmX11 : ∀ a, a < 34 → ∀ b, b < 34 → a ≠ b → (TX11 a).2.1 ≠ (TX11 b).2.1 := by decide +kernel
theorem tyX11_ok : ∀ k, k < 34 → parseFieldDescriptor (TX11 k).2.2.1 = some (tyX11 k) := by decide +kernel
abbrev cX11_init : ByteArray := prog_13_method_1_code
def yX11_init : MethodName := ⟨RX11, "<init>", "()V"⟩
abbrev cX11_in : ByteArray := prog_13_method_2_code
def yX11_in : MethodName := ⟨RX11, "in", "(III)Z"⟩
abbrev cX11_within : ByteArray := prog_13_method_3_code
def yX11_within : MethodName := ⟨RX11, "within", "(III)I"⟩
abbrev cX11_copyAll : ByteArray := prog_13_method_4_code
def yX11_copyAll : MethodName := ⟨RX11, "copyAll", "([I[I)V"⟩
abbrev cX11_isYard : ByteArray := prog_13_method_5_code
def yX11_isYard : MethodName := ⟨RX11, "isYard", "(I)Z"⟩
abbrev cX11_of : ByteArray := prog_13_method_6_code
def yX11_of : MethodName := ⟨RX11, "of", "(II)I"⟩
abbrev cX11_put : ByteArray := prog_13_method_7_code
def yX11_put : MethodName := ⟨RX11, "put", "(III)V"⟩
abbrev cX11_becomes : ByteArray := prog_13_method_8_code
def yX11_becomes : MethodName := ⟨RX11, "becomes", "(II)I"⟩
abbrev cX11_comes : ByteArray := prog_13_method_9_code
def yX11_comes : MethodName := ⟨RX11, "comes", "(III)I"⟩
abbrev cX11_isOf : ByteArray := prog_13_method_10_code
def yX11_isOf : MethodName := ⟨RX11, "isOf", "(II)Z"⟩
abbrev cX11_yard : ByteArray := prog_13_method_11_code
def yX11_yard : MethodName := ⟨RX11, "yard", "(III)I"⟩
abbrev cX11_weight : ByteArray := prog_13_method_12_code
def yX11_weight : MethodName := ⟨RX11, "weight", "()I"⟩
abbrev cX11_wide : ByteArray := prog_13_method_13_code
def yX11_wide : MethodName := ⟨RX11, "wide", "()I"⟩
abbrev cX11_givesOf : ByteArray := prog_13_method_14_code
def yX11_givesOf : MethodName := ⟨RX11, "givesOf", "(I)I"⟩
abbrev cX11_goesOnBy : ByteArray := prog_13_method_15_code
def yX11_goesOnBy : MethodName := ⟨RX11, "goesOnBy", "(I)I"⟩
abbrev cX11_worthOf : ByteArray := prog_13_method_16_code
def yX11_worthOf : MethodName := ⟨RX11, "worthOf", "(I)I"⟩
abbrev cX11_ledTo : ByteArray := prog_13_method_17_code
def yX11_ledTo : MethodName := ⟨RX11, "ledTo", "(I)I"⟩
abbrev cX11_told : ByteArray := prog_13_method_18_code
def yX11_told : MethodName := ⟨RX11, "told", "(II)I"⟩
abbrev cX11_isUnder : ByteArray := prog_13_method_19_code
def yX11_isUnder : MethodName := ⟨RX11, "isUnder", "(II)Z"⟩
abbrev cX11_as : ByteArray := prog_13_method_20_code
def yX11_as : MethodName := ⟨RX11, "as", "(II)I"⟩
abbrev cX11_turns : ByteArray := prog_13_method_21_code
def yX11_turns : MethodName := ⟨RX11, "turns", "(II)I"⟩
abbrev cX11_set : ByteArray := prog_13_method_22_code
def yX11_set : MethodName := ⟨RX11, "set", "(III)I"⟩
abbrev cX11_draw : ByteArray := prog_13_method_23_code
def yX11_draw : MethodName := ⟨RX11, "draw", "()I"⟩
abbrev cX11_deal : ByteArray := prog_13_method_24_code
def yX11_deal : MethodName := ⟨RX11, "deal", "(I)I"⟩
abbrev cX11_seed : ByteArray := prog_13_method_25_code
def yX11_seed : MethodName := ⟨RX11, "seed", "(I)I"⟩
abbrev cX11_rule : ByteArray := prog_13_method_26_code
def yX11_rule : MethodName := ⟨RX11, "rule", "(II)I"⟩
abbrev cX11_at : ByteArray := prog_13_method_27_code
def yX11_at : MethodName := ⟨RX11, "at", "(I)I"⟩
abbrev cX11_ball : ByteArray := prog_13_method_28_code
def yX11_ball : MethodName := ⟨RX11, "ball", "(I)I"⟩
abbrev cX11_layer : ByteArray := prog_13_method_29_code
def yX11_layer : MethodName := ⟨RX11, "layer", "(II)I"⟩
abbrev cX11_packs : ByteArray := prog_13_method_30_code
def yX11_packs : MethodName := ⟨RX11, "packs", "(II)V"⟩
abbrev cX11_pack : ByteArray := prog_13_method_31_code
def yX11_pack : MethodName := ⟨RX11, "pack", "(II)I"⟩
abbrev cX11_isThing : ByteArray := prog_13_method_32_code
def yX11_isThing : MethodName := ⟨RX11, "isThing", "(I)Z"⟩
abbrev cX11_lose : ByteArray := prog_13_method_33_code
def yX11_lose : MethodName := ⟨RX11, "lose", "(I)I"⟩
abbrev cX11_find : ByteArray := prog_13_method_34_code
def yX11_find : MethodName := ⟨RX11, "find", "(I)I"⟩
abbrev cX11_thing : ByteArray := prog_13_method_35_code
def yX11_thing : MethodName := ⟨RX11, "thing", "(I)I"⟩
abbrev cX11_thaws : ByteArray := prog_13_method_36_code
def yX11_thaws : MethodName := ⟨RX11, "thaws", "(I)V"⟩
abbrev cX11_passes : ByteArray := prog_13_method_37_code
def yX11_passes : MethodName := ⟨RX11, "passes", "(I)I"⟩
abbrev cX11_day : ByteArray := prog_13_method_38_code
def yX11_day : MethodName := ⟨RX11, "day", "(I)I"⟩
abbrev cX11_goesOn : ByteArray := prog_13_method_39_code
def yX11_goesOn : MethodName := ⟨RX11, "goesOn", "(I)I"⟩
abbrev cX11_days : ByteArray := prog_13_method_40_code
def yX11_days : MethodName := ⟨RX11, "days", "(I)I"⟩
abbrev cX11_thinks : ByteArray := prog_13_method_41_code
def yX11_thinks : MethodName := ⟨RX11, "thinks", "()V"⟩
abbrev cX11_putsBack : ByteArray := prog_13_method_42_code
def yX11_putsBack : MethodName := ⟨RX11, "putsBack", "()V"⟩
abbrev cX11_sumOf : ByteArray := prog_13_method_43_code
def yX11_sumOf : MethodName := ⟨RX11, "sumOf", "(I)I"⟩
abbrev cX11_behind : ByteArray := prog_13_method_44_code
def yX11_behind : MethodName := ⟨RX11, "behind", "(II)I"⟩
abbrev cX11_gone : ByteArray := prog_13_method_45_code
def yX11_gone : MethodName := ⟨RX11, "gone", "()I"⟩
abbrev cX11_findWay : ByteArray := prog_13_method_46_code
def yX11_findWay : MethodName := ⟨RX11, "findWay", "(I)V"⟩
abbrev cX11_way : ByteArray := prog_13_method_47_code
def yX11_way : MethodName := ⟨RX11, "way", "(II)I"⟩
abbrev cX11_most : ByteArray := prog_13_method_48_code
def yX11_most : MethodName := ⟨RX11, "most", "()I"⟩
abbrev cX11_offBy : ByteArray := prog_13_method_49_code
def yX11_offBy : MethodName := ⟨RX11, "offBy", "(II)J"⟩
abbrev cX11_warmed : ByteArray := prog_13_method_50_code
def yX11_warmed : MethodName := ⟨RX11, "warmed", "(II)I"⟩
abbrev cX11_fine : ByteArray := prog_13_method_51_code
def yX11_fine : MethodName := ⟨RX11, "fine", "(I)I"⟩
abbrev cX11_feed : ByteArray := prog_13_method_52_code
def yX11_feed : MethodName := ⟨RX11, "feed", "(III)I"⟩
abbrev cX11_trim : ByteArray := prog_13_method_53_code
def yX11_trim : MethodName := ⟨RX11, "trim", "(I)I"⟩
abbrev cX11_isLetter : ByteArray := prog_13_method_54_code
def yX11_isLetter : MethodName := ⟨RX11, "isLetter", "(I)Z"⟩
abbrev cX11_isFigure : ByteArray := prog_13_method_55_code
def yX11_isFigure : MethodName := ⟨RX11, "isFigure", "(I)Z"⟩
abbrev cX11_go : ByteArray := prog_13_method_56_code
def yX11_go : MethodName := ⟨RX11, "go", "()V"⟩
abbrev cX11_takesKey : ByteArray := prog_13_method_57_code
def yX11_takesKey : MethodName := ⟨RX11, "takesKey", "()Z"⟩
abbrev cX11_nameOf : ByteArray := prog_13_method_58_code
def yX11_nameOf : MethodName := ⟨RX11, "nameOf", "(I)I"⟩
abbrev cX11_rank : ByteArray := prog_13_method_59_code
def yX11_rank : MethodName := ⟨RX11, "rank", "(I)I"⟩
abbrev cX11_settle : ByteArray := prog_13_method_60_code
def yX11_settle : MethodName := ⟨RX11, "settle", "(I)V"⟩
abbrev cX11_signHere : ByteArray := prog_13_method_61_code
def yX11_signHere : MethodName := ⟨RX11, "signHere", "()I"⟩
abbrev cX11_takesPart : ByteArray := prog_13_method_62_code
def yX11_takesPart : MethodName := ⟨RX11, "takesPart", "()Z"⟩
abbrev cX11_takesE : ByteArray := prog_13_method_63_code
def yX11_takesE : MethodName := ⟨RX11, "takesE", "()Z"⟩
abbrev cX11_notsOpen : ByteArray := prog_13_method_64_code
def yX11_notsOpen : MethodName := ⟨RX11, "notsOpen", "()I"⟩
abbrev cX11_text : ByteArray := prog_13_method_65_code
def yX11_text : MethodName := ⟨RX11, "text", "()I"⟩
abbrev cX11_textTold : ByteArray := prog_13_method_66_code
def yX11_textTold : MethodName := ⟨RX11, "textTold", "(II)I"⟩
abbrev cX11_counts : ByteArray := prog_13_method_67_code
def yX11_counts : MethodName := ⟨RX11, "counts", "(I)I"⟩
abbrev cX11_why : ByteArray := prog_13_method_68_code
def yX11_why : MethodName := ⟨RX11, "why", "(I)I"⟩
abbrev cX11_two : ByteArray := prog_13_method_69_code
def yX11_two : MethodName := ⟨RX11, "two", "(III)I"⟩
abbrev cX11_worksOut : ByteArray := prog_13_method_70_code
def yX11_worksOut : MethodName := ⟨RX11, "worksOut", "(I)I"⟩
abbrev cX11_isSheet : ByteArray := prog_13_method_71_code
def yX11_isSheet : MethodName := ⟨RX11, "isSheet", "(I)Z"⟩
abbrev cX11_isSlot : ByteArray := prog_13_method_72_code
def yX11_isSlot : MethodName := ⟨RX11, "isSlot", "(I)Z"⟩
abbrev cX11_sheet : ByteArray := prog_13_method_73_code
def yX11_sheet : MethodName := ⟨RX11, "sheet", "(III)I"⟩
abbrev cX11_mark : ByteArray := prog_13_method_74_code
def yX11_mark : MethodName := ⟨RX11, "mark", "(III)I"⟩
abbrev cX11_pour : ByteArray := prog_13_method_75_code
def yX11_pour : MethodName := ⟨RX11, "pour", "(I)I"⟩
abbrev cX11_reads : ByteArray := prog_13_method_76_code
def yX11_reads : MethodName := ⟨RX11, "reads", "(I)I"⟩
abbrev cX11_copy : ByteArray := prog_13_method_77_code
def yX11_copy : MethodName := ⟨RX11, "copy", "(IIIII)I"⟩
abbrev cX11_lay : ByteArray := prog_13_method_78_code
def yX11_lay : MethodName := ⟨RX11, "lay", "(III)I"⟩
abbrev cX11_ask : ByteArray := prog_13_method_79_code
def yX11_ask : MethodName := ⟨RX11, "ask", "(II)I"⟩
abbrev cX11_item : ByteArray := prog_13_method_80_code
def yX11_item : MethodName := ⟨RX11, "item", "(II)I"⟩
abbrev cX11_rest : ByteArray := prog_13_method_81_code
def yX11_rest : MethodName := ⟨RX11, "rest", "(II)I"⟩
abbrev cX11_tell : ByteArray := prog_13_method_82_code
def yX11_tell : MethodName := ⟨RX11, "tell", "(I)I"⟩
abbrev cX11_check : ByteArray := prog_13_method_83_code
def yX11_check : MethodName := ⟨RX11, "check", "(I)I"⟩
abbrev cX11_keep : ByteArray := prog_13_method_84_code
def yX11_keep : MethodName := ⟨RX11, "keep", "()I"⟩
abbrev cX11_back : ByteArray := prog_13_method_85_code
def yX11_back : MethodName := ⟨RX11, "back", "()I"⟩
abbrev cX11_count : ByteArray := prog_13_method_86_code
def yX11_count : MethodName := ⟨RX11, "count", "(I)I"⟩
def RJ11 : String := "java/lang/Character"
def TJ11 : u_T := fun k => match k with
  | _ => ("", "", "", false)
def tyJ11 : Nat → FieldType := fun k => match k with
  | _ => .int
abbrev cJ11_isValidCodePoint_9a6ad : ByteArray := prog_14_method_11_code
def yJ11_isValidCodePoint_9a6ad : MethodName := ⟨RJ11, "isValidCodePoint", "(I)Z"⟩
abbrev cJ11_highSurrogate_5068e : ByteArray := prog_14_method_28_code
def yJ11_highSurrogate_5068e : MethodName := ⟨RJ11, "highSurrogate", "(I)C"⟩
abbrev cJ11_lowSurrogate_5068e : ByteArray := prog_14_method_29_code
def yJ11_lowSurrogate_5068e : MethodName := ⟨RJ11, "lowSurrogate", "(I)C"⟩
def RJ9 : String := "java/lang/Math"
def TJ9 : u_T := fun k => match k with
  | _ => ("", "", "", false)
def tyJ9 : Nat → FieldType := fun k => match k with
  | _ => .int
abbrev cJ9_abs_0f7a4 : ByteArray := prog_15_method_59_code
def yJ9_abs_0f7a4 : MethodName := ⟨RJ9, "abs", "(I)I"⟩
abbrev cJ9_max_7cf53 : ByteArray := prog_15_method_65_code
def yJ9_max_7cf53 : MethodName := ⟨RJ9, "max", "(II)I"⟩
abbrev cJ9_min_7cf53 : ByteArray := prog_15_method_69_code
def yJ9_min_7cf53 : MethodName := ⟨RJ9, "min", "(II)I"⟩
def RJ0 : String := "java/lang/String"
def TJ0 : u_T := fun k => match k with
  | _ => ("", "", "", false)
def tyJ0 : Nat → FieldType := fun k => match k with
  | _ => .int
abbrev cJ0_length_8abf5 : ByteArray := prog_16_method_54_code
def yJ0_length_8abf5 : MethodName := ⟨RJ0, "length", "()I"⟩
abbrev cJ0_charAt_5068e : ByteArray := prog_16_method_56_code
def yJ0_charAt_5068e : MethodName := ⟨RJ0, "charAt", "(I)C"⟩
abbrev cJ0_indexOf_0f7a4 : ByteArray := prog_16_method_79_code
def yJ0_indexOf_0f7a4 : MethodName := ⟨RJ0, "indexOf", "(I)I"⟩
abbrev cJ0_indexOf_7cf53 : ByteArray := prog_16_method_80_code
def yJ0_indexOf_7cf53 : MethodName := ⟨RJ0, "indexOf", "(II)I"⟩
abbrev cJ0_coder_7d493 : ByteArray := prog_16_method_152_code
def yJ0_coder_7d493 : MethodName := ⟨RJ0, "coder", "()B"⟩
abbrev cJ0_isLatin1_aae02 : ByteArray := prog_16_method_154_code
def yJ0_isLatin1_aae02 : MethodName := ⟨RJ0, "isLatin1", "()Z"⟩
abbrev cJ0_checkIndex_df160 : ByteArray := prog_16_method_155_code
def yJ0_checkIndex_df160 : MethodName := ⟨RJ0, "checkIndex", "(II)V"⟩
abbrev cJ0_checkBoundsBeginEnd_23922 : ByteArray := prog_16_method_158_code
def yJ0_checkBoundsBeginEnd_23922 : MethodName := ⟨RJ0, "checkBoundsBeginEnd", "(III)V"⟩
def RJ1 : String := "java/lang/StringLatin1"
def TJ1 : u_T := fun k => match k with
  | _ => ("", "", "", false)
def tyJ1 : Nat → FieldType := fun k => match k with
  | _ => .int
abbrev cJ1_charAt_3b067 : ByteArray := prog_17_method_2_code
def yJ1_charAt_3b067 : MethodName := ⟨RJ1, "charAt", "([BI)C"⟩
abbrev cJ1_canEncode_9a6ad : ByteArray := prog_17_method_4_code
def yJ1_canEncode_9a6ad : MethodName := ⟨RJ1, "canEncode", "(I)Z"⟩
abbrev cJ1_indexOf_4cfef : ByteArray := prog_17_method_22_code
def yJ1_indexOf_4cfef : MethodName := ⟨RJ1, "indexOf", "([BIII)I"⟩
abbrev cJ1_indexOfChar_4cfef : ByteArray := prog_17_method_23_code
def yJ1_indexOfChar_4cfef : MethodName := ⟨RJ1, "indexOfChar", "([BIII)I"⟩
def RJ2 : String := "java/lang/StringUTF16"
def TJ2 : u_T := fun k => match k with
  | _ => ("", "", "", false)
def tyJ2 : Nat → FieldType := fun k => match k with
  | _ => .int
abbrev cJ2_getChar_3b067 : ByteArray := prog_18_method_5_code
def yJ2_getChar_3b067 : MethodName := ⟨RJ2, "getChar", "([BI)C"⟩
abbrev cJ2_length_9d52b : ByteArray := prog_18_method_6_code
def yJ2_length_9d52b : MethodName := ⟨RJ2, "length", "([B)I"⟩
abbrev cJ2_indexOf_4cfef : ByteArray := prog_18_method_40_code
def yJ2_indexOf_4cfef : MethodName := ⟨RJ2, "indexOf", "([BIII)I"⟩
abbrev cJ2_indexOfChar_4cfef : ByteArray := prog_18_method_47_code
def yJ2_indexOfChar_4cfef : MethodName := ⟨RJ2, "indexOfChar", "([BIII)I"⟩
abbrev cJ2_indexOfCharUnsafe_4cfef : ByteArray := prog_18_method_48_code
def yJ2_indexOfCharUnsafe_4cfef : MethodName := ⟨RJ2, "indexOfCharUnsafe", "([BIII)I"⟩
abbrev cJ2_indexOfSupplementary_4cfef : ByteArray := prog_18_method_49_code
def yJ2_indexOfSupplementary_4cfef : MethodName := ⟨RJ2, "indexOfSupplementary", "([BIII)I"⟩
abbrev cJ2_charAt_3b067 : ByteArray := prog_18_method_83_code
def yJ2_charAt_3b067 : MethodName := ⟨RJ2, "charAt", "([BI)C"⟩
abbrev cJ2_checkIndex_2214a : ByteArray := prog_18_method_91_code
def yJ2_checkIndex_2214a : MethodName := ⟨RJ2, "checkIndex", "(I[B)V"⟩
abbrev cJ2_checkBoundsBeginEnd_d044e : ByteArray := prog_18_method_93_code
def yJ2_checkBoundsBeginEnd_d044e : MethodName := ⟨RJ2, "checkBoundsBeginEnd", "(II[B)V"⟩
def RJ10 : String := "java/lang/System"
def TJ10 : u_T := fun k => match k with
  | _ => ("", "", "", false)
def tyJ10 : Nat → FieldType := fun k => match k with
  | _ => .int
def RJ3 : String := "jdk/internal/util/Preconditions"
def TJ3 : u_T := fun k => match k with
  | _ => ("", "", "", false)
def tyJ3 : Nat → FieldType := fun k => match k with
  | _ => .int
abbrev cJ3_checkIndex_8e157 : ByteArray := prog_20_method_11_code
def yJ3_checkIndex_8e157 : MethodName := ⟨RJ3, "checkIndex", "(IILjava/util/function/BiFunction;)I"⟩
abbrev cJ3_checkFromToIndex_8c36e : ByteArray := prog_20_method_12_code
def yJ3_checkFromToIndex_8c36e : MethodName := ⟨RJ3, "checkFromToIndex", "(IIILjava/util/function/BiFunction;)I"⟩
def RL : String := "SnowOwedLaw"
abbrev cL_law : ByteArray := code
def yL_law : MethodName := ⟨RL, "law", "([I)Z"⟩
abbrev vwCl : List vw_C := [(RX0, TX0, 7), (RX2, TX2, 5), (RX3, TX3, 5), (RX4, TX4, 9), (RX5, TX5, 5), (RX6, TX6, 3), (RX7, TX7, 6), (RX8, TX8, 2), (RX9, TX9, 9), (RX10, TX10, 11), (RX11, TX11, 34)]
end
section
-- decode rows, by program
theorem dX0_init_0 : decode cX0_init 0 = .ok (.aload_n 0, 1) := by decide +kernel
theorem dX0_init_1 : decode cX0_init 1 = .ok (.invokespecial 3, 3) := by decide +kernel
theorem dX0_init_4 : decode cX0_init 4 = .ok (.aload_n 0, 1) := by decide +kernel
theorem dX0_init_5 : decode cX0_init 5 = .ok (.bipush 30, 2) := by decide +kernel
theorem dX0_init_7 : decode cX0_init 7 = .ok (.newarray .int, 2) := by decide +kernel
theorem dX0_init_9 : decode cX0_init 9 = .ok (.putfield 9, 3) := by decide +kernel
theorem dX0_init_12 : decode cX0_init 12 = .ok (.aload_n 0, 1) := by decide +kernel
theorem dX0_init_13 : decode cX0_init 13 = .ok (.bipush 30, 2) := by decide +kernel
theorem dX0_init_15 : decode cX0_init 15 = .ok (.newarray .int, 2) := by decide +kernel
theorem dX0_init_17 : decode cX0_init 17 = .ok (.putfield 15, 3) := by decide +kernel
theorem dX0_init_20 : decode cX0_init 20 = .ok (.aload_n 0, 1) := by decide +kernel
theorem dX0_init_21 : decode cX0_init 21 = .ok (.bipush 6, 2) := by decide +kernel
theorem dX0_init_23 : decode cX0_init 23 = .ok (.newarray .int, 2) := by decide +kernel
theorem dX0_init_25 : decode cX0_init 25 = .ok (.putfield 18, 3) := by decide +kernel
theorem dX0_init_28 : decode cX0_init 28 = .ok (.aload_n 0, 1) := by decide +kernel
theorem dX0_init_29 : decode cX0_init 29 = .ok (.iconst 0, 1) := by decide +kernel
theorem dX0_init_30 : decode cX0_init 30 = .ok (.putfield 21, 3) := by decide +kernel
theorem dX0_init_33 : decode cX0_init 33 = .ok (.aload_n 0, 1) := by decide +kernel
theorem dX0_init_34 : decode cX0_init 34 = .ok (.iconst 0, 1) := by decide +kernel
theorem dX0_init_35 : decode cX0_init 35 = .ok (.putfield 25, 3) := by decide +kernel
theorem dX0_init_38 : decode cX0_init 38 = .ok (.aload_n 0, 1) := by decide +kernel
theorem dX0_init_39 : decode cX0_init 39 = .ok (.iconst 0, 1) := by decide +kernel
theorem dX0_init_40 : decode cX0_init 40 = .ok (.putfield 28, 3) := by decide +kernel
theorem dX0_init_43 : decode cX0_init 43 = .ok (.aload_n 0, 1) := by decide +kernel
theorem dX0_init_44 : decode cX0_init 44 = .ok (.iconst 0, 1) := by decide +kernel
theorem dX0_init_45 : decode cX0_init 45 = .ok (.putfield 31, 3) := by decide +kernel
theorem dX0_init_48 : decode cX0_init 48 = .ok (.iconst 0, 1) := by decide +kernel
theorem dX0_init_49 : decode cX0_init 49 = .ok (.istore_n 1, 1) := by decide +kernel
theorem dX0_init_50 : decode cX0_init 50 = .ok (.iload_n 1, 1) := by decide +kernel
theorem dX0_init_51 : decode cX0_init 51 = .ok (.bipush 6, 2) := by decide +kernel
theorem dX0_init_53 : decode cX0_init 53 = .ok (.if_icmp .ge 17, 3) := by decide +kernel
theorem dX0_init_56 : decode cX0_init 56 = .ok (.aload_n 0, 1) := by decide +kernel
theorem dX0_init_57 : decode cX0_init 57 = .ok (.getfield 18, 3) := by decide +kernel
theorem dX0_init_60 : decode cX0_init 60 = .ok (.iload_n 1, 1) := by decide +kernel
theorem dX0_init_61 : decode cX0_init 61 = .ok (.ldc 34, 2) := by decide +kernel
theorem dX0_init_63 : decode cX0_init 63 = .ok (.iastore, 1) := by decide +kernel
theorem dX0_init_64 : decode cX0_init 64 = .ok (.iinc 1 1, 3) := by decide +kernel
theorem dX0_init_67 : decode cX0_init 67 = .ok (.goto (-17), 3) := by decide +kernel
theorem dX0_init_70 : decode cX0_init 70 = .ok (.return_, 1) := by decide +kernel
theorem dX0_grow_0 : decode cX0_grow 0 = .ok (.iload_n 2, 1) := by decide +kernel
theorem dX0_grow_1 : decode cX0_grow 1 = .ok (.ifCond .gt 4, 3) := by decide +kernel
theorem dX0_grow_4 : decode cX0_grow 4 = .ok (.return_, 1) := by decide +kernel
theorem dX0_grow_5 : decode cX0_grow 5 = .ok (.aload_n 0, 1) := by decide +kernel
theorem dX0_grow_6 : decode cX0_grow 6 = .ok (.getfield 21, 3) := by decide +kernel
theorem dX0_grow_9 : decode cX0_grow 9 = .ok (.iconst 1, 1) := by decide +kernel
theorem dX0_grow_10 : decode cX0_grow 10 = .ok (.isub, 1) := by decide +kernel
theorem dX0_grow_11 : decode cX0_grow 11 = .ok (.istore_n 3, 1) := by decide +kernel
theorem dX0_grow_12 : decode cX0_grow 12 = .ok (.iload_n 3, 1) := by decide +kernel
theorem dX0_grow_13 : decode cX0_grow 13 = .ok (.ifCond .lt 35, 3) := by decide +kernel
theorem dX0_grow_16 : decode cX0_grow 16 = .ok (.aload_n 0, 1) := by decide +kernel
theorem dX0_grow_17 : decode cX0_grow 17 = .ok (.getfield 21, 3) := by decide +kernel
theorem dX0_grow_20 : decode cX0_grow 20 = .ok (.bipush 30, 2) := by decide +kernel
theorem dX0_grow_22 : decode cX0_grow 22 = .ok (.if_icmp .ge 13, 3) := by decide +kernel
theorem dX0_grow_25 : decode cX0_grow 25 = .ok (.aload_n 0, 1) := by decide +kernel
theorem dX0_grow_26 : decode cX0_grow 26 = .ok (.getfield 9, 3) := by decide +kernel
theorem dX0_grow_29 : decode cX0_grow 29 = .ok (.iload_n 3, 1) := by decide +kernel
theorem dX0_grow_30 : decode cX0_grow 30 = .ok (.iaload, 1) := by decide +kernel
theorem dX0_grow_31 : decode cX0_grow 31 = .ok (.iload_n 1, 1) := by decide +kernel
theorem dX0_grow_32 : decode cX0_grow 32 = .ok (.if_icmp .ne 16, 3) := by decide +kernel
theorem dX0_grow_35 : decode cX0_grow 35 = .ok (.aload_n 0, 1) := by decide +kernel
theorem dX0_grow_36 : decode cX0_grow 36 = .ok (.getfield 15, 3) := by decide +kernel
theorem dX0_grow_39 : decode cX0_grow 39 = .ok (.iload_n 3, 1) := by decide +kernel
theorem dX0_grow_40 : decode cX0_grow 40 = .ok (.dup2, 1) := by decide +kernel
theorem dX0_grow_41 : decode cX0_grow 41 = .ok (.iaload, 1) := by decide +kernel
theorem dX0_grow_42 : decode cX0_grow 42 = .ok (.iload_n 2, 1) := by decide +kernel
theorem dX0_grow_43 : decode cX0_grow 43 = .ok (.iadd, 1) := by decide +kernel
theorem dX0_grow_44 : decode cX0_grow 44 = .ok (.iastore, 1) := by decide +kernel
theorem dX0_grow_45 : decode cX0_grow 45 = .ok (.goto 33, 3) := by decide +kernel
theorem dX0_grow_48 : decode cX0_grow 48 = .ok (.aload_n 0, 1) := by decide +kernel
theorem dX0_grow_49 : decode cX0_grow 49 = .ok (.getfield 9, 3) := by decide +kernel
theorem dX0_grow_52 : decode cX0_grow 52 = .ok (.aload_n 0, 1) := by decide +kernel
theorem dX0_grow_53 : decode cX0_grow 53 = .ok (.getfield 21, 3) := by decide +kernel
theorem dX0_grow_56 : decode cX0_grow 56 = .ok (.iload_n 1, 1) := by decide +kernel
theorem dX0_grow_57 : decode cX0_grow 57 = .ok (.iastore, 1) := by decide +kernel
theorem dX0_grow_58 : decode cX0_grow 58 = .ok (.aload_n 0, 1) := by decide +kernel
theorem dX0_grow_59 : decode cX0_grow 59 = .ok (.getfield 15, 3) := by decide +kernel
theorem dX0_grow_62 : decode cX0_grow 62 = .ok (.aload_n 0, 1) := by decide +kernel
theorem dX0_grow_63 : decode cX0_grow 63 = .ok (.getfield 21, 3) := by decide +kernel
theorem dX0_grow_66 : decode cX0_grow 66 = .ok (.iload_n 2, 1) := by decide +kernel
theorem dX0_grow_67 : decode cX0_grow 67 = .ok (.iastore, 1) := by decide +kernel
theorem dX0_grow_68 : decode cX0_grow 68 = .ok (.aload_n 0, 1) := by decide +kernel
theorem dX0_grow_69 : decode cX0_grow 69 = .ok (.dup, 1) := by decide +kernel
theorem dX0_grow_70 : decode cX0_grow 70 = .ok (.getfield 21, 3) := by decide +kernel
theorem dX0_grow_73 : decode cX0_grow 73 = .ok (.iconst 1, 1) := by decide +kernel
theorem dX0_grow_74 : decode cX0_grow 74 = .ok (.iadd, 1) := by decide +kernel
theorem dX0_grow_75 : decode cX0_grow 75 = .ok (.putfield 21, 3) := by decide +kernel
theorem dX0_grow_78 : decode cX0_grow 78 = .ok (.aload_n 0, 1) := by decide +kernel
theorem dX0_grow_79 : decode cX0_grow 79 = .ok (.dup, 1) := by decide +kernel
theorem dX0_grow_80 : decode cX0_grow 80 = .ok (.getfield 25, 3) := by decide +kernel
theorem dX0_grow_83 : decode cX0_grow 83 = .ok (.iload_n 2, 1) := by decide +kernel
theorem dX0_grow_84 : decode cX0_grow 84 = .ok (.iadd, 1) := by decide +kernel
theorem dX0_grow_85 : decode cX0_grow 85 = .ok (.putfield 25, 3) := by decide +kernel
theorem dX0_grow_88 : decode cX0_grow 88 = .ok (.return_, 1) := by decide +kernel
theorem dX0_melt_0 : decode cX0_melt 0 = .ok (.iload_n 1, 1) := by decide +kernel
theorem dX0_melt_1 : decode cX0_melt 1 = .ok (.aload_n 0, 1) := by decide +kernel
theorem dX0_melt_2 : decode cX0_melt 2 = .ok (.getfield 25, 3) := by decide +kernel
theorem dX0_melt_5 : decode cX0_melt 5 = .ok (.invokestatic 35, 3) := by decide +kernel
theorem dX0_melt_8 : decode cX0_melt 8 = .ok (.istore_n 2, 1) := by decide +kernel
theorem dX0_melt_9 : decode cX0_melt 9 = .ok (.aload_n 0, 1) := by decide +kernel
theorem dX0_melt_10 : decode cX0_melt 10 = .ok (.dup, 1) := by decide +kernel
theorem dX0_melt_11 : decode cX0_melt 11 = .ok (.getfield 25, 3) := by decide +kernel
theorem dX0_melt_14 : decode cX0_melt 14 = .ok (.iload_n 2, 1) := by decide +kernel
theorem dX0_melt_15 : decode cX0_melt 15 = .ok (.isub, 1) := by decide +kernel
theorem dX0_melt_16 : decode cX0_melt 16 = .ok (.putfield 25, 3) := by decide +kernel
theorem dX0_melt_19 : decode cX0_melt 19 = .ok (.aload_n 0, 1) := by decide +kernel
theorem dX0_melt_20 : decode cX0_melt 20 = .ok (.dup, 1) := by decide +kernel
theorem dX0_melt_21 : decode cX0_melt 21 = .ok (.getfield 31, 3) := by decide +kernel
theorem dX0_melt_24 : decode cX0_melt 24 = .ok (.iload_n 2, 1) := by decide +kernel
theorem dX0_melt_25 : decode cX0_melt 25 = .ok (.iadd, 1) := by decide +kernel
theorem dX0_melt_26 : decode cX0_melt 26 = .ok (.putfield 31, 3) := by decide +kernel
theorem dX0_melt_29 : decode cX0_melt 29 = .ok (.aload_n 0, 1) := by decide +kernel
theorem dX0_melt_30 : decode cX0_melt 30 = .ok (.getfield 21, 3) := by decide +kernel
theorem dX0_melt_33 : decode cX0_melt 33 = .ok (.iconst 1, 1) := by decide +kernel
theorem dX0_melt_34 : decode cX0_melt 34 = .ok (.isub, 1) := by decide +kernel
theorem dX0_melt_35 : decode cX0_melt 35 = .ok (.istore_n 3, 1) := by decide +kernel
theorem dX0_melt_36 : decode cX0_melt 36 = .ok (.iload_n 3, 1) := by decide +kernel
theorem dX0_melt_37 : decode cX0_melt 37 = .ok (.ifCond .lt 60, 3) := by decide +kernel
theorem dX0_melt_40 : decode cX0_melt 40 = .ok (.iload_n 2, 1) := by decide +kernel
theorem dX0_melt_41 : decode cX0_melt 41 = .ok (.ifCond .le 56, 3) := by decide +kernel
theorem dX0_melt_44 : decode cX0_melt 44 = .ok (.iload_n 2, 1) := by decide +kernel
theorem dX0_melt_45 : decode cX0_melt 45 = .ok (.aload_n 0, 1) := by decide +kernel
theorem dX0_melt_46 : decode cX0_melt 46 = .ok (.getfield 15, 3) := by decide +kernel
theorem dX0_melt_49 : decode cX0_melt 49 = .ok (.iload_n 3, 1) := by decide +kernel
theorem dX0_melt_50 : decode cX0_melt 50 = .ok (.iaload, 1) := by decide +kernel
theorem dX0_melt_51 : decode cX0_melt 51 = .ok (.invokestatic 35, 3) := by decide +kernel
theorem dX0_melt_54 : decode cX0_melt 54 = .ok (.istore 4, 2) := by decide +kernel
theorem dX0_melt_56 : decode cX0_melt 56 = .ok (.aload_n 0, 1) := by decide +kernel
theorem dX0_melt_57 : decode cX0_melt 57 = .ok (.getfield 15, 3) := by decide +kernel
theorem dX0_melt_60 : decode cX0_melt 60 = .ok (.iload_n 3, 1) := by decide +kernel
theorem dX0_melt_61 : decode cX0_melt 61 = .ok (.dup2, 1) := by decide +kernel
theorem dX0_melt_62 : decode cX0_melt 62 = .ok (.iaload, 1) := by decide +kernel
theorem dX0_melt_63 : decode cX0_melt 63 = .ok (.iload 4, 2) := by decide +kernel
theorem dX0_melt_65 : decode cX0_melt 65 = .ok (.isub, 1) := by decide +kernel
theorem dX0_melt_66 : decode cX0_melt 66 = .ok (.iastore, 1) := by decide +kernel
theorem dX0_melt_67 : decode cX0_melt 67 = .ok (.iload_n 2, 1) := by decide +kernel
theorem dX0_melt_68 : decode cX0_melt 68 = .ok (.iload 4, 2) := by decide +kernel
theorem dX0_melt_70 : decode cX0_melt 70 = .ok (.isub, 1) := by decide +kernel
theorem dX0_melt_71 : decode cX0_melt 71 = .ok (.istore_n 2, 1) := by decide +kernel
theorem dX0_melt_72 : decode cX0_melt 72 = .ok (.aload_n 0, 1) := by decide +kernel
theorem dX0_melt_73 : decode cX0_melt 73 = .ok (.getfield 15, 3) := by decide +kernel
theorem dX0_melt_76 : decode cX0_melt 76 = .ok (.iload_n 3, 1) := by decide +kernel
theorem dX0_melt_77 : decode cX0_melt 77 = .ok (.iaload, 1) := by decide +kernel
theorem dX0_melt_78 : decode cX0_melt 78 = .ok (.ifCond .gt 13, 3) := by decide +kernel
theorem dX0_melt_81 : decode cX0_melt 81 = .ok (.aload_n 0, 1) := by decide +kernel
theorem dX0_melt_82 : decode cX0_melt 82 = .ok (.iload_n 3, 1) := by decide +kernel
theorem dX0_melt_83 : decode cX0_melt 83 = .ok (.putfield 21, 3) := by decide +kernel
theorem dX0_melt_86 : decode cX0_melt 86 = .ok (.aload_n 0, 1) := by decide +kernel
theorem dX0_melt_87 : decode cX0_melt 87 = .ok (.iload_n 3, 1) := by decide +kernel
theorem dX0_melt_88 : decode cX0_melt 88 = .ok (.invokevirtual 41, 3) := by decide +kernel
theorem dX0_melt_91 : decode cX0_melt 91 = .ok (.iinc 3 (-1), 3) := by decide +kernel
theorem dX0_melt_94 : decode cX0_melt 94 = .ok (.goto (-58), 3) := by decide +kernel
theorem dX0_melt_97 : decode cX0_melt 97 = .ok (.return_, 1) := by decide +kernel
theorem dX0_bareThings_0 : decode cX0_bareThings 0 = .ok (.iconst 0, 1) := by decide +kernel
theorem dX0_bareThings_1 : decode cX0_bareThings 1 = .ok (.istore_n 2, 1) := by decide +kernel
theorem dX0_bareThings_2 : decode cX0_bareThings 2 = .ok (.iload_n 2, 1) := by decide +kernel
theorem dX0_bareThings_3 : decode cX0_bareThings 3 = .ok (.bipush 6, 2) := by decide +kernel
theorem dX0_bareThings_5 : decode cX0_bareThings 5 = .ok (.if_icmp .ge 32, 3) := by decide +kernel
theorem dX0_bareThings_8 : decode cX0_bareThings 8 = .ok (.aload_n 0, 1) := by decide +kernel
theorem dX0_bareThings_9 : decode cX0_bareThings 9 = .ok (.getfield 18, 3) := by decide +kernel
theorem dX0_bareThings_12 : decode cX0_bareThings 12 = .ok (.iload_n 2, 1) := by decide +kernel
theorem dX0_bareThings_13 : decode cX0_bareThings 13 = .ok (.iaload, 1) := by decide +kernel
theorem dX0_bareThings_14 : decode cX0_bareThings 14 = .ok (.iload_n 1, 1) := by decide +kernel
theorem dX0_bareThings_15 : decode cX0_bareThings 15 = .ok (.if_icmp .ne 16, 3) := by decide +kernel
theorem dX0_bareThings_18 : decode cX0_bareThings 18 = .ok (.aload_n 0, 1) := by decide +kernel
theorem dX0_bareThings_19 : decode cX0_bareThings 19 = .ok (.getfield 18, 3) := by decide +kernel
theorem dX0_bareThings_22 : decode cX0_bareThings 22 = .ok (.iload_n 2, 1) := by decide +kernel
theorem dX0_bareThings_23 : decode cX0_bareThings 23 = .ok (.bipush 100, 2) := by decide +kernel
theorem dX0_bareThings_25 : decode cX0_bareThings 25 = .ok (.aload_n 0, 1) := by decide +kernel
theorem dX0_bareThings_26 : decode cX0_bareThings 26 = .ok (.getfield 28, 3) := by decide +kernel
theorem dX0_bareThings_29 : decode cX0_bareThings 29 = .ok (.iadd, 1) := by decide +kernel
theorem dX0_bareThings_30 : decode cX0_bareThings 30 = .ok (.iastore, 1) := by decide +kernel
theorem dX0_bareThings_31 : decode cX0_bareThings 31 = .ok (.iinc 2 1, 3) := by decide +kernel
theorem dX0_bareThings_34 : decode cX0_bareThings 34 = .ok (.goto (-32), 3) := by decide +kernel
theorem dX0_bareThings_37 : decode cX0_bareThings 37 = .ok (.return_, 1) := by decide +kernel
theorem dX0_led_0 : decode cX0_led 0 = .ok (.iconst 0, 1) := by decide +kernel
theorem dX0_led_1 : decode cX0_led 1 = .ok (.istore_n 2, 1) := by decide +kernel
theorem dX0_led_2 : decode cX0_led 2 = .ok (.iconst 0, 1) := by decide +kernel
theorem dX0_led_3 : decode cX0_led 3 = .ok (.istore_n 3, 1) := by decide +kernel
theorem dX0_led_4 : decode cX0_led 4 = .ok (.iload_n 3, 1) := by decide +kernel
theorem dX0_led_5 : decode cX0_led 5 = .ok (.aload_n 0, 1) := by decide +kernel
theorem dX0_led_6 : decode cX0_led 6 = .ok (.getfield 21, 3) := by decide +kernel
theorem dX0_led_9 : decode cX0_led 9 = .ok (.if_icmp .ge 28, 3) := by decide +kernel
theorem dX0_led_12 : decode cX0_led 12 = .ok (.aload_n 0, 1) := by decide +kernel
theorem dX0_led_13 : decode cX0_led 13 = .ok (.getfield 9, 3) := by decide +kernel
theorem dX0_led_16 : decode cX0_led 16 = .ok (.iload_n 3, 1) := by decide +kernel
theorem dX0_led_17 : decode cX0_led 17 = .ok (.iaload, 1) := by decide +kernel
theorem dX0_led_18 : decode cX0_led 18 = .ok (.iload_n 1, 1) := by decide +kernel
theorem dX0_led_19 : decode cX0_led 19 = .ok (.if_icmp .ne 12, 3) := by decide +kernel
theorem dX0_led_22 : decode cX0_led 22 = .ok (.iload_n 2, 1) := by decide +kernel
theorem dX0_led_23 : decode cX0_led 23 = .ok (.aload_n 0, 1) := by decide +kernel
theorem dX0_led_24 : decode cX0_led 24 = .ok (.getfield 15, 3) := by decide +kernel
theorem dX0_led_27 : decode cX0_led 27 = .ok (.iload_n 3, 1) := by decide +kernel
theorem dX0_led_28 : decode cX0_led 28 = .ok (.iaload, 1) := by decide +kernel
theorem dX0_led_29 : decode cX0_led 29 = .ok (.iadd, 1) := by decide +kernel
theorem dX0_led_30 : decode cX0_led 30 = .ok (.istore_n 2, 1) := by decide +kernel
theorem dX0_led_31 : decode cX0_led 31 = .ok (.iinc 3 1, 3) := by decide +kernel
theorem dX0_led_34 : decode cX0_led 34 = .ok (.goto (-30), 3) := by decide +kernel
theorem dX0_led_37 : decode cX0_led 37 = .ok (.iload_n 2, 1) := by decide +kernel
theorem dX0_led_38 : decode cX0_led 38 = .ok (.ireturn, 1) := by decide +kernel
theorem dX0_become_0 : decode cX0_become 0 = .ok (.aload_n 0, 1) := by decide +kernel
theorem dX0_become_1 : decode cX0_become 1 = .ok (.aload_n 1, 1) := by decide +kernel
theorem dX0_become_2 : decode cX0_become 2 = .ok (.getfield 21, 3) := by decide +kernel
theorem dX0_become_5 : decode cX0_become 5 = .ok (.putfield 21, 3) := by decide +kernel
theorem dX0_become_8 : decode cX0_become 8 = .ok (.aload_n 0, 1) := by decide +kernel
theorem dX0_become_9 : decode cX0_become 9 = .ok (.aload_n 1, 1) := by decide +kernel
theorem dX0_become_10 : decode cX0_become 10 = .ok (.getfield 25, 3) := by decide +kernel
theorem dX0_become_13 : decode cX0_become 13 = .ok (.putfield 25, 3) := by decide +kernel
theorem dX0_become_16 : decode cX0_become 16 = .ok (.aload_n 0, 1) := by decide +kernel
theorem dX0_become_17 : decode cX0_become 17 = .ok (.aload_n 1, 1) := by decide +kernel
theorem dX0_become_18 : decode cX0_become 18 = .ok (.getfield 28, 3) := by decide +kernel
theorem dX0_become_21 : decode cX0_become 21 = .ok (.putfield 28, 3) := by decide +kernel
theorem dX0_become_24 : decode cX0_become 24 = .ok (.aload_n 0, 1) := by decide +kernel
theorem dX0_become_25 : decode cX0_become 25 = .ok (.aload_n 1, 1) := by decide +kernel
theorem dX0_become_26 : decode cX0_become 26 = .ok (.getfield 31, 3) := by decide +kernel
theorem dX0_become_29 : decode cX0_become 29 = .ok (.putfield 31, 3) := by decide +kernel
theorem dX0_become_32 : decode cX0_become 32 = .ok (.aload_n 1, 1) := by decide +kernel
theorem dX0_become_33 : decode cX0_become 33 = .ok (.getfield 9, 3) := by decide +kernel
theorem dX0_become_36 : decode cX0_become 36 = .ok (.iconst 0, 1) := by decide +kernel
theorem dX0_become_37 : decode cX0_become 37 = .ok (.aload_n 0, 1) := by decide +kernel
theorem dX0_become_38 : decode cX0_become 38 = .ok (.getfield 9, 3) := by decide +kernel
theorem dX0_become_41 : decode cX0_become 41 = .ok (.iconst 0, 1) := by decide +kernel
theorem dX0_become_42 : decode cX0_become 42 = .ok (.aload_n 0, 1) := by decide +kernel
theorem dX0_become_43 : decode cX0_become 43 = .ok (.getfield 21, 3) := by decide +kernel
theorem dX0_become_46 : decode cX0_become 46 = .ok (.invokestatic 45, 3) := by decide +kernel
theorem dX0_become_49 : decode cX0_become 49 = .ok (.aload_n 1, 1) := by decide +kernel
theorem dX0_become_50 : decode cX0_become 50 = .ok (.getfield 15, 3) := by decide +kernel
theorem dX0_become_53 : decode cX0_become 53 = .ok (.iconst 0, 1) := by decide +kernel
theorem dX0_become_54 : decode cX0_become 54 = .ok (.aload_n 0, 1) := by decide +kernel
theorem dX0_become_55 : decode cX0_become 55 = .ok (.getfield 15, 3) := by decide +kernel
theorem dX0_become_58 : decode cX0_become 58 = .ok (.iconst 0, 1) := by decide +kernel
theorem dX0_become_59 : decode cX0_become 59 = .ok (.aload_n 0, 1) := by decide +kernel
theorem dX0_become_60 : decode cX0_become 60 = .ok (.getfield 21, 3) := by decide +kernel
theorem dX0_become_63 : decode cX0_become 63 = .ok (.invokestatic 45, 3) := by decide +kernel
theorem dX0_become_66 : decode cX0_become 66 = .ok (.aload_n 1, 1) := by decide +kernel
theorem dX0_become_67 : decode cX0_become 67 = .ok (.getfield 18, 3) := by decide +kernel
theorem dX0_become_70 : decode cX0_become 70 = .ok (.iconst 0, 1) := by decide +kernel
theorem dX0_become_71 : decode cX0_become 71 = .ok (.aload_n 0, 1) := by decide +kernel
theorem dX0_become_72 : decode cX0_become 72 = .ok (.getfield 18, 3) := by decide +kernel
theorem dX0_become_75 : decode cX0_become 75 = .ok (.iconst 0, 1) := by decide +kernel
theorem dX0_become_76 : decode cX0_become 76 = .ok (.bipush 6, 2) := by decide +kernel
theorem dX0_become_78 : decode cX0_become 78 = .ok (.invokestatic 45, 3) := by decide +kernel
theorem dX0_become_81 : decode cX0_become 81 = .ok (.return_, 1) := by decide +kernel
theorem dX1_has_0 : decode cX1_has 0 = .ok (.iload_n 0, 1) := by decide +kernel
theorem dX1_has_1 : decode cX1_has 1 = .ok (.ifCond .lt 12, 3) := by decide +kernel
theorem dX1_has_4 : decode cX1_has 4 = .ok (.iload_n 0, 1) := by decide +kernel
theorem dX1_has_5 : decode cX1_has 5 = .ok (.iconst 5, 1) := by decide +kernel
theorem dX1_has_6 : decode cX1_has 6 = .ok (.if_icmp .gt 7, 3) := by decide +kernel
theorem dX1_has_9 : decode cX1_has 9 = .ok (.iconst 1, 1) := by decide +kernel
theorem dX1_has_10 : decode cX1_has 10 = .ok (.goto 4, 3) := by decide +kernel
theorem dX1_has_13 : decode cX1_has 13 = .ok (.iconst 0, 1) := by decide +kernel
theorem dX1_has_14 : decode cX1_has 14 = .ok (.ireturn, 1) := by decide +kernel
theorem dX1_isOf_0 : decode cX1_isOf 0 = .ok (.iload_n 0, 1) := by decide +kernel
theorem dX1_isOf_1 : decode cX1_isOf 1 = .ok (.istore_n 2, 1) := by decide +kernel
theorem dX1_isOf_2 : decode cX1_isOf 2 = .ok (.iconst 0, 1) := by decide +kernel
theorem dX1_isOf_3 : decode cX1_isOf 3 = .ok (.istore_n 3, 1) := by decide +kernel
theorem dX1_isOf_4 : decode cX1_isOf 4 = .ok (.iload_n 3, 1) := by decide +kernel
theorem dX1_isOf_5 : decode cX1_isOf 5 = .ok (.getstatic 9, 3) := by decide +kernel
theorem dX1_isOf_8 : decode cX1_isOf 8 = .ok (.arraylength, 1) := by decide +kernel
theorem dX1_isOf_9 : decode cX1_isOf 9 = .ok (.if_icmp .ge 29, 3) := by decide +kernel
theorem dX1_isOf_12 : decode cX1_isOf 12 = .ok (.iload_n 2, 1) := by decide +kernel
theorem dX1_isOf_13 : decode cX1_isOf 13 = .ok (.invokestatic 15, 3) := by decide +kernel
theorem dX1_isOf_16 : decode cX1_isOf 16 = .ok (.ifCond .eq 22, 3) := by decide +kernel
theorem dX1_isOf_19 : decode cX1_isOf 19 = .ok (.iload_n 2, 1) := by decide +kernel
theorem dX1_isOf_20 : decode cX1_isOf 20 = .ok (.iload_n 1, 1) := by decide +kernel
theorem dX1_isOf_21 : decode cX1_isOf 21 = .ok (.if_icmp .ne 5, 3) := by decide +kernel
theorem dX1_isOf_24 : decode cX1_isOf 24 = .ok (.iconst 1, 1) := by decide +kernel
theorem dX1_isOf_25 : decode cX1_isOf 25 = .ok (.ireturn, 1) := by decide +kernel
theorem dX1_isOf_26 : decode cX1_isOf 26 = .ok (.getstatic 9, 3) := by decide +kernel
theorem dX1_isOf_29 : decode cX1_isOf 29 = .ok (.iload_n 2, 1) := by decide +kernel
theorem dX1_isOf_30 : decode cX1_isOf 30 = .ok (.iaload, 1) := by decide +kernel
theorem dX1_isOf_31 : decode cX1_isOf 31 = .ok (.istore_n 2, 1) := by decide +kernel
theorem dX1_isOf_32 : decode cX1_isOf 32 = .ok (.iinc 3 1, 3) := by decide +kernel
theorem dX1_isOf_35 : decode cX1_isOf 35 = .ok (.goto (-31), 3) := by decide +kernel
theorem dX1_isOf_38 : decode cX1_isOf 38 = .ok (.iconst 0, 1) := by decide +kernel
theorem dX1_isOf_39 : decode cX1_isOf 39 = .ok (.ireturn, 1) := by decide +kernel
theorem dX1_gift_0 : decode cX1_gift 0 = .ok (.iload_n 2, 1) := by decide +kernel
theorem dX1_gift_1 : decode cX1_gift 1 = .ok (.iload_n 1, 1) := by decide +kernel
theorem dX1_gift_2 : decode cX1_gift 2 = .ok (.bipush 10, 2) := by decide +kernel
theorem dX1_gift_4 : decode cX1_gift 4 = .ok (.iadd, 1) := by decide +kernel
theorem dX1_gift_5 : decode cX1_gift 5 = .ok (.invokestatic 19, 3) := by decide +kernel
theorem dX1_gift_8 : decode cX1_gift 8 = .ok (.istore_n 3, 1) := by decide +kernel
theorem dX1_gift_9 : decode cX1_gift 9 = .ok (.iload_n 0, 1) := by decide +kernel
theorem dX1_gift_10 : decode cX1_gift 10 = .ok (.tableswitch 50 1 5 #[34, 38, 34, 40, 48], 34) := by decide +kernel
theorem dX1_gift_44 : decode cX1_gift 44 = .ok (.iload_n 1, 1) := by decide +kernel
theorem dX1_gift_45 : decode cX1_gift 45 = .ok (.iconst 2, 1) := by decide +kernel
theorem dX1_gift_46 : decode cX1_gift 46 = .ok (.idiv, 1) := by decide +kernel
theorem dX1_gift_47 : decode cX1_gift 47 = .ok (.ireturn, 1) := by decide +kernel
theorem dX1_gift_48 : decode cX1_gift 48 = .ok (.iload_n 3, 1) := by decide +kernel
theorem dX1_gift_49 : decode cX1_gift 49 = .ok (.ireturn, 1) := by decide +kernel
theorem dX1_gift_50 : decode cX1_gift 50 = .ok (.iload_n 2, 1) := by decide +kernel
theorem dX1_gift_51 : decode cX1_gift 51 = .ok (.iconst 2, 1) := by decide +kernel
theorem dX1_gift_52 : decode cX1_gift 52 = .ok (.iload_n 3, 1) := by decide +kernel
theorem dX1_gift_53 : decode cX1_gift 53 = .ok (.imul, 1) := by decide +kernel
theorem dX1_gift_54 : decode cX1_gift 54 = .ok (.invokestatic 19, 3) := by decide +kernel
theorem dX1_gift_57 : decode cX1_gift 57 = .ok (.ireturn, 1) := by decide +kernel
theorem dX1_gift_58 : decode cX1_gift 58 = .ok (.iconst 0, 1) := by decide +kernel
theorem dX1_gift_59 : decode cX1_gift 59 = .ok (.ireturn, 1) := by decide +kernel
theorem dX1_gift_60 : decode cX1_gift 60 = .ok (.iload_n 1, 1) := by decide +kernel
theorem dX1_gift_61 : decode cX1_gift 61 = .ok (.ireturn, 1) := by decide +kernel
theorem dX1_goesOn_0 : decode cX1_goesOn 0 = .ok (.iload_n 0, 1) := by decide +kernel
theorem dX1_goesOn_1 : decode cX1_goesOn 1 = .ok (.lookupswitch 41 #[(3, 27), (5, 29)], 27) := by decide +kernel
theorem dX1_goesOn_28 : decode cX1_goesOn 28 = .ok (.iconst 2, 1) := by decide +kernel
theorem dX1_goesOn_29 : decode cX1_goesOn 29 = .ok (.ireturn, 1) := by decide +kernel
theorem dX1_goesOn_30 : decode cX1_goesOn 30 = .ok (.iload_n 1, 1) := by decide +kernel
theorem dX1_goesOn_31 : decode cX1_goesOn 31 = .ok (.iconst 2, 1) := by decide +kernel
theorem dX1_goesOn_32 : decode cX1_goesOn 32 = .ok (.irem, 1) := by decide +kernel
theorem dX1_goesOn_33 : decode cX1_goesOn 33 = .ok (.ifCond .ne 7, 3) := by decide +kernel
theorem dX1_goesOn_36 : decode cX1_goesOn 36 = .ok (.iconst 0, 1) := by decide +kernel
theorem dX1_goesOn_37 : decode cX1_goesOn 37 = .ok (.goto 4, 3) := by decide +kernel
theorem dX1_goesOn_40 : decode cX1_goesOn 40 = .ok (.iconst 1, 1) := by decide +kernel
theorem dX1_goesOn_41 : decode cX1_goesOn 41 = .ok (.ireturn, 1) := by decide +kernel
theorem dX1_goesOn_42 : decode cX1_goesOn 42 = .ok (.iconst 1, 1) := by decide +kernel
theorem dX1_goesOn_43 : decode cX1_goesOn 43 = .ok (.ireturn, 1) := by decide +kernel
theorem dX1_worth_0 : decode cX1_worth 0 = .ok (.iload_n 0, 1) := by decide +kernel
theorem dX1_worth_1 : decode cX1_worth 1 = .ok (.tableswitch 62 1 5 #[35, 45, 39, 51, 60], 35) := by decide +kernel
theorem dX1_worth_36 : decode cX1_worth 36 = .ok (.iload_n 1, 1) := by decide +kernel
theorem dX1_worth_37 : decode cX1_worth 37 = .ok (.iconst 5, 1) := by decide +kernel
theorem dX1_worth_38 : decode cX1_worth 38 = .ok (.iadd, 1) := by decide +kernel
theorem dX1_worth_39 : decode cX1_worth 39 = .ok (.ireturn, 1) := by decide +kernel
theorem dX1_worth_40 : decode cX1_worth 40 = .ok (.iconst 2, 1) := by decide +kernel
theorem dX1_worth_41 : decode cX1_worth 41 = .ok (.iload_n 1, 1) := by decide +kernel
theorem dX1_worth_42 : decode cX1_worth 42 = .ok (.iconst 5, 1) := by decide +kernel
theorem dX1_worth_43 : decode cX1_worth 43 = .ok (.iadd, 1) := by decide +kernel
theorem dX1_worth_44 : decode cX1_worth 44 = .ok (.imul, 1) := by decide +kernel
theorem dX1_worth_45 : decode cX1_worth 45 = .ok (.ireturn, 1) := by decide +kernel
theorem dX1_worth_46 : decode cX1_worth 46 = .ok (.sipush 999, 3) := by decide +kernel
theorem dX1_worth_49 : decode cX1_worth 49 = .ok (.iload_n 1, 1) := by decide +kernel
theorem dX1_worth_50 : decode cX1_worth 50 = .ok (.isub, 1) := by decide +kernel
theorem dX1_worth_51 : decode cX1_worth 51 = .ok (.ireturn, 1) := by decide +kernel
theorem dX1_worth_52 : decode cX1_worth 52 = .ok (.sipush 999, 3) := by decide +kernel
theorem dX1_worth_55 : decode cX1_worth 55 = .ok (.iload_n 1, 1) := by decide +kernel
theorem dX1_worth_56 : decode cX1_worth 56 = .ok (.isub, 1) := by decide +kernel
theorem dX1_worth_57 : decode cX1_worth 57 = .ok (.bipush 8, 2) := by decide +kernel
theorem dX1_worth_59 : decode cX1_worth 59 = .ok (.isub, 1) := by decide +kernel
theorem dX1_worth_60 : decode cX1_worth 60 = .ok (.ireturn, 1) := by decide +kernel
theorem dX1_worth_61 : decode cX1_worth 61 = .ok (.iload_n 2, 1) := by decide +kernel
theorem dX1_worth_62 : decode cX1_worth 62 = .ok (.ireturn, 1) := by decide +kernel
theorem dX1_worth_63 : decode cX1_worth 63 = .ok (.iload_n 1, 1) := by decide +kernel
theorem dX1_worth_64 : decode cX1_worth 64 = .ok (.ireturn, 1) := by decide +kernel
theorem dX2_init_0 : decode cX2_init 0 = .ok (.aload_n 0, 1) := by decide +kernel
theorem dX2_init_1 : decode cX2_init 1 = .ok (.invokespecial 1, 3) := by decide +kernel
theorem dX2_init_4 : decode cX2_init 4 = .ok (.aload_n 0, 1) := by decide +kernel
theorem dX2_init_5 : decode cX2_init 5 = .ok (.iload_n 1, 1) := by decide +kernel
theorem dX2_init_6 : decode cX2_init 6 = .ok (.putfield 7, 3) := by decide +kernel
theorem dX2_init_9 : decode cX2_init 9 = .ok (.aload_n 0, 1) := by decide +kernel
theorem dX2_init_10 : decode cX2_init 10 = .ok (.iload_n 2, 1) := by decide +kernel
theorem dX2_init_11 : decode cX2_init 11 = .ok (.putfield 13, 3) := by decide +kernel
theorem dX2_init_14 : decode cX2_init 14 = .ok (.aload_n 0, 1) := by decide +kernel
theorem dX2_init_15 : decode cX2_init 15 = .ok (.iload_n 3, 1) := by decide +kernel
theorem dX2_init_16 : decode cX2_init 16 = .ok (.putfield 16, 3) := by decide +kernel
theorem dX2_init_19 : decode cX2_init 19 = .ok (.aload_n 0, 1) := by decide +kernel
theorem dX2_init_20 : decode cX2_init 20 = .ok (.aload 4, 2) := by decide +kernel
theorem dX2_init_22 : decode cX2_init 22 = .ok (.putfield 19, 3) := by decide +kernel
theorem dX2_init_25 : decode cX2_init 25 = .ok (.aload_n 0, 1) := by decide +kernel
theorem dX2_init_26 : decode cX2_init 26 = .ok (.iload_n 3, 1) := by decide +kernel
theorem dX2_init_27 : decode cX2_init 27 = .ok (.newarray .int, 2) := by decide +kernel
theorem dX2_init_29 : decode cX2_init 29 = .ok (.putfield 23, 3) := by decide +kernel
theorem dX2_init_32 : decode cX2_init 32 = .ok (.return_, 1) := by decide +kernel
theorem dX2_value_0 : decode cX2_value 0 = .ok (.iconst 0, 1) := by decide +kernel
theorem dX2_value_1 : decode cX2_value 1 = .ok (.istore 4, 2) := by decide +kernel
theorem dX2_value_3 : decode cX2_value 3 = .ok (.aload_n 0, 1) := by decide +kernel
theorem dX2_value_4 : decode cX2_value 4 = .ok (.getfield 19, 3) := by decide +kernel
theorem dX2_value_7 : decode cX2_value 7 = .ok (.astore 5, 2) := by decide +kernel
theorem dX2_value_9 : decode cX2_value 9 = .ok (.aload 5, 2) := by decide +kernel
theorem dX2_value_11 : decode cX2_value 11 = .ok (.arraylength, 1) := by decide +kernel
theorem dX2_value_12 : decode cX2_value 12 = .ok (.istore 6, 2) := by decide +kernel
theorem dX2_value_14 : decode cX2_value 14 = .ok (.iconst 0, 1) := by decide +kernel
theorem dX2_value_15 : decode cX2_value 15 = .ok (.istore 7, 2) := by decide +kernel
theorem dX2_value_17 : decode cX2_value 17 = .ok (.iload 7, 2) := by decide +kernel
theorem dX2_value_19 : decode cX2_value 19 = .ok (.iload 6, 2) := by decide +kernel
theorem dX2_value_21 : decode cX2_value 21 = .ok (.if_icmp .ge 157, 3) := by decide +kernel
theorem dX2_value_24 : decode cX2_value 24 = .ok (.aload 5, 2) := by decide +kernel
theorem dX2_value_26 : decode cX2_value 26 = .ok (.iload 7, 2) := by decide +kernel
theorem dX2_value_28 : decode cX2_value 28 = .ok (.iaload, 1) := by decide +kernel
theorem dX2_value_29 : decode cX2_value 29 = .ok (.istore 8, 2) := by decide +kernel
theorem dX2_value_31 : decode cX2_value 31 = .ok (.iload 8, 2) := by decide +kernel
theorem dX2_value_33 : decode cX2_value 33 = .ok (.sipush 10100, 3) := by decide +kernel
theorem dX2_value_36 : decode cX2_value 36 = .ok (.if_icmp .ge 51, 3) := by decide +kernel
theorem dX2_value_39 : decode cX2_value 39 = .ok (.iload 4, 2) := by decide +kernel
theorem dX2_value_41 : decode cX2_value 41 = .ok (.aload_n 0, 1) := by decide +kernel
theorem dX2_value_42 : decode cX2_value 42 = .ok (.getfield 23, 3) := by decide +kernel
theorem dX2_value_45 : decode cX2_value 45 = .ok (.arraylength, 1) := by decide +kernel
theorem dX2_value_46 : decode cX2_value 46 = .ok (.if_icmp .ge 126, 3) := by decide +kernel
theorem dX2_value_49 : decode cX2_value 49 = .ok (.aload_n 0, 1) := by decide +kernel
theorem dX2_value_50 : decode cX2_value 50 = .ok (.getfield 23, 3) := by decide +kernel
theorem dX2_value_53 : decode cX2_value 53 = .ok (.iload 4, 2) := by decide +kernel
theorem dX2_value_55 : decode cX2_value 55 = .ok (.iload 8, 2) := by decide +kernel
theorem dX2_value_57 : decode cX2_value 57 = .ok (.sipush 10000, 3) := by decide +kernel
theorem dX2_value_60 : decode cX2_value 60 = .ok (.if_icmp .ge 8, 3) := by decide +kernel
theorem dX2_value_63 : decode cX2_value 63 = .ok (.iload 8, 2) := by decide +kernel
theorem dX2_value_65 : decode cX2_value 65 = .ok (.goto 15, 3) := by decide +kernel
theorem dX2_value_68 : decode cX2_value 68 = .ok (.iload 8, 2) := by decide +kernel
theorem dX2_value_70 : decode cX2_value 70 = .ok (.sipush 10000, 3) := by decide +kernel
theorem dX2_value_73 : decode cX2_value 73 = .ok (.isub, 1) := by decide +kernel
theorem dX2_value_74 : decode cX2_value 74 = .ok (.iload_n 1, 1) := by decide +kernel
theorem dX2_value_75 : decode cX2_value 75 = .ok (.iload_n 2, 1) := by decide +kernel
theorem dX2_value_76 : decode cX2_value 76 = .ok (.iload_n 3, 1) := by decide +kernel
theorem dX2_value_77 : decode cX2_value 77 = .ok (.invokestatic 26, 3) := by decide +kernel
theorem dX2_value_80 : decode cX2_value 80 = .ok (.iastore, 1) := by decide +kernel
theorem dX2_value_81 : decode cX2_value 81 = .ok (.iinc 4 1, 3) := by decide +kernel
theorem dX2_value_84 : decode cX2_value 84 = .ok (.goto 88, 3) := by decide +kernel
theorem dX2_value_87 : decode cX2_value 87 = .ok (.iload 8, 2) := by decide +kernel
theorem dX2_value_89 : decode cX2_value 89 = .ok (.sipush 10133, 3) := by decide +kernel
theorem dX2_value_92 : decode cX2_value 92 = .ok (.if_icmp .ne 37, 3) := by decide +kernel
theorem dX2_value_95 : decode cX2_value 95 = .ok (.iload 4, 2) := by decide +kernel
theorem dX2_value_97 : decode cX2_value 97 = .ok (.ifCond .le 75, 3) := by decide +kernel
theorem dX2_value_100 : decode cX2_value 100 = .ok (.aload_n 0, 1) := by decide +kernel
theorem dX2_value_101 : decode cX2_value 101 = .ok (.getfield 23, 3) := by decide +kernel
theorem dX2_value_104 : decode cX2_value 104 = .ok (.iload 4, 2) := by decide +kernel
theorem dX2_value_106 : decode cX2_value 106 = .ok (.iconst 1, 1) := by decide +kernel
theorem dX2_value_107 : decode cX2_value 107 = .ok (.isub, 1) := by decide +kernel
theorem dX2_value_108 : decode cX2_value 108 = .ok (.aload_n 0, 1) := by decide +kernel
theorem dX2_value_109 : decode cX2_value 109 = .ok (.getfield 23, 3) := by decide +kernel
theorem dX2_value_112 : decode cX2_value 112 = .ok (.iload 4, 2) := by decide +kernel
theorem dX2_value_114 : decode cX2_value 114 = .ok (.iconst 1, 1) := by decide +kernel
theorem dX2_value_115 : decode cX2_value 115 = .ok (.isub, 1) := by decide +kernel
theorem dX2_value_116 : decode cX2_value 116 = .ok (.iaload, 1) := by decide +kernel
theorem dX2_value_117 : decode cX2_value 117 = .ok (.ifCond .ne 7, 3) := by decide +kernel
theorem dX2_value_120 : decode cX2_value 120 = .ok (.iconst 1, 1) := by decide +kernel
theorem dX2_value_121 : decode cX2_value 121 = .ok (.goto 4, 3) := by decide +kernel
theorem dX2_value_124 : decode cX2_value 124 = .ok (.iconst 0, 1) := by decide +kernel
theorem dX2_value_125 : decode cX2_value 125 = .ok (.iastore, 1) := by decide +kernel
theorem dX2_value_126 : decode cX2_value 126 = .ok (.goto 46, 3) := by decide +kernel
theorem dX2_value_129 : decode cX2_value 129 = .ok (.iload 4, 2) := by decide +kernel
theorem dX2_value_131 : decode cX2_value 131 = .ok (.iconst 1, 1) := by decide +kernel
theorem dX2_value_132 : decode cX2_value 132 = .ok (.if_icmp .le 40, 3) := by decide +kernel
theorem dX2_value_135 : decode cX2_value 135 = .ok (.iinc 4 (-1), 3) := by decide +kernel
theorem dX2_value_138 : decode cX2_value 138 = .ok (.aload_n 0, 1) := by decide +kernel
theorem dX2_value_139 : decode cX2_value 139 = .ok (.getfield 23, 3) := by decide +kernel
theorem dX2_value_142 : decode cX2_value 142 = .ok (.iload 4, 2) := by decide +kernel
theorem dX2_value_144 : decode cX2_value 144 = .ok (.iconst 1, 1) := by decide +kernel
theorem dX2_value_145 : decode cX2_value 145 = .ok (.isub, 1) := by decide +kernel
theorem dX2_value_146 : decode cX2_value 146 = .ok (.iload 8, 2) := by decide +kernel
theorem dX2_value_148 : decode cX2_value 148 = .ok (.sipush 10100, 3) := by decide +kernel
theorem dX2_value_151 : decode cX2_value 151 = .ok (.isub, 1) := by decide +kernel
theorem dX2_value_152 : decode cX2_value 152 = .ok (.aload_n 0, 1) := by decide +kernel
theorem dX2_value_153 : decode cX2_value 153 = .ok (.getfield 23, 3) := by decide +kernel
theorem dX2_value_156 : decode cX2_value 156 = .ok (.iload 4, 2) := by decide +kernel
theorem dX2_value_158 : decode cX2_value 158 = .ok (.iconst 1, 1) := by decide +kernel
theorem dX2_value_159 : decode cX2_value 159 = .ok (.isub, 1) := by decide +kernel
theorem dX2_value_160 : decode cX2_value 160 = .ok (.iaload, 1) := by decide +kernel
theorem dX2_value_161 : decode cX2_value 161 = .ok (.aload_n 0, 1) := by decide +kernel
theorem dX2_value_162 : decode cX2_value 162 = .ok (.getfield 23, 3) := by decide +kernel
theorem dX2_value_165 : decode cX2_value 165 = .ok (.iload 4, 2) := by decide +kernel
theorem dX2_value_167 : decode cX2_value 167 = .ok (.iaload, 1) := by decide +kernel
theorem dX2_value_168 : decode cX2_value 168 = .ok (.invokestatic 30, 3) := by decide +kernel
theorem dX2_value_171 : decode cX2_value 171 = .ok (.iastore, 1) := by decide +kernel
theorem dX2_value_172 : decode cX2_value 172 = .ok (.iinc 7 1, 3) := by decide +kernel
theorem dX2_value_175 : decode cX2_value 175 = .ok (.goto (-158), 3) := by decide +kernel
theorem dX2_value_178 : decode cX2_value 178 = .ok (.iload 4, 2) := by decide +kernel
theorem dX2_value_180 : decode cX2_value 180 = .ok (.ifCond .le 15, 3) := by decide +kernel
theorem dX2_value_183 : decode cX2_value 183 = .ok (.aload_n 0, 1) := by decide +kernel
theorem dX2_value_184 : decode cX2_value 184 = .ok (.getfield 23, 3) := by decide +kernel
theorem dX2_value_187 : decode cX2_value 187 = .ok (.iload 4, 2) := by decide +kernel
theorem dX2_value_189 : decode cX2_value 189 = .ok (.iconst 1, 1) := by decide +kernel
theorem dX2_value_190 : decode cX2_value 190 = .ok (.isub, 1) := by decide +kernel
theorem dX2_value_191 : decode cX2_value 191 = .ok (.iaload, 1) := by decide +kernel
theorem dX2_value_192 : decode cX2_value 192 = .ok (.goto 4, 3) := by decide +kernel
theorem dX2_value_195 : decode cX2_value 195 = .ok (.iconst 0, 1) := by decide +kernel
theorem dX2_value_196 : decode cX2_value 196 = .ok (.ireturn, 1) := by decide +kernel
theorem dX2_named_0 : decode cX2_named 0 = .ok (.iload_n 0, 1) := by decide +kernel
theorem dX2_named_1 : decode cX2_named 1 = .ok (.ifCond .ne 7, 3) := by decide +kernel
theorem dX2_named_4 : decode cX2_named 4 = .ok (.iload_n 1, 1) := by decide +kernel
theorem dX2_named_5 : decode cX2_named 5 = .ok (.goto 13, 3) := by decide +kernel
theorem dX2_named_8 : decode cX2_named 8 = .ok (.iload_n 0, 1) := by decide +kernel
theorem dX2_named_9 : decode cX2_named 9 = .ok (.iconst 1, 1) := by decide +kernel
theorem dX2_named_10 : decode cX2_named 10 = .ok (.if_icmp .ne 7, 3) := by decide +kernel
theorem dX2_named_13 : decode cX2_named 13 = .ok (.iload_n 2, 1) := by decide +kernel
theorem dX2_named_14 : decode cX2_named 14 = .ok (.goto 4, 3) := by decide +kernel
theorem dX2_named_17 : decode cX2_named 17 = .ok (.iload_n 3, 1) := by decide +kernel
theorem dX2_named_18 : decode cX2_named 18 = .ok (.ireturn, 1) := by decide +kernel
theorem dX2_joined_0 : decode cX2_joined 0 = .ok (.iload_n 0, 1) := by decide +kernel
theorem dX2_joined_1 : decode cX2_joined 1 = .ok (.lookupswitch 148 #[(38, 89), (42, 144), (43, 136), (45, 140), (60, 103), (61, 114), (62, 125), (124, 75)], 75) := by decide +kernel
theorem dX2_joined_76 : decode cX2_joined 76 = .ok (.iload_n 1, 1) := by decide +kernel
theorem dX2_joined_77 : decode cX2_joined 77 = .ok (.ifCond .ne 7, 3) := by decide +kernel
theorem dX2_joined_80 : decode cX2_joined 80 = .ok (.iload_n 2, 1) := by decide +kernel
theorem dX2_joined_81 : decode cX2_joined 81 = .ok (.ifCond .eq 7, 3) := by decide +kernel
theorem dX2_joined_84 : decode cX2_joined 84 = .ok (.iconst 1, 1) := by decide +kernel
theorem dX2_joined_85 : decode cX2_joined 85 = .ok (.goto 4, 3) := by decide +kernel
theorem dX2_joined_88 : decode cX2_joined 88 = .ok (.iconst 0, 1) := by decide +kernel
theorem dX2_joined_89 : decode cX2_joined 89 = .ok (.ireturn, 1) := by decide +kernel
theorem dX2_joined_90 : decode cX2_joined 90 = .ok (.iload_n 1, 1) := by decide +kernel
theorem dX2_joined_91 : decode cX2_joined 91 = .ok (.ifCond .eq 11, 3) := by decide +kernel
theorem dX2_joined_94 : decode cX2_joined 94 = .ok (.iload_n 2, 1) := by decide +kernel
theorem dX2_joined_95 : decode cX2_joined 95 = .ok (.ifCond .eq 7, 3) := by decide +kernel
theorem dX2_joined_98 : decode cX2_joined 98 = .ok (.iconst 1, 1) := by decide +kernel
theorem dX2_joined_99 : decode cX2_joined 99 = .ok (.goto 4, 3) := by decide +kernel
theorem dX2_joined_102 : decode cX2_joined 102 = .ok (.iconst 0, 1) := by decide +kernel
theorem dX2_joined_103 : decode cX2_joined 103 = .ok (.ireturn, 1) := by decide +kernel
theorem dX2_joined_104 : decode cX2_joined 104 = .ok (.iload_n 1, 1) := by decide +kernel
theorem dX2_joined_105 : decode cX2_joined 105 = .ok (.iload_n 2, 1) := by decide +kernel
theorem dX2_joined_106 : decode cX2_joined 106 = .ok (.if_icmp .ge 7, 3) := by decide +kernel
theorem dX2_joined_109 : decode cX2_joined 109 = .ok (.iconst 1, 1) := by decide +kernel
theorem dX2_joined_110 : decode cX2_joined 110 = .ok (.goto 4, 3) := by decide +kernel
theorem dX2_joined_113 : decode cX2_joined 113 = .ok (.iconst 0, 1) := by decide +kernel
theorem dX2_joined_114 : decode cX2_joined 114 = .ok (.ireturn, 1) := by decide +kernel
theorem dX2_joined_115 : decode cX2_joined 115 = .ok (.iload_n 1, 1) := by decide +kernel
theorem dX2_joined_116 : decode cX2_joined 116 = .ok (.iload_n 2, 1) := by decide +kernel
theorem dX2_joined_117 : decode cX2_joined 117 = .ok (.if_icmp .ne 7, 3) := by decide +kernel
theorem dX2_joined_120 : decode cX2_joined 120 = .ok (.iconst 1, 1) := by decide +kernel
theorem dX2_joined_121 : decode cX2_joined 121 = .ok (.goto 4, 3) := by decide +kernel
theorem dX2_joined_124 : decode cX2_joined 124 = .ok (.iconst 0, 1) := by decide +kernel
theorem dX2_joined_125 : decode cX2_joined 125 = .ok (.ireturn, 1) := by decide +kernel
theorem dX2_joined_126 : decode cX2_joined 126 = .ok (.iload_n 1, 1) := by decide +kernel
theorem dX2_joined_127 : decode cX2_joined 127 = .ok (.iload_n 2, 1) := by decide +kernel
theorem dX2_joined_128 : decode cX2_joined 128 = .ok (.if_icmp .le 7, 3) := by decide +kernel
theorem dX2_joined_131 : decode cX2_joined 131 = .ok (.iconst 1, 1) := by decide +kernel
theorem dX2_joined_132 : decode cX2_joined 132 = .ok (.goto 4, 3) := by decide +kernel
theorem dX2_joined_135 : decode cX2_joined 135 = .ok (.iconst 0, 1) := by decide +kernel
theorem dX2_joined_136 : decode cX2_joined 136 = .ok (.ireturn, 1) := by decide +kernel
theorem dX2_joined_137 : decode cX2_joined 137 = .ok (.iload_n 1, 1) := by decide +kernel
theorem dX2_joined_138 : decode cX2_joined 138 = .ok (.iload_n 2, 1) := by decide +kernel
theorem dX2_joined_139 : decode cX2_joined 139 = .ok (.iadd, 1) := by decide +kernel
theorem dX2_joined_140 : decode cX2_joined 140 = .ok (.ireturn, 1) := by decide +kernel
theorem dX2_joined_141 : decode cX2_joined 141 = .ok (.iload_n 1, 1) := by decide +kernel
theorem dX2_joined_142 : decode cX2_joined 142 = .ok (.iload_n 2, 1) := by decide +kernel
theorem dX2_joined_143 : decode cX2_joined 143 = .ok (.isub, 1) := by decide +kernel
theorem dX2_joined_144 : decode cX2_joined 144 = .ok (.ireturn, 1) := by decide +kernel
theorem dX2_joined_145 : decode cX2_joined 145 = .ok (.iload_n 1, 1) := by decide +kernel
theorem dX2_joined_146 : decode cX2_joined 146 = .ok (.iload_n 2, 1) := by decide +kernel
theorem dX2_joined_147 : decode cX2_joined 147 = .ok (.imul, 1) := by decide +kernel
theorem dX2_joined_148 : decode cX2_joined 148 = .ok (.ireturn, 1) := by decide +kernel
theorem dX2_joined_149 : decode cX2_joined 149 = .ok (.iload_n 2, 1) := by decide +kernel
theorem dX2_joined_150 : decode cX2_joined 150 = .ok (.ifCond .ne 7, 3) := by decide +kernel
theorem dX2_joined_153 : decode cX2_joined 153 = .ok (.iconst 0, 1) := by decide +kernel
theorem dX2_joined_154 : decode cX2_joined 154 = .ok (.goto 6, 3) := by decide +kernel
theorem dX2_joined_157 : decode cX2_joined 157 = .ok (.iload_n 1, 1) := by decide +kernel
theorem dX2_joined_158 : decode cX2_joined 158 = .ok (.iload_n 2, 1) := by decide +kernel
theorem dX2_joined_159 : decode cX2_joined 159 = .ok (.idiv, 1) := by decide +kernel
theorem dX2_joined_160 : decode cX2_joined 160 = .ok (.ireturn, 1) := by decide +kernel
theorem dX3_init_0 : decode cX3_init 0 = .ok (.aload_n 0, 1) := by decide +kernel
theorem dX3_init_1 : decode cX3_init 1 = .ok (.invokespecial 3, 3) := by decide +kernel
theorem dX3_init_4 : decode cX3_init 4 = .ok (.aload_n 0, 1) := by decide +kernel
theorem dX3_init_5 : decode cX3_init 5 = .ok (.iconst 5, 1) := by decide +kernel
theorem dX3_init_6 : decode cX3_init 6 = .ok (.anewarray 9, 3) := by decide +kernel
theorem dX3_init_9 : decode cX3_init 9 = .ok (.putfield 11, 3) := by decide +kernel
theorem dX3_init_12 : decode cX3_init 12 = .ok (.aload_n 0, 1) := by decide +kernel
theorem dX3_init_13 : decode cX3_init 13 = .ok (.iconst 0, 1) := by decide +kernel
theorem dX3_init_14 : decode cX3_init 14 = .ok (.putfield 17, 3) := by decide +kernel
theorem dX3_init_17 : decode cX3_init 17 = .ok (.aload_n 0, 1) := by decide +kernel
theorem dX3_init_18 : decode cX3_init 18 = .ok (.iconst 0, 1) := by decide +kernel
theorem dX3_init_19 : decode cX3_init 19 = .ok (.putfield 21, 3) := by decide +kernel
theorem dX3_init_22 : decode cX3_init 22 = .ok (.aload_n 0, 1) := by decide +kernel
theorem dX3_init_23 : decode cX3_init 23 = .ok (.iconst 0, 1) := by decide +kernel
theorem dX3_init_24 : decode cX3_init 24 = .ok (.putfield 25, 3) := by decide +kernel
theorem dX3_init_27 : decode cX3_init 27 = .ok (.aload_n 0, 1) := by decide +kernel
theorem dX3_init_28 : decode cX3_init 28 = .ok (.iconst 0, 1) := by decide +kernel
theorem dX3_init_29 : decode cX3_init 29 = .ok (.putfield 28, 3) := by decide +kernel
theorem dX3_init_32 : decode cX3_init 32 = .ok (.iconst 0, 1) := by decide +kernel
theorem dX3_init_33 : decode cX3_init 33 = .ok (.istore_n 1, 1) := by decide +kernel
theorem dX3_init_34 : decode cX3_init 34 = .ok (.iload_n 1, 1) := by decide +kernel
theorem dX3_init_35 : decode cX3_init 35 = .ok (.iconst 5, 1) := by decide +kernel
theorem dX3_init_36 : decode cX3_init 36 = .ok (.if_icmp .ge 22, 3) := by decide +kernel
theorem dX3_init_39 : decode cX3_init 39 = .ok (.aload_n 0, 1) := by decide +kernel
theorem dX3_init_40 : decode cX3_init 40 = .ok (.getfield 11, 3) := by decide +kernel
theorem dX3_init_43 : decode cX3_init 43 = .ok (.iload_n 1, 1) := by decide +kernel
theorem dX3_init_44 : decode cX3_init 44 = .ok (.new 9, 3) := by decide +kernel
theorem dX3_init_47 : decode cX3_init 47 = .ok (.dup, 1) := by decide +kernel
theorem dX3_init_48 : decode cX3_init 48 = .ok (.invokespecial 31, 3) := by decide +kernel
theorem dX3_init_51 : decode cX3_init 51 = .ok (.aastore, 1) := by decide +kernel
theorem dX3_init_52 : decode cX3_init 52 = .ok (.iinc 1 1, 3) := by decide +kernel
theorem dX3_init_55 : decode cX3_init 55 = .ok (.goto (-21), 3) := by decide +kernel
theorem dX3_init_58 : decode cX3_init 58 = .ok (.return_, 1) := by decide +kernel
theorem dX3_thoughtOf_0 : decode cX3_thoughtOf 0 = .ok (.aload_n 0, 1) := by decide +kernel
theorem dX3_thoughtOf_1 : decode cX3_thoughtOf 1 = .ok (.getfield 11, 3) := by decide +kernel
theorem dX3_thoughtOf_4 : decode cX3_thoughtOf 4 = .ok (.iconst 0, 1) := by decide +kernel
theorem dX3_thoughtOf_5 : decode cX3_thoughtOf 5 = .ok (.aaload, 1) := by decide +kernel
theorem dX3_thoughtOf_6 : decode cX3_thoughtOf 6 = .ok (.aload_n 1, 1) := by decide +kernel
theorem dX3_thoughtOf_7 : decode cX3_thoughtOf 7 = .ok (.invokevirtual 32, 3) := by decide +kernel
theorem dX3_thoughtOf_10 : decode cX3_thoughtOf 10 = .ok (.aload_n 0, 1) := by decide +kernel
theorem dX3_thoughtOf_11 : decode cX3_thoughtOf 11 = .ok (.getfield 11, 3) := by decide +kernel
theorem dX3_thoughtOf_14 : decode cX3_thoughtOf 14 = .ok (.iconst 0, 1) := by decide +kernel
theorem dX3_thoughtOf_15 : decode cX3_thoughtOf 15 = .ok (.aaload, 1) := by decide +kernel
theorem dX3_thoughtOf_16 : decode cX3_thoughtOf 16 = .ok (.areturn, 1) := by decide +kernel
theorem dX3_search_0 : decode cX3_search 0 = .ok (.aload_n 0, 1) := by decide +kernel
theorem dX3_search_1 : decode cX3_search 1 = .ok (.iconst 0, 1) := by decide +kernel
theorem dX3_search_2 : decode cX3_search 2 = .ok (.putfield 17, 3) := by decide +kernel
theorem dX3_search_5 : decode cX3_search 5 = .ok (.aload_n 0, 1) := by decide +kernel
theorem dX3_search_6 : decode cX3_search 6 = .ok (.aload_n 1, 1) := by decide +kernel
theorem dX3_search_7 : decode cX3_search 7 = .ok (.iload_n 2, 1) := by decide +kernel
theorem dX3_search_8 : decode cX3_search 8 = .ok (.iconst 5, 1) := by decide +kernel
theorem dX3_search_9 : decode cX3_search 9 = .ok (.invokestatic 36, 3) := by decide +kernel
theorem dX3_search_12 : decode cX3_search 12 = .ok (.iconst 0, 1) := by decide +kernel
theorem dX3_search_13 : decode cX3_search 13 = .ok (.iconst 0, 1) := by decide +kernel
theorem dX3_search_14 : decode cX3_search 14 = .ok (.invokevirtual 42, 3) := by decide +kernel
theorem dX3_search_17 : decode cX3_search 17 = .ok (.return_, 1) := by decide +kernel
theorem dX3_branch_0 : decode cX3_branch 0 = .ok (.iload_n 3, 1) := by decide +kernel
theorem dX3_branch_1 : decode cX3_branch 1 = .ok (.iload_n 2, 1) := by decide +kernel
theorem dX3_branch_2 : decode cX3_branch 2 = .ok (.if_icmp .ge 8, 3) := by decide +kernel
theorem dX3_branch_5 : decode cX3_branch 5 = .ok (.iload_n 3, 1) := by decide +kernel
theorem dX3_branch_6 : decode cX3_branch 6 = .ok (.iconst 5, 1) := by decide +kernel
theorem dX3_branch_7 : decode cX3_branch 7 = .ok (.if_icmp .lt 11, 3) := by decide +kernel
theorem dX3_branch_10 : decode cX3_branch 10 = .ok (.aload_n 0, 1) := by decide +kernel
theorem dX3_branch_11 : decode cX3_branch 11 = .ok (.aload_n 1, 1) := by decide +kernel
theorem dX3_branch_12 : decode cX3_branch 12 = .ok (.iload 4, 2) := by decide +kernel
theorem dX3_branch_14 : decode cX3_branch 14 = .ok (.invokevirtual 46, 3) := by decide +kernel
theorem dX3_branch_17 : decode cX3_branch 17 = .ok (.return_, 1) := by decide +kernel
theorem dX3_branch_18 : decode cX3_branch 18 = .ok (.aload_n 0, 1) := by decide +kernel
theorem dX3_branch_19 : decode cX3_branch 19 = .ok (.getfield 11, 3) := by decide +kernel
theorem dX3_branch_22 : decode cX3_branch 22 = .ok (.iload_n 3, 1) := by decide +kernel
theorem dX3_branch_23 : decode cX3_branch 23 = .ok (.aaload, 1) := by decide +kernel
theorem dX3_branch_24 : decode cX3_branch 24 = .ok (.astore 5, 2) := by decide +kernel
theorem dX3_branch_26 : decode cX3_branch 26 = .ok (.iconst (-1), 1) := by decide +kernel
theorem dX3_branch_27 : decode cX3_branch 27 = .ok (.istore 6, 2) := by decide +kernel
theorem dX3_branch_29 : decode cX3_branch 29 = .ok (.iload 6, 2) := by decide +kernel
theorem dX3_branch_31 : decode cX3_branch 31 = .ok (.iconst 1, 1) := by decide +kernel
theorem dX3_branch_32 : decode cX3_branch 32 = .ok (.if_icmp .gt 47, 3) := by decide +kernel
theorem dX3_branch_35 : decode cX3_branch 35 = .ok (.aload 5, 2) := by decide +kernel
theorem dX3_branch_37 : decode cX3_branch 37 = .ok (.aload_n 1, 1) := by decide +kernel
theorem dX3_branch_38 : decode cX3_branch 38 = .ok (.invokevirtual 32, 3) := by decide +kernel
theorem dX3_branch_41 : decode cX3_branch 41 = .ok (.aload 5, 2) := by decide +kernel
theorem dX3_branch_43 : decode cX3_branch 43 = .ok (.iload 6, 2) := by decide +kernel
theorem dX3_branch_45 : decode cX3_branch 45 = .ok (.putfield 50, 3) := by decide +kernel
theorem dX3_branch_48 : decode cX3_branch 48 = .ok (.aload 5, 2) := by decide +kernel
theorem dX3_branch_50 : decode cX3_branch 50 = .ok (.invokevirtual 53, 3) := by decide +kernel
theorem dX3_branch_53 : decode cX3_branch 53 = .ok (.pop, 1) := by decide +kernel
theorem dX3_branch_54 : decode cX3_branch 54 = .ok (.aload_n 0, 1) := by decide +kernel
theorem dX3_branch_55 : decode cX3_branch 55 = .ok (.aload 5, 2) := by decide +kernel
theorem dX3_branch_57 : decode cX3_branch 57 = .ok (.iload_n 2, 1) := by decide +kernel
theorem dX3_branch_58 : decode cX3_branch 58 = .ok (.iload_n 3, 1) := by decide +kernel
theorem dX3_branch_59 : decode cX3_branch 59 = .ok (.iconst 1, 1) := by decide +kernel
theorem dX3_branch_60 : decode cX3_branch 60 = .ok (.iadd, 1) := by decide +kernel
theorem dX3_branch_61 : decode cX3_branch 61 = .ok (.iload 4, 2) := by decide +kernel
theorem dX3_branch_63 : decode cX3_branch 63 = .ok (.iconst 3, 1) := by decide +kernel
theorem dX3_branch_64 : decode cX3_branch 64 = .ok (.imul, 1) := by decide +kernel
theorem dX3_branch_65 : decode cX3_branch 65 = .ok (.iload 6, 2) := by decide +kernel
theorem dX3_branch_67 : decode cX3_branch 67 = .ok (.iadd, 1) := by decide +kernel
theorem dX3_branch_68 : decode cX3_branch 68 = .ok (.iconst 1, 1) := by decide +kernel
theorem dX3_branch_69 : decode cX3_branch 69 = .ok (.iadd, 1) := by decide +kernel
theorem dX3_branch_70 : decode cX3_branch 70 = .ok (.invokevirtual 42, 3) := by decide +kernel
theorem dX3_branch_73 : decode cX3_branch 73 = .ok (.iinc 6 1, 3) := by decide +kernel
theorem dX3_branch_76 : decode cX3_branch 76 = .ok (.goto (-47), 3) := by decide +kernel
theorem dX3_branch_79 : decode cX3_branch 79 = .ok (.return_, 1) := by decide +kernel
theorem dX3_weigh_0 : decode cX3_weigh 0 = .ok (.aload_n 1, 1) := by decide +kernel
theorem dX3_weigh_1 : decode cX3_weigh 1 = .ok (.getfield 57, 3) := by decide +kernel
theorem dX3_weigh_4 : decode cX3_weigh 4 = .ok (.invokevirtual 61, 3) := by decide +kernel
theorem dX3_weigh_7 : decode cX3_weigh 7 = .ok (.istore_n 3, 1) := by decide +kernel
theorem dX3_weigh_8 : decode cX3_weigh 8 = .ok (.aload_n 1, 1) := by decide +kernel
theorem dX3_weigh_9 : decode cX3_weigh 9 = .ok (.getfield 66, 3) := by decide +kernel
theorem dX3_weigh_12 : decode cX3_weigh 12 = .ok (.getfield 70, 3) := by decide +kernel
theorem dX3_weigh_15 : decode cX3_weigh 15 = .ok (.istore 4, 2) := by decide +kernel
theorem dX3_weigh_17 : decode cX3_weigh 17 = .ok (.iload_n 3, 1) := by decide +kernel
theorem dX3_weigh_18 : decode cX3_weigh 18 = .ok (.aload_n 0, 1) := by decide +kernel
theorem dX3_weigh_19 : decode cX3_weigh 19 = .ok (.getfield 21, 3) := by decide +kernel
theorem dX3_weigh_22 : decode cX3_weigh 22 = .ok (.if_icmp .lt 20, 3) := by decide +kernel
theorem dX3_weigh_25 : decode cX3_weigh 25 = .ok (.iload_n 3, 1) := by decide +kernel
theorem dX3_weigh_26 : decode cX3_weigh 26 = .ok (.aload_n 0, 1) := by decide +kernel
theorem dX3_weigh_27 : decode cX3_weigh 27 = .ok (.getfield 21, 3) := by decide +kernel
theorem dX3_weigh_30 : decode cX3_weigh 30 = .ok (.if_icmp .ne 16, 3) := by decide +kernel
theorem dX3_weigh_33 : decode cX3_weigh 33 = .ok (.iload 4, 2) := by decide +kernel
theorem dX3_weigh_35 : decode cX3_weigh 35 = .ok (.aload_n 0, 1) := by decide +kernel
theorem dX3_weigh_36 : decode cX3_weigh 36 = .ok (.getfield 25, 3) := by decide +kernel
theorem dX3_weigh_39 : decode cX3_weigh 39 = .ok (.if_icmp .le 7, 3) := by decide +kernel
theorem dX3_weigh_42 : decode cX3_weigh 42 = .ok (.iconst 1, 1) := by decide +kernel
theorem dX3_weigh_43 : decode cX3_weigh 43 = .ok (.goto 4, 3) := by decide +kernel
theorem dX3_weigh_46 : decode cX3_weigh 46 = .ok (.iconst 0, 1) := by decide +kernel
theorem dX3_weigh_47 : decode cX3_weigh 47 = .ok (.istore 5, 2) := by decide +kernel
theorem dX3_weigh_49 : decode cX3_weigh 49 = .ok (.aload_n 0, 1) := by decide +kernel
theorem dX3_weigh_50 : decode cX3_weigh 50 = .ok (.getfield 17, 3) := by decide +kernel
theorem dX3_weigh_53 : decode cX3_weigh 53 = .ok (.ifCond .eq 8, 3) := by decide +kernel
theorem dX3_weigh_56 : decode cX3_weigh 56 = .ok (.iload 5, 2) := by decide +kernel
theorem dX3_weigh_58 : decode cX3_weigh 58 = .ok (.ifCond .eq 24, 3) := by decide +kernel
theorem dX3_weigh_61 : decode cX3_weigh 61 = .ok (.aload_n 0, 1) := by decide +kernel
theorem dX3_weigh_62 : decode cX3_weigh 62 = .ok (.iconst 1, 1) := by decide +kernel
theorem dX3_weigh_63 : decode cX3_weigh 63 = .ok (.putfield 17, 3) := by decide +kernel
theorem dX3_weigh_66 : decode cX3_weigh 66 = .ok (.aload_n 0, 1) := by decide +kernel
theorem dX3_weigh_67 : decode cX3_weigh 67 = .ok (.iload_n 3, 1) := by decide +kernel
theorem dX3_weigh_68 : decode cX3_weigh 68 = .ok (.putfield 21, 3) := by decide +kernel
theorem dX3_weigh_71 : decode cX3_weigh 71 = .ok (.aload_n 0, 1) := by decide +kernel
theorem dX3_weigh_72 : decode cX3_weigh 72 = .ok (.iload 4, 2) := by decide +kernel
theorem dX3_weigh_74 : decode cX3_weigh 74 = .ok (.putfield 25, 3) := by decide +kernel
theorem dX3_weigh_77 : decode cX3_weigh 77 = .ok (.aload_n 0, 1) := by decide +kernel
theorem dX3_weigh_78 : decode cX3_weigh 78 = .ok (.iload_n 2, 1) := by decide +kernel
theorem dX3_weigh_79 : decode cX3_weigh 79 = .ok (.putfield 28, 3) := by decide +kernel
theorem dX3_weigh_82 : decode cX3_weigh 82 = .ok (.return_, 1) := by decide +kernel
theorem dX4_init_0 : decode cX4_init 0 = .ok (.aload_n 0, 1) := by decide +kernel
theorem dX4_init_1 : decode cX4_init 1 = .ok (.invokespecial 3, 3) := by decide +kernel
theorem dX4_init_4 : decode cX4_init 4 = .ok (.aload_n 0, 1) := by decide +kernel
theorem dX4_init_5 : decode cX4_init 5 = .ok (.bipush 96, 2) := by decide +kernel
theorem dX4_init_7 : decode cX4_init 7 = .ok (.newarray .int, 2) := by decide +kernel
theorem dX4_init_9 : decode cX4_init 9 = .ok (.putfield 9, 3) := by decide +kernel
theorem dX4_init_12 : decode cX4_init 12 = .ok (.aload_n 0, 1) := by decide +kernel
theorem dX4_init_13 : decode cX4_init 13 = .ok (.iconst 0, 1) := by decide +kernel
theorem dX4_init_14 : decode cX4_init 14 = .ok (.putfield 15, 3) := by decide +kernel
theorem dX4_init_17 : decode cX4_init 17 = .ok (.aload_n 0, 1) := by decide +kernel
theorem dX4_init_18 : decode cX4_init 18 = .ok (.iconst 0, 1) := by decide +kernel
theorem dX4_init_19 : decode cX4_init 19 = .ok (.putfield 19, 3) := by decide +kernel
theorem dX4_init_22 : decode cX4_init 22 = .ok (.aload_n 0, 1) := by decide +kernel
theorem dX4_init_23 : decode cX4_init 23 = .ok (.iconst 0, 1) := by decide +kernel
theorem dX4_init_24 : decode cX4_init 24 = .ok (.putfield 22, 3) := by decide +kernel
theorem dX4_init_27 : decode cX4_init 27 = .ok (.aload_n 0, 1) := by decide +kernel
theorem dX4_init_28 : decode cX4_init 28 = .ok (.aload_n 0, 1) := by decide +kernel
theorem dX4_init_29 : decode cX4_init 29 = .ok (.getfield 9, 3) := by decide +kernel
theorem dX4_init_32 : decode cX4_init 32 = .ok (.putfield 25, 3) := by decide +kernel
theorem dX4_init_35 : decode cX4_init 35 = .ok (.aload_n 0, 1) := by decide +kernel
theorem dX4_init_36 : decode cX4_init 36 = .ok (.iconst 0, 1) := by decide +kernel
theorem dX4_init_37 : decode cX4_init 37 = .ok (.putfield 28, 3) := by decide +kernel
theorem dX4_init_40 : decode cX4_init 40 = .ok (.aload_n 0, 1) := by decide +kernel
theorem dX4_init_41 : decode cX4_init 41 = .ok (.iconst 0, 1) := by decide +kernel
theorem dX4_init_42 : decode cX4_init 42 = .ok (.putfield 31, 3) := by decide +kernel
theorem dX4_init_45 : decode cX4_init 45 = .ok (.aload_n 0, 1) := by decide +kernel
theorem dX4_init_46 : decode cX4_init 46 = .ok (.iconst 0, 1) := by decide +kernel
theorem dX4_init_47 : decode cX4_init 47 = .ok (.putfield 34, 3) := by decide +kernel
theorem dX4_init_50 : decode cX4_init 50 = .ok (.aload_n 0, 1) := by decide +kernel
theorem dX4_init_51 : decode cX4_init 51 = .ok (.iconst 0, 1) := by decide +kernel
theorem dX4_init_52 : decode cX4_init 52 = .ok (.putfield 37, 3) := by decide +kernel
theorem dX4_init_55 : decode cX4_init 55 = .ok (.return_, 1) := by decide +kernel
theorem dX4_faultOf_0 : decode cX4_faultOf 0 = .ok (.aload_n 0, 1) := by decide +kernel
theorem dX4_faultOf_1 : decode cX4_faultOf 1 = .ok (.aload_n 1, 1) := by decide +kernel
theorem dX4_faultOf_2 : decode cX4_faultOf 2 = .ok (.getfield 40, 3) := by decide +kernel
theorem dX4_faultOf_5 : decode cX4_faultOf 5 = .ok (.putfield 25, 3) := by decide +kernel
theorem dX4_faultOf_8 : decode cX4_faultOf 8 = .ok (.aload_n 0, 1) := by decide +kernel
theorem dX4_faultOf_9 : decode cX4_faultOf 9 = .ok (.aload_n 1, 1) := by decide +kernel
theorem dX4_faultOf_10 : decode cX4_faultOf 10 = .ok (.getfield 43, 3) := by decide +kernel
theorem dX4_faultOf_13 : decode cX4_faultOf 13 = .ok (.aload_n 0, 1) := by decide +kernel
theorem dX4_faultOf_14 : decode cX4_faultOf 14 = .ok (.getfield 25, 3) := by decide +kernel
theorem dX4_faultOf_17 : decode cX4_faultOf 17 = .ok (.arraylength, 1) := by decide +kernel
theorem dX4_faultOf_18 : decode cX4_faultOf 18 = .ok (.invokestatic 44, 3) := by decide +kernel
theorem dX4_faultOf_21 : decode cX4_faultOf 21 = .ok (.putfield 28, 3) := by decide +kernel
theorem dX4_faultOf_24 : decode cX4_faultOf 24 = .ok (.aload_n 0, 1) := by decide +kernel
theorem dX4_faultOf_25 : decode cX4_faultOf 25 = .ok (.iconst 0, 1) := by decide +kernel
theorem dX4_faultOf_26 : decode cX4_faultOf 26 = .ok (.putfield 15, 3) := by decide +kernel
theorem dX4_faultOf_29 : decode cX4_faultOf 29 = .ok (.aload_n 0, 1) := by decide +kernel
theorem dX4_faultOf_30 : decode cX4_faultOf 30 = .ok (.iconst 0, 1) := by decide +kernel
theorem dX4_faultOf_31 : decode cX4_faultOf 31 = .ok (.putfield 19, 3) := by decide +kernel
theorem dX4_faultOf_34 : decode cX4_faultOf 34 = .ok (.aload_n 0, 1) := by decide +kernel
theorem dX4_faultOf_35 : decode cX4_faultOf 35 = .ok (.iconst 0, 1) := by decide +kernel
theorem dX4_faultOf_36 : decode cX4_faultOf 36 = .ok (.putfield 31, 3) := by decide +kernel
theorem dX4_faultOf_39 : decode cX4_faultOf 39 = .ok (.aload_n 0, 1) := by decide +kernel
theorem dX4_faultOf_40 : decode cX4_faultOf 40 = .ok (.iconst 0, 1) := by decide +kernel
theorem dX4_faultOf_41 : decode cX4_faultOf 41 = .ok (.putfield 37, 3) := by decide +kernel
theorem dX4_faultOf_44 : decode cX4_faultOf 44 = .ok (.aload_n 0, 1) := by decide +kernel
theorem dX4_faultOf_45 : decode cX4_faultOf 45 = .ok (.invokevirtual 50, 3) := by decide +kernel
theorem dX4_faultOf_48 : decode cX4_faultOf 48 = .ok (.aload_n 0, 1) := by decide +kernel
theorem dX4_faultOf_49 : decode cX4_faultOf 49 = .ok (.aload_n 0, 1) := by decide +kernel
theorem dX4_faultOf_50 : decode cX4_faultOf 50 = .ok (.invokevirtual 53, 3) := by decide +kernel
theorem dX4_faultOf_53 : decode cX4_faultOf 53 = .ok (.putfield 22, 3) := by decide +kernel
theorem dX4_faultOf_56 : decode cX4_faultOf 56 = .ok (.aload_n 0, 1) := by decide +kernel
theorem dX4_faultOf_57 : decode cX4_faultOf 57 = .ok (.getfield 22, 3) := by decide +kernel
theorem dX4_faultOf_60 : decode cX4_faultOf 60 = .ok (.ifCond .ge 8, 3) := by decide +kernel
theorem dX4_faultOf_63 : decode cX4_faultOf 63 = .ok (.aload_n 0, 1) := by decide +kernel
theorem dX4_faultOf_64 : decode cX4_faultOf 64 = .ok (.getfield 34, 3) := by decide +kernel
theorem dX4_faultOf_67 : decode cX4_faultOf 67 = .ok (.ireturn, 1) := by decide +kernel
theorem dX4_faultOf_68 : decode cX4_faultOf 68 = .ok (.aload_n 0, 1) := by decide +kernel
theorem dX4_faultOf_69 : decode cX4_faultOf 69 = .ok (.invokevirtual 50, 3) := by decide +kernel
theorem dX4_faultOf_72 : decode cX4_faultOf 72 = .ok (.aload_n 0, 1) := by decide +kernel
theorem dX4_faultOf_73 : decode cX4_faultOf 73 = .ok (.iconst 0, 1) := by decide +kernel
theorem dX4_faultOf_74 : decode cX4_faultOf 74 = .ok (.iconst 0, 1) := by decide +kernel
theorem dX4_faultOf_75 : decode cX4_faultOf 75 = .ok (.iconst 0, 1) := by decide +kernel
theorem dX4_faultOf_76 : decode cX4_faultOf 76 = .ok (.invokevirtual 57, 3) := by decide +kernel
theorem dX4_faultOf_79 : decode cX4_faultOf 79 = .ok (.ifCond .eq 14, 3) := by decide +kernel
theorem dX4_faultOf_82 : decode cX4_faultOf 82 = .ok (.aload_n 0, 1) := by decide +kernel
theorem dX4_faultOf_83 : decode cX4_faultOf 83 = .ok (.getfield 31, 3) := by decide +kernel
theorem dX4_faultOf_86 : decode cX4_faultOf 86 = .ok (.ifCond .ne 7, 3) := by decide +kernel
theorem dX4_faultOf_89 : decode cX4_faultOf 89 = .ok (.iconst (-1), 1) := by decide +kernel
theorem dX4_faultOf_90 : decode cX4_faultOf 90 = .ok (.goto 7, 3) := by decide +kernel
theorem dX4_faultOf_93 : decode cX4_faultOf 93 = .ok (.aload_n 0, 1) := by decide +kernel
theorem dX4_faultOf_94 : decode cX4_faultOf 94 = .ok (.getfield 34, 3) := by decide +kernel
theorem dX4_faultOf_97 : decode cX4_faultOf 97 = .ok (.ireturn, 1) := by decide +kernel
theorem dX4_lawNumbered_0 : decode cX4_lawNumbered 0 = .ok (.aload_n 0, 1) := by decide +kernel
theorem dX4_lawNumbered_1 : decode cX4_lawNumbered 1 = .ok (.getfield 15, 3) := by decide +kernel
theorem dX4_lawNumbered_4 : decode cX4_lawNumbered 4 = .ok (.newarray .int, 2) := by decide +kernel
theorem dX4_lawNumbered_6 : decode cX4_lawNumbered 6 = .ok (.astore_n 2, 1) := by decide +kernel
theorem dX4_lawNumbered_7 : decode cX4_lawNumbered 7 = .ok (.aload_n 0, 1) := by decide +kernel
theorem dX4_lawNumbered_8 : decode cX4_lawNumbered 8 = .ok (.getfield 9, 3) := by decide +kernel
theorem dX4_lawNumbered_11 : decode cX4_lawNumbered 11 = .ok (.iconst 0, 1) := by decide +kernel
theorem dX4_lawNumbered_12 : decode cX4_lawNumbered 12 = .ok (.aload_n 2, 1) := by decide +kernel
theorem dX4_lawNumbered_13 : decode cX4_lawNumbered 13 = .ok (.iconst 0, 1) := by decide +kernel
theorem dX4_lawNumbered_14 : decode cX4_lawNumbered 14 = .ok (.aload_n 0, 1) := by decide +kernel
theorem dX4_lawNumbered_15 : decode cX4_lawNumbered 15 = .ok (.getfield 15, 3) := by decide +kernel
theorem dX4_lawNumbered_18 : decode cX4_lawNumbered 18 = .ok (.invokestatic 61, 3) := by decide +kernel
theorem dX4_lawNumbered_21 : decode cX4_lawNumbered 21 = .ok (.new 67, 3) := by decide +kernel
theorem dX4_lawNumbered_24 : decode cX4_lawNumbered 24 = .ok (.dup, 1) := by decide +kernel
theorem dX4_lawNumbered_25 : decode cX4_lawNumbered 25 = .ok (.iload_n 1, 1) := by decide +kernel
theorem dX4_lawNumbered_26 : decode cX4_lawNumbered 26 = .ok (.aload_n 0, 1) := by decide +kernel
theorem dX4_lawNumbered_27 : decode cX4_lawNumbered 27 = .ok (.getfield 22, 3) := by decide +kernel
theorem dX4_lawNumbered_30 : decode cX4_lawNumbered 30 = .ok (.aload_n 0, 1) := by decide +kernel
theorem dX4_lawNumbered_31 : decode cX4_lawNumbered 31 = .ok (.getfield 19, 3) := by decide +kernel
theorem dX4_lawNumbered_34 : decode cX4_lawNumbered 34 = .ok (.aload_n 2, 1) := by decide +kernel
theorem dX4_lawNumbered_35 : decode cX4_lawNumbered 35 = .ok (.invokespecial 69, 3) := by decide +kernel
theorem dX4_lawNumbered_38 : decode cX4_lawNumbered 38 = .ok (.areturn, 1) := by decide +kernel
theorem dX4_next_0 : decode cX4_next 0 = .ok (.aload_n 0, 1) := by decide +kernel
theorem dX4_next_1 : decode cX4_next 1 = .ok (.getfield 31, 3) := by decide +kernel
theorem dX4_next_4 : decode cX4_next 4 = .ok (.iconst 1, 1) := by decide +kernel
theorem dX4_next_5 : decode cX4_next 5 = .ok (.if_icmp .eq 11, 3) := by decide +kernel
theorem dX4_next_8 : decode cX4_next 8 = .ok (.aload_n 0, 1) := by decide +kernel
theorem dX4_next_9 : decode cX4_next 9 = .ok (.getfield 31, 3) := by decide +kernel
theorem dX4_next_12 : decode cX4_next 12 = .ok (.iconst 2, 1) := by decide +kernel
theorem dX4_next_13 : decode cX4_next 13 = .ok (.if_icmp .ne 10, 3) := by decide +kernel
theorem dX4_next_16 : decode cX4_next 16 = .ok (.aload_n 0, 1) := by decide +kernel
theorem dX4_next_17 : decode cX4_next 17 = .ok (.getfield 37, 3) := by decide +kernel
theorem dX4_next_20 : decode cX4_next 20 = .ok (.goto 4, 3) := by decide +kernel
theorem dX4_next_23 : decode cX4_next 23 = .ok (.iconst (-1), 1) := by decide +kernel
theorem dX4_next_24 : decode cX4_next 24 = .ok (.istore_n 1, 1) := by decide +kernel
theorem dX4_next_25 : decode cX4_next 25 = .ok (.aload_n 0, 1) := by decide +kernel
theorem dX4_next_26 : decode cX4_next 26 = .ok (.aload_n 0, 1) := by decide +kernel
theorem dX4_next_27 : decode cX4_next 27 = .ok (.getfield 37, 3) := by decide +kernel
theorem dX4_next_30 : decode cX4_next 30 = .ok (.putfield 34, 3) := by decide +kernel
theorem dX4_next_33 : decode cX4_next 33 = .ok (.aload_n 0, 1) := by decide +kernel
theorem dX4_next_34 : decode cX4_next 34 = .ok (.getfield 34, 3) := by decide +kernel
theorem dX4_next_37 : decode cX4_next 37 = .ok (.aload_n 0, 1) := by decide +kernel
theorem dX4_next_38 : decode cX4_next 38 = .ok (.getfield 28, 3) := by decide +kernel
theorem dX4_next_41 : decode cX4_next 41 = .ok (.if_icmp .ge 30, 3) := by decide +kernel
theorem dX4_next_44 : decode cX4_next 44 = .ok (.aload_n 0, 1) := by decide +kernel
theorem dX4_next_45 : decode cX4_next 45 = .ok (.getfield 25, 3) := by decide +kernel
theorem dX4_next_48 : decode cX4_next 48 = .ok (.aload_n 0, 1) := by decide +kernel
theorem dX4_next_49 : decode cX4_next 49 = .ok (.getfield 34, 3) := by decide +kernel
theorem dX4_next_52 : decode cX4_next 52 = .ok (.iaload, 1) := by decide +kernel
theorem dX4_next_53 : decode cX4_next 53 = .ok (.bipush 32, 2) := by decide +kernel
theorem dX4_next_55 : decode cX4_next 55 = .ok (.if_icmp .ne 16, 3) := by decide +kernel
theorem dX4_next_58 : decode cX4_next 58 = .ok (.aload_n 0, 1) := by decide +kernel
theorem dX4_next_59 : decode cX4_next 59 = .ok (.dup, 1) := by decide +kernel
theorem dX4_next_60 : decode cX4_next 60 = .ok (.getfield 34, 3) := by decide +kernel
theorem dX4_next_63 : decode cX4_next 63 = .ok (.iconst 1, 1) := by decide +kernel
theorem dX4_next_64 : decode cX4_next 64 = .ok (.iadd, 1) := by decide +kernel
theorem dX4_next_65 : decode cX4_next 65 = .ok (.putfield 34, 3) := by decide +kernel
theorem dX4_next_68 : decode cX4_next 68 = .ok (.goto (-35), 3) := by decide +kernel
theorem dX4_next_71 : decode cX4_next 71 = .ok (.aload_n 0, 1) := by decide +kernel
theorem dX4_next_72 : decode cX4_next 72 = .ok (.aload_n 0, 1) := by decide +kernel
theorem dX4_next_73 : decode cX4_next 73 = .ok (.getfield 34, 3) := by decide +kernel
theorem dX4_next_76 : decode cX4_next 76 = .ok (.putfield 37, 3) := by decide +kernel
theorem dX4_next_79 : decode cX4_next 79 = .ok (.aload_n 0, 1) := by decide +kernel
theorem dX4_next_80 : decode cX4_next 80 = .ok (.getfield 34, 3) := by decide +kernel
theorem dX4_next_83 : decode cX4_next 83 = .ok (.aload_n 0, 1) := by decide +kernel
theorem dX4_next_84 : decode cX4_next 84 = .ok (.getfield 28, 3) := by decide +kernel
theorem dX4_next_87 : decode cX4_next 87 = .ok (.if_icmp .lt 9, 3) := by decide +kernel
theorem dX4_next_90 : decode cX4_next 90 = .ok (.aload_n 0, 1) := by decide +kernel
theorem dX4_next_91 : decode cX4_next 91 = .ok (.iconst 0, 1) := by decide +kernel
theorem dX4_next_92 : decode cX4_next 92 = .ok (.putfield 31, 3) := by decide +kernel
theorem dX4_next_95 : decode cX4_next 95 = .ok (.return_, 1) := by decide +kernel
theorem dX4_next_96 : decode cX4_next 96 = .ok (.aload_n 0, 1) := by decide +kernel
theorem dX4_next_97 : decode cX4_next 97 = .ok (.aload_n 0, 1) := by decide +kernel
theorem dX4_next_98 : decode cX4_next 98 = .ok (.getfield 25, 3) := by decide +kernel
theorem dX4_next_101 : decode cX4_next 101 = .ok (.aload_n 0, 1) := by decide +kernel
theorem dX4_next_102 : decode cX4_next 102 = .ok (.getfield 34, 3) := by decide +kernel
theorem dX4_next_105 : decode cX4_next 105 = .ok (.iaload, 1) := by decide +kernel
theorem dX4_next_106 : decode cX4_next 106 = .ok (.invokestatic 72, 3) := by decide +kernel
theorem dX4_next_109 : decode cX4_next 109 = .ok (.putfield 31, 3) := by decide +kernel
theorem dX4_next_112 : decode cX4_next 112 = .ok (.aload_n 0, 1) := by decide +kernel
theorem dX4_next_113 : decode cX4_next 113 = .ok (.dup, 1) := by decide +kernel
theorem dX4_next_114 : decode cX4_next 114 = .ok (.getfield 37, 3) := by decide +kernel
theorem dX4_next_117 : decode cX4_next 117 = .ok (.iconst 1, 1) := by decide +kernel
theorem dX4_next_118 : decode cX4_next 118 = .ok (.iadd, 1) := by decide +kernel
theorem dX4_next_119 : decode cX4_next 119 = .ok (.putfield 37, 3) := by decide +kernel
theorem dX4_next_122 : decode cX4_next 122 = .ok (.aload_n 0, 1) := by decide +kernel
theorem dX4_next_123 : decode cX4_next 123 = .ok (.getfield 31, 3) := by decide +kernel
theorem dX4_next_126 : decode cX4_next 126 = .ok (.iconst 3, 1) := by decide +kernel
theorem dX4_next_127 : decode cX4_next 127 = .ok (.if_icmp .ne 4, 3) := by decide +kernel
theorem dX4_next_130 : decode cX4_next 130 = .ok (.return_, 1) := by decide +kernel
theorem dX4_next_131 : decode cX4_next 131 = .ok (.aload_n 0, 1) := by decide +kernel
theorem dX4_next_132 : decode cX4_next 132 = .ok (.getfield 37, 3) := by decide +kernel
theorem dX4_next_135 : decode cX4_next 135 = .ok (.aload_n 0, 1) := by decide +kernel
theorem dX4_next_136 : decode cX4_next 136 = .ok (.getfield 28, 3) := by decide +kernel
theorem dX4_next_139 : decode cX4_next 139 = .ok (.if_icmp .ge 35, 3) := by decide +kernel
theorem dX4_next_142 : decode cX4_next 142 = .ok (.aload_n 0, 1) := by decide +kernel
theorem dX4_next_143 : decode cX4_next 143 = .ok (.getfield 25, 3) := by decide +kernel
theorem dX4_next_146 : decode cX4_next 146 = .ok (.aload_n 0, 1) := by decide +kernel
theorem dX4_next_147 : decode cX4_next 147 = .ok (.getfield 37, 3) := by decide +kernel
theorem dX4_next_150 : decode cX4_next 150 = .ok (.iaload, 1) := by decide +kernel
theorem dX4_next_151 : decode cX4_next 151 = .ok (.invokestatic 72, 3) := by decide +kernel
theorem dX4_next_154 : decode cX4_next 154 = .ok (.aload_n 0, 1) := by decide +kernel
theorem dX4_next_155 : decode cX4_next 155 = .ok (.getfield 31, 3) := by decide +kernel
theorem dX4_next_158 : decode cX4_next 158 = .ok (.if_icmp .ne 16, 3) := by decide +kernel
theorem dX4_next_161 : decode cX4_next 161 = .ok (.aload_n 0, 1) := by decide +kernel
theorem dX4_next_162 : decode cX4_next 162 = .ok (.dup, 1) := by decide +kernel
theorem dX4_next_163 : decode cX4_next 163 = .ok (.getfield 37, 3) := by decide +kernel
theorem dX4_next_166 : decode cX4_next 166 = .ok (.iconst 1, 1) := by decide +kernel
theorem dX4_next_167 : decode cX4_next 167 = .ok (.iadd, 1) := by decide +kernel
theorem dX4_next_168 : decode cX4_next 168 = .ok (.putfield 37, 3) := by decide +kernel
theorem dX4_next_171 : decode cX4_next 171 = .ok (.goto (-40), 3) := by decide +kernel
theorem dX4_next_174 : decode cX4_next 174 = .ok (.aload_n 0, 1) := by decide +kernel
theorem dX4_next_175 : decode cX4_next 175 = .ok (.getfield 34, 3) := by decide +kernel
theorem dX4_next_178 : decode cX4_next 178 = .ok (.iload_n 1, 1) := by decide +kernel
theorem dX4_next_179 : decode cX4_next 179 = .ok (.if_icmp .ne 8, 3) := by decide +kernel
theorem dX4_next_182 : decode cX4_next 182 = .ok (.aload_n 0, 1) := by decide +kernel
theorem dX4_next_183 : decode cX4_next 183 = .ok (.iconst 4, 1) := by decide +kernel
theorem dX4_next_184 : decode cX4_next 184 = .ok (.putfield 31, 3) := by decide +kernel
theorem dX4_next_187 : decode cX4_next 187 = .ok (.return_, 1) := by decide +kernel
theorem dX4_sortOf_0 : decode cX4_sortOf 0 = .ok (.iload_n 0, 1) := by decide +kernel
theorem dX4_sortOf_1 : decode cX4_sortOf 1 = .ok (.bipush 97, 2) := by decide +kernel
theorem dX4_sortOf_3 : decode cX4_sortOf 3 = .ok (.if_icmp .lt 11, 3) := by decide +kernel
theorem dX4_sortOf_6 : decode cX4_sortOf 6 = .ok (.iload_n 0, 1) := by decide +kernel
theorem dX4_sortOf_7 : decode cX4_sortOf 7 = .ok (.bipush 122, 2) := by decide +kernel
theorem dX4_sortOf_9 : decode cX4_sortOf 9 = .ok (.if_icmp .gt 5, 3) := by decide +kernel
theorem dX4_sortOf_12 : decode cX4_sortOf 12 = .ok (.iconst 1, 1) := by decide +kernel
theorem dX4_sortOf_13 : decode cX4_sortOf 13 = .ok (.ireturn, 1) := by decide +kernel
theorem dX4_sortOf_14 : decode cX4_sortOf 14 = .ok (.iload_n 0, 1) := by decide +kernel
theorem dX4_sortOf_15 : decode cX4_sortOf 15 = .ok (.bipush 48, 2) := by decide +kernel
theorem dX4_sortOf_17 : decode cX4_sortOf 17 = .ok (.if_icmp .lt 13, 3) := by decide +kernel
theorem dX4_sortOf_20 : decode cX4_sortOf 20 = .ok (.iload_n 0, 1) := by decide +kernel
theorem dX4_sortOf_21 : decode cX4_sortOf 21 = .ok (.bipush 57, 2) := by decide +kernel
theorem dX4_sortOf_23 : decode cX4_sortOf 23 = .ok (.if_icmp .gt 7, 3) := by decide +kernel
theorem dX4_sortOf_26 : decode cX4_sortOf 26 = .ok (.iconst 2, 1) := by decide +kernel
theorem dX4_sortOf_27 : decode cX4_sortOf 27 = .ok (.goto 4, 3) := by decide +kernel
theorem dX4_sortOf_30 : decode cX4_sortOf 30 = .ok (.iconst 3, 1) := by decide +kernel
theorem dX4_sortOf_31 : decode cX4_sortOf 31 = .ok (.ireturn, 1) := by decide +kernel
theorem dX4_byteAtHand_0 : decode cX4_byteAtHand 0 = .ok (.aload_n 0, 1) := by decide +kernel
theorem dX4_byteAtHand_1 : decode cX4_byteAtHand 1 = .ok (.getfield 34, 3) := by decide +kernel
theorem dX4_byteAtHand_4 : decode cX4_byteAtHand 4 = .ok (.ifCond .lt 26, 3) := by decide +kernel
theorem dX4_byteAtHand_7 : decode cX4_byteAtHand 7 = .ok (.aload_n 0, 1) := by decide +kernel
theorem dX4_byteAtHand_8 : decode cX4_byteAtHand 8 = .ok (.getfield 34, 3) := by decide +kernel
theorem dX4_byteAtHand_11 : decode cX4_byteAtHand 11 = .ok (.aload_n 0, 1) := by decide +kernel
theorem dX4_byteAtHand_12 : decode cX4_byteAtHand 12 = .ok (.getfield 28, 3) := by decide +kernel
theorem dX4_byteAtHand_15 : decode cX4_byteAtHand 15 = .ok (.if_icmp .ge 15, 3) := by decide +kernel
theorem dX4_byteAtHand_18 : decode cX4_byteAtHand 18 = .ok (.aload_n 0, 1) := by decide +kernel
theorem dX4_byteAtHand_19 : decode cX4_byteAtHand 19 = .ok (.getfield 25, 3) := by decide +kernel
theorem dX4_byteAtHand_22 : decode cX4_byteAtHand 22 = .ok (.aload_n 0, 1) := by decide +kernel
theorem dX4_byteAtHand_23 : decode cX4_byteAtHand 23 = .ok (.getfield 34, 3) := by decide +kernel
theorem dX4_byteAtHand_26 : decode cX4_byteAtHand 26 = .ok (.iaload, 1) := by decide +kernel
theorem dX4_byteAtHand_27 : decode cX4_byteAtHand 27 = .ok (.goto 4, 3) := by decide +kernel
theorem dX4_byteAtHand_30 : decode cX4_byteAtHand 30 = .ok (.iconst 0, 1) := by decide +kernel
theorem dX4_byteAtHand_31 : decode cX4_byteAtHand 31 = .ok (.ireturn, 1) := by decide +kernel
theorem dX4_isSign_0 : decode cX4_isSign 0 = .ok (.aload_n 0, 1) := by decide +kernel
theorem dX4_isSign_1 : decode cX4_isSign 1 = .ok (.getfield 31, 3) := by decide +kernel
theorem dX4_isSign_4 : decode cX4_isSign 4 = .ok (.iconst 3, 1) := by decide +kernel
theorem dX4_isSign_5 : decode cX4_isSign 5 = .ok (.if_icmp .ne 15, 3) := by decide +kernel
theorem dX4_isSign_8 : decode cX4_isSign 8 = .ok (.aload_n 0, 1) := by decide +kernel
theorem dX4_isSign_9 : decode cX4_isSign 9 = .ok (.invokevirtual 76, 3) := by decide +kernel
theorem dX4_isSign_12 : decode cX4_isSign 12 = .ok (.iload_n 1, 1) := by decide +kernel
theorem dX4_isSign_13 : decode cX4_isSign 13 = .ok (.if_icmp .ne 7, 3) := by decide +kernel
theorem dX4_isSign_16 : decode cX4_isSign 16 = .ok (.iconst 1, 1) := by decide +kernel
theorem dX4_isSign_17 : decode cX4_isSign 17 = .ok (.goto 4, 3) := by decide +kernel
theorem dX4_isSign_20 : decode cX4_isSign 20 = .ok (.iconst 0, 1) := by decide +kernel
theorem dX4_isSign_21 : decode cX4_isSign 21 = .ok (.ireturn, 1) := by decide +kernel
theorem dX4_keyAtHand_0 : decode cX4_keyAtHand 0 = .ok (.aload_n 0, 1) := by decide +kernel
theorem dX4_keyAtHand_1 : decode cX4_keyAtHand 1 = .ok (.getfield 31, 3) := by decide +kernel
theorem dX4_keyAtHand_4 : decode cX4_keyAtHand 4 = .ok (.iconst 1, 1) := by decide +kernel
theorem dX4_keyAtHand_5 : decode cX4_keyAtHand 5 = .ok (.if_icmp .ne 16, 3) := by decide +kernel
theorem dX4_keyAtHand_8 : decode cX4_keyAtHand 8 = .ok (.aload_n 0, 1) := by decide +kernel
theorem dX4_keyAtHand_9 : decode cX4_keyAtHand 9 = .ok (.getfield 37, 3) := by decide +kernel
theorem dX4_keyAtHand_12 : decode cX4_keyAtHand 12 = .ok (.aload_n 0, 1) := by decide +kernel
theorem dX4_keyAtHand_13 : decode cX4_keyAtHand 13 = .ok (.getfield 34, 3) := by decide +kernel
theorem dX4_keyAtHand_16 : decode cX4_keyAtHand 16 = .ok (.isub, 1) := by decide +kernel
theorem dX4_keyAtHand_17 : decode cX4_keyAtHand 17 = .ok (.iconst 4, 1) := by decide +kernel
theorem dX4_keyAtHand_18 : decode cX4_keyAtHand 18 = .ok (.if_icmp .eq 5, 3) := by decide +kernel
theorem dX4_keyAtHand_21 : decode cX4_keyAtHand 21 = .ok (.iconst (-1), 1) := by decide +kernel
theorem dX4_keyAtHand_22 : decode cX4_keyAtHand 22 = .ok (.ireturn, 1) := by decide +kernel
theorem dX4_keyAtHand_23 : decode cX4_keyAtHand 23 = .ok (.iconst 0, 1) := by decide +kernel
theorem dX4_keyAtHand_24 : decode cX4_keyAtHand 24 = .ok (.istore_n 1, 1) := by decide +kernel
theorem dX4_keyAtHand_25 : decode cX4_keyAtHand 25 = .ok (.iload_n 1, 1) := by decide +kernel
theorem dX4_keyAtHand_26 : decode cX4_keyAtHand 26 = .ok (.iconst 3, 1) := by decide +kernel
theorem dX4_keyAtHand_27 : decode cX4_keyAtHand 27 = .ok (.if_icmp .ge 64, 3) := by decide +kernel
theorem dX4_keyAtHand_30 : decode cX4_keyAtHand 30 = .ok (.iconst 1, 1) := by decide +kernel
theorem dX4_keyAtHand_31 : decode cX4_keyAtHand 31 = .ok (.istore_n 2, 1) := by decide +kernel
theorem dX4_keyAtHand_32 : decode cX4_keyAtHand 32 = .ok (.iconst 0, 1) := by decide +kernel
theorem dX4_keyAtHand_33 : decode cX4_keyAtHand 33 = .ok (.istore_n 3, 1) := by decide +kernel
theorem dX4_keyAtHand_34 : decode cX4_keyAtHand 34 = .ok (.iload_n 3, 1) := by decide +kernel
theorem dX4_keyAtHand_35 : decode cX4_keyAtHand 35 = .ok (.iconst 4, 1) := by decide +kernel
theorem dX4_keyAtHand_36 : decode cX4_keyAtHand 36 = .ok (.if_icmp .ge 43, 3) := by decide +kernel
theorem dX4_keyAtHand_39 : decode cX4_keyAtHand 39 = .ok (.iload_n 2, 1) := by decide +kernel
theorem dX4_keyAtHand_40 : decode cX4_keyAtHand 40 = .ok (.ifCond .eq 31, 3) := by decide +kernel
theorem dX4_keyAtHand_43 : decode cX4_keyAtHand 43 = .ok (.aload_n 0, 1) := by decide +kernel
theorem dX4_keyAtHand_44 : decode cX4_keyAtHand 44 = .ok (.getfield 25, 3) := by decide +kernel
theorem dX4_keyAtHand_47 : decode cX4_keyAtHand 47 = .ok (.aload_n 0, 1) := by decide +kernel
theorem dX4_keyAtHand_48 : decode cX4_keyAtHand 48 = .ok (.getfield 34, 3) := by decide +kernel
theorem dX4_keyAtHand_51 : decode cX4_keyAtHand 51 = .ok (.iload_n 3, 1) := by decide +kernel
theorem dX4_keyAtHand_52 : decode cX4_keyAtHand 52 = .ok (.iadd, 1) := by decide +kernel
theorem dX4_keyAtHand_53 : decode cX4_keyAtHand 53 = .ok (.iaload, 1) := by decide +kernel
theorem dX4_keyAtHand_54 : decode cX4_keyAtHand 54 = .ok (.ldc 79, 2) := by decide +kernel
theorem dX4_keyAtHand_56 : decode cX4_keyAtHand 56 = .ok (.iconst 4, 1) := by decide +kernel
theorem dX4_keyAtHand_57 : decode cX4_keyAtHand 57 = .ok (.iload_n 1, 1) := by decide +kernel
theorem dX4_keyAtHand_58 : decode cX4_keyAtHand 58 = .ok (.imul, 1) := by decide +kernel
theorem dX4_keyAtHand_59 : decode cX4_keyAtHand 59 = .ok (.iload_n 3, 1) := by decide +kernel
theorem dX4_keyAtHand_60 : decode cX4_keyAtHand 60 = .ok (.iadd, 1) := by decide +kernel
theorem dX4_keyAtHand_61 : decode cX4_keyAtHand 61 = .ok (.invokevirtual 81, 3) := by decide +kernel
theorem dX4_keyAtHand_64 : decode cX4_keyAtHand 64 = .ok (.if_icmp .ne 7, 3) := by decide +kernel
theorem dX4_keyAtHand_67 : decode cX4_keyAtHand 67 = .ok (.iconst 1, 1) := by decide +kernel
theorem dX4_keyAtHand_68 : decode cX4_keyAtHand 68 = .ok (.goto 4, 3) := by decide +kernel
theorem dX4_keyAtHand_71 : decode cX4_keyAtHand 71 = .ok (.iconst 0, 1) := by decide +kernel
theorem dX4_keyAtHand_72 : decode cX4_keyAtHand 72 = .ok (.istore_n 2, 1) := by decide +kernel
theorem dX4_keyAtHand_73 : decode cX4_keyAtHand 73 = .ok (.iinc 3 1, 3) := by decide +kernel
theorem dX4_keyAtHand_76 : decode cX4_keyAtHand 76 = .ok (.goto (-42), 3) := by decide +kernel
theorem dX4_keyAtHand_79 : decode cX4_keyAtHand 79 = .ok (.iload_n 2, 1) := by decide +kernel
theorem dX4_keyAtHand_80 : decode cX4_keyAtHand 80 = .ok (.ifCond .eq 5, 3) := by decide +kernel
theorem dX4_keyAtHand_83 : decode cX4_keyAtHand 83 = .ok (.iload_n 1, 1) := by decide +kernel
theorem dX4_keyAtHand_84 : decode cX4_keyAtHand 84 = .ok (.ireturn, 1) := by decide +kernel
theorem dX4_keyAtHand_85 : decode cX4_keyAtHand 85 = .ok (.iinc 1 1, 3) := by decide +kernel
theorem dX4_keyAtHand_88 : decode cX4_keyAtHand 88 = .ok (.goto (-63), 3) := by decide +kernel
theorem dX4_keyAtHand_91 : decode cX4_keyAtHand 91 = .ok (.iconst (-1), 1) := by decide +kernel
theorem dX4_keyAtHand_92 : decode cX4_keyAtHand 92 = .ok (.ireturn, 1) := by decide +kernel
theorem dX4_names_0 : decode cX4_names 0 = .ok (.iload_n 0, 1) := by decide +kernel
theorem dX4_names_1 : decode cX4_names 1 = .ok (.lookupswitch 33 #[(0, 27), (1, 30)], 27) := by decide +kernel
theorem dX4_names_28 : decode cX4_names 28 = .ok (.ldc 87, 2) := by decide +kernel
theorem dX4_names_30 : decode cX4_names 30 = .ok (.areturn, 1) := by decide +kernel
theorem dX4_names_31 : decode cX4_names 31 = .ok (.ldc 89, 2) := by decide +kernel
theorem dX4_names_33 : decode cX4_names 33 = .ok (.areturn, 1) := by decide +kernel
theorem dX4_names_34 : decode cX4_names 34 = .ok (.ldc 91, 2) := by decide +kernel
theorem dX4_names_36 : decode cX4_names 36 = .ok (.areturn, 1) := by decide +kernel
theorem dX4_levelAtHand_0 : decode cX4_levelAtHand 0 = .ok (.aload_n 0, 1) := by decide +kernel
theorem dX4_levelAtHand_1 : decode cX4_levelAtHand 1 = .ok (.getfield 31, 3) := by decide +kernel
theorem dX4_levelAtHand_4 : decode cX4_levelAtHand 4 = .ok (.iconst 3, 1) := by decide +kernel
theorem dX4_levelAtHand_5 : decode cX4_levelAtHand 5 = .ok (.if_icmp .eq 5, 3) := by decide +kernel
theorem dX4_levelAtHand_8 : decode cX4_levelAtHand 8 = .ok (.iconst (-1), 1) := by decide +kernel
theorem dX4_levelAtHand_9 : decode cX4_levelAtHand 9 = .ok (.ireturn, 1) := by decide +kernel
theorem dX4_levelAtHand_10 : decode cX4_levelAtHand 10 = .ok (.aload_n 0, 1) := by decide +kernel
theorem dX4_levelAtHand_11 : decode cX4_levelAtHand 11 = .ok (.invokevirtual 76, 3) := by decide +kernel
theorem dX4_levelAtHand_14 : decode cX4_levelAtHand 14 = .ok (.lookupswitch 92 #[(38, 84), (42, 90), (43, 88), (45, 88), (47, 90), (60, 86), (61, 86), (62, 86), (124, 82)], 82) := by decide +kernel
theorem dX4_levelAtHand_96 : decode cX4_levelAtHand 96 = .ok (.iconst 0, 1) := by decide +kernel
theorem dX4_levelAtHand_97 : decode cX4_levelAtHand 97 = .ok (.ireturn, 1) := by decide +kernel
theorem dX4_levelAtHand_98 : decode cX4_levelAtHand 98 = .ok (.iconst 1, 1) := by decide +kernel
theorem dX4_levelAtHand_99 : decode cX4_levelAtHand 99 = .ok (.ireturn, 1) := by decide +kernel
theorem dX4_levelAtHand_100 : decode cX4_levelAtHand 100 = .ok (.iconst 2, 1) := by decide +kernel
theorem dX4_levelAtHand_101 : decode cX4_levelAtHand 101 = .ok (.ireturn, 1) := by decide +kernel
theorem dX4_levelAtHand_102 : decode cX4_levelAtHand 102 = .ok (.iconst 3, 1) := by decide +kernel
theorem dX4_levelAtHand_103 : decode cX4_levelAtHand 103 = .ok (.ireturn, 1) := by decide +kernel
theorem dX4_levelAtHand_104 : decode cX4_levelAtHand 104 = .ok (.iconst 4, 1) := by decide +kernel
theorem dX4_levelAtHand_105 : decode cX4_levelAtHand 105 = .ok (.ireturn, 1) := by decide +kernel
theorem dX4_levelAtHand_106 : decode cX4_levelAtHand 106 = .ok (.iconst (-1), 1) := by decide +kernel
theorem dX4_levelAtHand_107 : decode cX4_levelAtHand 107 = .ok (.ireturn, 1) := by decide +kernel
theorem dX4_put_0 : decode cX4_put 0 = .ok (.aload_n 0, 1) := by decide +kernel
theorem dX4_put_1 : decode cX4_put 1 = .ok (.getfield 15, 3) := by decide +kernel
theorem dX4_put_4 : decode cX4_put 4 = .ok (.bipush 96, 2) := by decide +kernel
theorem dX4_put_6 : decode cX4_put 6 = .ok (.if_icmp .ge 23, 3) := by decide +kernel
theorem dX4_put_9 : decode cX4_put 9 = .ok (.aload_n 0, 1) := by decide +kernel
theorem dX4_put_10 : decode cX4_put 10 = .ok (.getfield 9, 3) := by decide +kernel
theorem dX4_put_13 : decode cX4_put 13 = .ok (.aload_n 0, 1) := by decide +kernel
theorem dX4_put_14 : decode cX4_put 14 = .ok (.getfield 15, 3) := by decide +kernel
theorem dX4_put_17 : decode cX4_put 17 = .ok (.iload_n 1, 1) := by decide +kernel
theorem dX4_put_18 : decode cX4_put 18 = .ok (.iastore, 1) := by decide +kernel
theorem dX4_put_19 : decode cX4_put 19 = .ok (.aload_n 0, 1) := by decide +kernel
theorem dX4_put_20 : decode cX4_put 20 = .ok (.dup, 1) := by decide +kernel
theorem dX4_put_21 : decode cX4_put 21 = .ok (.getfield 15, 3) := by decide +kernel
theorem dX4_put_24 : decode cX4_put 24 = .ok (.iconst 1, 1) := by decide +kernel
theorem dX4_put_25 : decode cX4_put 25 = .ok (.iadd, 1) := by decide +kernel
theorem dX4_put_26 : decode cX4_put 26 = .ok (.putfield 15, 3) := by decide +kernel
theorem dX4_put_29 : decode cX4_put 29 = .ok (.return_, 1) := by decide +kernel
theorem dX4_level_0 : decode cX4_level 0 = .ok (.iload_n 1, 1) := by decide +kernel
theorem dX4_level_1 : decode cX4_level 1 = .ok (.iconst 4, 1) := by decide +kernel
theorem dX4_level_2 : decode cX4_level 2 = .ok (.if_icmp .le 10, 3) := by decide +kernel
theorem dX4_level_5 : decode cX4_level 5 = .ok (.aload_n 0, 1) := by decide +kernel
theorem dX4_level_6 : decode cX4_level 6 = .ok (.iload_n 2, 1) := by decide +kernel
theorem dX4_level_7 : decode cX4_level 7 = .ok (.iload_n 3, 1) := by decide +kernel
theorem dX4_level_8 : decode cX4_level 8 = .ok (.invokevirtual 93, 3) := by decide +kernel
theorem dX4_level_11 : decode cX4_level 11 = .ok (.ireturn, 1) := by decide +kernel
theorem dX4_level_12 : decode cX4_level 12 = .ok (.aload_n 0, 1) := by decide +kernel
theorem dX4_level_13 : decode cX4_level 13 = .ok (.iload_n 1, 1) := by decide +kernel
theorem dX4_level_14 : decode cX4_level 14 = .ok (.iconst 1, 1) := by decide +kernel
theorem dX4_level_15 : decode cX4_level 15 = .ok (.iadd, 1) := by decide +kernel
theorem dX4_level_16 : decode cX4_level 16 = .ok (.iload_n 2, 1) := by decide +kernel
theorem dX4_level_17 : decode cX4_level 17 = .ok (.iload_n 3, 1) := by decide +kernel
theorem dX4_level_18 : decode cX4_level 18 = .ok (.invokevirtual 57, 3) := by decide +kernel
theorem dX4_level_21 : decode cX4_level 21 = .ok (.ifCond .ne 5, 3) := by decide +kernel
theorem dX4_level_24 : decode cX4_level 24 = .ok (.iconst 0, 1) := by decide +kernel
theorem dX4_level_25 : decode cX4_level 25 = .ok (.ireturn, 1) := by decide +kernel
theorem dX4_level_26 : decode cX4_level 26 = .ok (.iload_n 1, 1) := by decide +kernel
theorem dX4_level_27 : decode cX4_level 27 = .ok (.iconst 2, 1) := by decide +kernel
theorem dX4_level_28 : decode cX4_level 28 = .ok (.if_icmp .ne 7, 3) := by decide +kernel
theorem dX4_level_31 : decode cX4_level 31 = .ok (.iconst 1, 1) := by decide +kernel
theorem dX4_level_32 : decode cX4_level 32 = .ok (.goto 5, 3) := by decide +kernel
theorem dX4_level_35 : decode cX4_level 35 = .ok (.bipush 96, 2) := by decide +kernel
theorem dX4_level_37 : decode cX4_level 37 = .ok (.istore 4, 2) := by decide +kernel
theorem dX4_level_39 : decode cX4_level 39 = .ok (.iconst 0, 1) := by decide +kernel
theorem dX4_level_40 : decode cX4_level 40 = .ok (.istore 5, 2) := by decide +kernel
theorem dX4_level_42 : decode cX4_level 42 = .ok (.iload 5, 2) := by decide +kernel
theorem dX4_level_44 : decode cX4_level 44 = .ok (.iload 4, 2) := by decide +kernel
theorem dX4_level_46 : decode cX4_level 46 = .ok (.if_icmp .ge 51, 3) := by decide +kernel
theorem dX4_level_49 : decode cX4_level 49 = .ok (.aload_n 0, 1) := by decide +kernel
theorem dX4_level_50 : decode cX4_level 50 = .ok (.invokevirtual 97, 3) := by decide +kernel
theorem dX4_level_53 : decode cX4_level 53 = .ok (.iload_n 1, 1) := by decide +kernel
theorem dX4_level_54 : decode cX4_level 54 = .ok (.if_icmp .ne 43, 3) := by decide +kernel
theorem dX4_level_57 : decode cX4_level 57 = .ok (.aload_n 0, 1) := by decide +kernel
theorem dX4_level_58 : decode cX4_level 58 = .ok (.invokevirtual 76, 3) := by decide +kernel
theorem dX4_level_61 : decode cX4_level 61 = .ok (.istore 6, 2) := by decide +kernel
theorem dX4_level_63 : decode cX4_level 63 = .ok (.aload_n 0, 1) := by decide +kernel
theorem dX4_level_64 : decode cX4_level 64 = .ok (.invokevirtual 50, 3) := by decide +kernel
theorem dX4_level_67 : decode cX4_level 67 = .ok (.aload_n 0, 1) := by decide +kernel
theorem dX4_level_68 : decode cX4_level 68 = .ok (.iload_n 1, 1) := by decide +kernel
theorem dX4_level_69 : decode cX4_level 69 = .ok (.iconst 1, 1) := by decide +kernel
theorem dX4_level_70 : decode cX4_level 70 = .ok (.iadd, 1) := by decide +kernel
theorem dX4_level_71 : decode cX4_level 71 = .ok (.iload_n 2, 1) := by decide +kernel
theorem dX4_level_72 : decode cX4_level 72 = .ok (.iload_n 3, 1) := by decide +kernel
theorem dX4_level_73 : decode cX4_level 73 = .ok (.invokevirtual 57, 3) := by decide +kernel
theorem dX4_level_76 : decode cX4_level 76 = .ok (.ifCond .ne 5, 3) := by decide +kernel
theorem dX4_level_79 : decode cX4_level 79 = .ok (.iconst 0, 1) := by decide +kernel
theorem dX4_level_80 : decode cX4_level 80 = .ok (.ireturn, 1) := by decide +kernel
theorem dX4_level_81 : decode cX4_level 81 = .ok (.aload_n 0, 1) := by decide +kernel
theorem dX4_level_82 : decode cX4_level 82 = .ok (.sipush 10100, 3) := by decide +kernel
theorem dX4_level_85 : decode cX4_level 85 = .ok (.iload 6, 2) := by decide +kernel
theorem dX4_level_87 : decode cX4_level 87 = .ok (.iadd, 1) := by decide +kernel
theorem dX4_level_88 : decode cX4_level 88 = .ok (.invokevirtual 100, 3) := by decide +kernel
theorem dX4_level_91 : decode cX4_level 91 = .ok (.iinc 5 1, 3) := by decide +kernel
theorem dX4_level_94 : decode cX4_level 94 = .ok (.goto (-52), 3) := by decide +kernel
theorem dX4_level_97 : decode cX4_level 97 = .ok (.iconst 1, 1) := by decide +kernel
theorem dX4_level_98 : decode cX4_level 98 = .ok (.ireturn, 1) := by decide +kernel
theorem dX4_piece_0 : decode cX4_piece 0 = .ok (.aload_n 0, 1) := by decide +kernel
theorem dX4_piece_1 : decode cX4_piece 1 = .ok (.invokevirtual 104, 3) := by decide +kernel
theorem dX4_piece_4 : decode cX4_piece 4 = .ok (.istore_n 3, 1) := by decide +kernel
theorem dX4_piece_5 : decode cX4_piece 5 = .ok (.iload_n 3, 1) := by decide +kernel
theorem dX4_piece_6 : decode cX4_piece 6 = .ok (.ifCond .lt 24, 3) := by decide +kernel
theorem dX4_piece_9 : decode cX4_piece 9 = .ok (.aload_n 0, 1) := by decide +kernel
theorem dX4_piece_10 : decode cX4_piece 10 = .ok (.iload_n 3, 1) := by decide +kernel
theorem dX4_piece_11 : decode cX4_piece 11 = .ok (.invokevirtual 100, 3) := by decide +kernel
theorem dX4_piece_14 : decode cX4_piece 14 = .ok (.aload_n 0, 1) := by decide +kernel
theorem dX4_piece_15 : decode cX4_piece 15 = .ok (.dup, 1) := by decide +kernel
theorem dX4_piece_16 : decode cX4_piece 16 = .ok (.getfield 19, 3) := by decide +kernel
theorem dX4_piece_19 : decode cX4_piece 19 = .ok (.iconst 1, 1) := by decide +kernel
theorem dX4_piece_20 : decode cX4_piece 20 = .ok (.iadd, 1) := by decide +kernel
theorem dX4_piece_21 : decode cX4_piece 21 = .ok (.putfield 19, 3) := by decide +kernel
theorem dX4_piece_24 : decode cX4_piece 24 = .ok (.aload_n 0, 1) := by decide +kernel
theorem dX4_piece_25 : decode cX4_piece 25 = .ok (.invokevirtual 50, 3) := by decide +kernel
theorem dX4_piece_28 : decode cX4_piece 28 = .ok (.iconst 1, 1) := by decide +kernel
theorem dX4_piece_29 : decode cX4_piece 29 = .ok (.ireturn, 1) := by decide +kernel
theorem dX4_piece_30 : decode cX4_piece 30 = .ok (.aload_n 0, 1) := by decide +kernel
theorem dX4_piece_31 : decode cX4_piece 31 = .ok (.bipush 33, 2) := by decide +kernel
theorem dX4_piece_33 : decode cX4_piece 33 = .ok (.invokevirtual 107, 3) := by decide +kernel
theorem dX4_piece_36 : decode cX4_piece 36 = .ok (.ifCond .eq 35, 3) := by decide +kernel
theorem dX4_piece_39 : decode cX4_piece 39 = .ok (.iload_n 2, 1) := by decide +kernel
theorem dX4_piece_40 : decode cX4_piece 40 = .ok (.bipush 8, 2) := by decide +kernel
theorem dX4_piece_42 : decode cX4_piece 42 = .ok (.if_icmp .ge 29, 3) := by decide +kernel
theorem dX4_piece_45 : decode cX4_piece 45 = .ok (.aload_n 0, 1) := by decide +kernel
theorem dX4_piece_46 : decode cX4_piece 46 = .ok (.invokevirtual 50, 3) := by decide +kernel
theorem dX4_piece_49 : decode cX4_piece 49 = .ok (.aload_n 0, 1) := by decide +kernel
theorem dX4_piece_50 : decode cX4_piece 50 = .ok (.iload_n 1, 1) := by decide +kernel
theorem dX4_piece_51 : decode cX4_piece 51 = .ok (.iload_n 2, 1) := by decide +kernel
theorem dX4_piece_52 : decode cX4_piece 52 = .ok (.iconst 1, 1) := by decide +kernel
theorem dX4_piece_53 : decode cX4_piece 53 = .ok (.iadd, 1) := by decide +kernel
theorem dX4_piece_54 : decode cX4_piece 54 = .ok (.invokevirtual 93, 3) := by decide +kernel
theorem dX4_piece_57 : decode cX4_piece 57 = .ok (.ifCond .ne 5, 3) := by decide +kernel
theorem dX4_piece_60 : decode cX4_piece 60 = .ok (.iconst 0, 1) := by decide +kernel
theorem dX4_piece_61 : decode cX4_piece 61 = .ok (.ireturn, 1) := by decide +kernel
theorem dX4_piece_62 : decode cX4_piece 62 = .ok (.aload_n 0, 1) := by decide +kernel
theorem dX4_piece_63 : decode cX4_piece 63 = .ok (.sipush 10133, 3) := by decide +kernel
theorem dX4_piece_66 : decode cX4_piece 66 = .ok (.invokevirtual 100, 3) := by decide +kernel
theorem dX4_piece_69 : decode cX4_piece 69 = .ok (.iconst 1, 1) := by decide +kernel
theorem dX4_piece_70 : decode cX4_piece 70 = .ok (.ireturn, 1) := by decide +kernel
theorem dX4_piece_71 : decode cX4_piece 71 = .ok (.aload_n 0, 1) := by decide +kernel
theorem dX4_piece_72 : decode cX4_piece 72 = .ok (.bipush 40, 2) := by decide +kernel
theorem dX4_piece_74 : decode cX4_piece 74 = .ok (.invokevirtual 107, 3) := by decide +kernel
theorem dX4_piece_77 : decode cX4_piece 77 = .ok (.ifCond .eq 42, 3) := by decide +kernel
theorem dX4_piece_80 : decode cX4_piece 80 = .ok (.iload_n 1, 1) := by decide +kernel
theorem dX4_piece_81 : decode cX4_piece 81 = .ok (.bipush 8, 2) := by decide +kernel
theorem dX4_piece_83 : decode cX4_piece 83 = .ok (.if_icmp .ge 36, 3) := by decide +kernel
theorem dX4_piece_86 : decode cX4_piece 86 = .ok (.aload_n 0, 1) := by decide +kernel
theorem dX4_piece_87 : decode cX4_piece 87 = .ok (.invokevirtual 50, 3) := by decide +kernel
theorem dX4_piece_90 : decode cX4_piece 90 = .ok (.aload_n 0, 1) := by decide +kernel
theorem dX4_piece_91 : decode cX4_piece 91 = .ok (.iconst 0, 1) := by decide +kernel
theorem dX4_piece_92 : decode cX4_piece 92 = .ok (.iload_n 1, 1) := by decide +kernel
theorem dX4_piece_93 : decode cX4_piece 93 = .ok (.iconst 1, 1) := by decide +kernel
theorem dX4_piece_94 : decode cX4_piece 94 = .ok (.iadd, 1) := by decide +kernel
theorem dX4_piece_95 : decode cX4_piece 95 = .ok (.iload_n 2, 1) := by decide +kernel
theorem dX4_piece_96 : decode cX4_piece 96 = .ok (.invokevirtual 57, 3) := by decide +kernel
theorem dX4_piece_99 : decode cX4_piece 99 = .ok (.ifCond .eq 12, 3) := by decide +kernel
theorem dX4_piece_102 : decode cX4_piece 102 = .ok (.aload_n 0, 1) := by decide +kernel
theorem dX4_piece_103 : decode cX4_piece 103 = .ok (.bipush 41, 2) := by decide +kernel
theorem dX4_piece_105 : decode cX4_piece 105 = .ok (.invokevirtual 107, 3) := by decide +kernel
theorem dX4_piece_108 : decode cX4_piece 108 = .ok (.ifCond .ne 5, 3) := by decide +kernel
theorem dX4_piece_111 : decode cX4_piece 111 = .ok (.iconst 0, 1) := by decide +kernel
theorem dX4_piece_112 : decode cX4_piece 112 = .ok (.ireturn, 1) := by decide +kernel
theorem dX4_piece_113 : decode cX4_piece 113 = .ok (.aload_n 0, 1) := by decide +kernel
theorem dX4_piece_114 : decode cX4_piece 114 = .ok (.invokevirtual 50, 3) := by decide +kernel
theorem dX4_piece_117 : decode cX4_piece 117 = .ok (.iconst 1, 1) := by decide +kernel
theorem dX4_piece_118 : decode cX4_piece 118 = .ok (.ireturn, 1) := by decide +kernel
theorem dX4_piece_119 : decode cX4_piece 119 = .ok (.iconst 0, 1) := by decide +kernel
theorem dX4_piece_120 : decode cX4_piece 120 = .ok (.ireturn, 1) := by decide +kernel
theorem dX4_atomAtHand_0 : decode cX4_atomAtHand 0 = .ok (.aload_n 0, 1) := by decide +kernel
theorem dX4_atomAtHand_1 : decode cX4_atomAtHand 1 = .ok (.getfield 37, 3) := by decide +kernel
theorem dX4_atomAtHand_4 : decode cX4_atomAtHand 4 = .ok (.aload_n 0, 1) := by decide +kernel
theorem dX4_atomAtHand_5 : decode cX4_atomAtHand 5 = .ok (.getfield 34, 3) := by decide +kernel
theorem dX4_atomAtHand_8 : decode cX4_atomAtHand 8 = .ok (.isub, 1) := by decide +kernel
theorem dX4_atomAtHand_9 : decode cX4_atomAtHand 9 = .ok (.istore_n 1, 1) := by decide +kernel
theorem dX4_atomAtHand_10 : decode cX4_atomAtHand 10 = .ok (.aload_n 0, 1) := by decide +kernel
theorem dX4_atomAtHand_11 : decode cX4_atomAtHand 11 = .ok (.getfield 31, 3) := by decide +kernel
theorem dX4_atomAtHand_14 : decode cX4_atomAtHand 14 = .ok (.iconst 2, 1) := by decide +kernel
theorem dX4_atomAtHand_15 : decode cX4_atomAtHand 15 = .ok (.if_icmp .ne 46, 3) := by decide +kernel
theorem dX4_atomAtHand_18 : decode cX4_atomAtHand 18 = .ok (.iload_n 1, 1) := by decide +kernel
theorem dX4_atomAtHand_19 : decode cX4_atomAtHand 19 = .ok (.iconst 4, 1) := by decide +kernel
theorem dX4_atomAtHand_20 : decode cX4_atomAtHand 20 = .ok (.if_icmp .gt 41, 3) := by decide +kernel
theorem dX4_atomAtHand_23 : decode cX4_atomAtHand 23 = .ok (.iconst 0, 1) := by decide +kernel
theorem dX4_atomAtHand_24 : decode cX4_atomAtHand 24 = .ok (.istore_n 2, 1) := by decide +kernel
theorem dX4_atomAtHand_25 : decode cX4_atomAtHand 25 = .ok (.aload_n 0, 1) := by decide +kernel
theorem dX4_atomAtHand_26 : decode cX4_atomAtHand 26 = .ok (.getfield 34, 3) := by decide +kernel
theorem dX4_atomAtHand_29 : decode cX4_atomAtHand 29 = .ok (.istore_n 3, 1) := by decide +kernel
theorem dX4_atomAtHand_30 : decode cX4_atomAtHand 30 = .ok (.iload_n 3, 1) := by decide +kernel
theorem dX4_atomAtHand_31 : decode cX4_atomAtHand 31 = .ok (.aload_n 0, 1) := by decide +kernel
theorem dX4_atomAtHand_32 : decode cX4_atomAtHand 32 = .ok (.getfield 37, 3) := by decide +kernel
theorem dX4_atomAtHand_35 : decode cX4_atomAtHand 35 = .ok (.if_icmp .ge 24, 3) := by decide +kernel
theorem dX4_atomAtHand_38 : decode cX4_atomAtHand 38 = .ok (.iload_n 2, 1) := by decide +kernel
theorem dX4_atomAtHand_39 : decode cX4_atomAtHand 39 = .ok (.bipush 10, 2) := by decide +kernel
theorem dX4_atomAtHand_41 : decode cX4_atomAtHand 41 = .ok (.imul, 1) := by decide +kernel
theorem dX4_atomAtHand_42 : decode cX4_atomAtHand 42 = .ok (.aload_n 0, 1) := by decide +kernel
theorem dX4_atomAtHand_43 : decode cX4_atomAtHand 43 = .ok (.getfield 25, 3) := by decide +kernel
theorem dX4_atomAtHand_46 : decode cX4_atomAtHand 46 = .ok (.iload_n 3, 1) := by decide +kernel
theorem dX4_atomAtHand_47 : decode cX4_atomAtHand 47 = .ok (.iaload, 1) := by decide +kernel
theorem dX4_atomAtHand_48 : decode cX4_atomAtHand 48 = .ok (.iadd, 1) := by decide +kernel
theorem dX4_atomAtHand_49 : decode cX4_atomAtHand 49 = .ok (.bipush 48, 2) := by decide +kernel
theorem dX4_atomAtHand_51 : decode cX4_atomAtHand 51 = .ok (.isub, 1) := by decide +kernel
theorem dX4_atomAtHand_52 : decode cX4_atomAtHand 52 = .ok (.istore_n 2, 1) := by decide +kernel
theorem dX4_atomAtHand_53 : decode cX4_atomAtHand 53 = .ok (.iinc 3 1, 3) := by decide +kernel
theorem dX4_atomAtHand_56 : decode cX4_atomAtHand 56 = .ok (.goto (-26), 3) := by decide +kernel
theorem dX4_atomAtHand_59 : decode cX4_atomAtHand 59 = .ok (.iload_n 2, 1) := by decide +kernel
theorem dX4_atomAtHand_60 : decode cX4_atomAtHand 60 = .ok (.ireturn, 1) := by decide +kernel
theorem dX4_atomAtHand_61 : decode cX4_atomAtHand 61 = .ok (.aload_n 0, 1) := by decide +kernel
theorem dX4_atomAtHand_62 : decode cX4_atomAtHand 62 = .ok (.getfield 31, 3) := by decide +kernel
theorem dX4_atomAtHand_65 : decode cX4_atomAtHand 65 = .ok (.iconst 1, 1) := by decide +kernel
theorem dX4_atomAtHand_66 : decode cX4_atomAtHand 66 = .ok (.if_icmp .ne 38, 3) := by decide +kernel
theorem dX4_atomAtHand_69 : decode cX4_atomAtHand 69 = .ok (.iload_n 1, 1) := by decide +kernel
theorem dX4_atomAtHand_70 : decode cX4_atomAtHand 70 = .ok (.iconst 1, 1) := by decide +kernel
theorem dX4_atomAtHand_71 : decode cX4_atomAtHand 71 = .ok (.if_icmp .ne 33, 3) := by decide +kernel
theorem dX4_atomAtHand_74 : decode cX4_atomAtHand 74 = .ok (.aload_n 0, 1) := by decide +kernel
theorem dX4_atomAtHand_75 : decode cX4_atomAtHand 75 = .ok (.getfield 22, 3) := by decide +kernel
theorem dX4_atomAtHand_78 : decode cX4_atomAtHand 78 = .ok (.invokestatic 111, 3) := by decide +kernel
theorem dX4_atomAtHand_81 : decode cX4_atomAtHand 81 = .ok (.aload_n 0, 1) := by decide +kernel
theorem dX4_atomAtHand_82 : decode cX4_atomAtHand 82 = .ok (.invokevirtual 76, 3) := by decide +kernel
theorem dX4_atomAtHand_85 : decode cX4_atomAtHand 85 = .ok (.i2c, 1) := by decide +kernel
theorem dX4_atomAtHand_86 : decode cX4_atomAtHand 86 = .ok (.invokevirtual 115, 3) := by decide +kernel
theorem dX4_atomAtHand_89 : decode cX4_atomAtHand 89 = .ok (.istore_n 2, 1) := by decide +kernel
theorem dX4_atomAtHand_90 : decode cX4_atomAtHand 90 = .ok (.iload_n 2, 1) := by decide +kernel
theorem dX4_atomAtHand_91 : decode cX4_atomAtHand 91 = .ok (.ifCond .ge 7, 3) := by decide +kernel
theorem dX4_atomAtHand_94 : decode cX4_atomAtHand 94 = .ok (.iconst (-1), 1) := by decide +kernel
theorem dX4_atomAtHand_95 : decode cX4_atomAtHand 95 = .ok (.goto 8, 3) := by decide +kernel
theorem dX4_atomAtHand_98 : decode cX4_atomAtHand 98 = .ok (.sipush 10000, 3) := by decide +kernel
theorem dX4_atomAtHand_101 : decode cX4_atomAtHand 101 = .ok (.iload_n 2, 1) := by decide +kernel
theorem dX4_atomAtHand_102 : decode cX4_atomAtHand 102 = .ok (.iadd, 1) := by decide +kernel
theorem dX4_atomAtHand_103 : decode cX4_atomAtHand 103 = .ok (.ireturn, 1) := by decide +kernel
theorem dX4_atomAtHand_104 : decode cX4_atomAtHand 104 = .ok (.iconst (-1), 1) := by decide +kernel
theorem dX4_atomAtHand_105 : decode cX4_atomAtHand 105 = .ok (.ireturn, 1) := by decide +kernel
theorem dX5_init_0 : decode cX5_init 0 = .ok (.aload_n 0, 1) := by decide +kernel
theorem dX5_init_1 : decode cX5_init 1 = .ok (.invokespecial 3, 3) := by decide +kernel
theorem dX5_init_4 : decode cX5_init 4 = .ok (.aload_n 0, 1) := by decide +kernel
theorem dX5_init_5 : decode cX5_init 5 = .ok (.bipush 10, 2) := by decide +kernel
theorem dX5_init_7 : decode cX5_init 7 = .ok (.newarray .int, 2) := by decide +kernel
theorem dX5_init_9 : decode cX5_init 9 = .ok (.putfield 9, 3) := by decide +kernel
theorem dX5_init_12 : decode cX5_init 12 = .ok (.aload_n 0, 1) := by decide +kernel
theorem dX5_init_13 : decode cX5_init 13 = .ok (.bipush 10, 2) := by decide +kernel
theorem dX5_init_15 : decode cX5_init 15 = .ok (.newarray .int, 2) := by decide +kernel
theorem dX5_init_17 : decode cX5_init 17 = .ok (.putfield 15, 3) := by decide +kernel
theorem dX5_init_20 : decode cX5_init 20 = .ok (.aload_n 0, 1) := by decide +kernel
theorem dX5_init_21 : decode cX5_init 21 = .ok (.bipush 10, 2) := by decide +kernel
theorem dX5_init_23 : decode cX5_init 23 = .ok (.newarray .int, 2) := by decide +kernel
theorem dX5_init_25 : decode cX5_init 25 = .ok (.putfield 18, 3) := by decide +kernel
theorem dX5_init_28 : decode cX5_init 28 = .ok (.aload_n 0, 1) := by decide +kernel
theorem dX5_init_29 : decode cX5_init 29 = .ok (.bipush 10, 2) := by decide +kernel
theorem dX5_init_31 : decode cX5_init 31 = .ok (.newarray .int, 2) := by decide +kernel
theorem dX5_init_33 : decode cX5_init 33 = .ok (.putfield 21, 3) := by decide +kernel
theorem dX5_init_36 : decode cX5_init 36 = .ok (.aload_n 0, 1) := by decide +kernel
theorem dX5_init_37 : decode cX5_init 37 = .ok (.iconst 0, 1) := by decide +kernel
theorem dX5_init_38 : decode cX5_init 38 = .ok (.putfield 24, 3) := by decide +kernel
theorem dX5_init_41 : decode cX5_init 41 = .ok (.return_, 1) := by decide +kernel
theorem dX5_has_0 : decode cX5_has 0 = .ok (.iload_n 1, 1) := by decide +kernel
theorem dX5_has_1 : decode cX5_has 1 = .ok (.ifCond .lt 15, 3) := by decide +kernel
theorem dX5_has_4 : decode cX5_has 4 = .ok (.iload_n 1, 1) := by decide +kernel
theorem dX5_has_5 : decode cX5_has 5 = .ok (.aload_n 0, 1) := by decide +kernel
theorem dX5_has_6 : decode cX5_has 6 = .ok (.getfield 24, 3) := by decide +kernel
theorem dX5_has_9 : decode cX5_has 9 = .ok (.if_icmp .ge 7, 3) := by decide +kernel
theorem dX5_has_12 : decode cX5_has 12 = .ok (.iconst 1, 1) := by decide +kernel
theorem dX5_has_13 : decode cX5_has 13 = .ok (.goto 4, 3) := by decide +kernel
theorem dX5_has_16 : decode cX5_has 16 = .ok (.iconst 0, 1) := by decide +kernel
theorem dX5_has_17 : decode cX5_has 17 = .ok (.ireturn, 1) := by decide +kernel
theorem dX5_add_0 : decode cX5_add 0 = .ok (.aload_n 0, 1) := by decide +kernel
theorem dX5_add_1 : decode cX5_add 1 = .ok (.getfield 24, 3) := by decide +kernel
theorem dX5_add_4 : decode cX5_add 4 = .ok (.bipush 10, 2) := by decide +kernel
theorem dX5_add_6 : decode cX5_add 6 = .ok (.if_icmp .lt 6, 3) := by decide +kernel
theorem dX5_add_9 : decode cX5_add 9 = .ok (.ldc 28, 2) := by decide +kernel
theorem dX5_add_11 : decode cX5_add 11 = .ok (.ireturn, 1) := by decide +kernel
theorem dX5_add_12 : decode cX5_add 12 = .ok (.aload_n 0, 1) := by decide +kernel
theorem dX5_add_13 : decode cX5_add 13 = .ok (.getfield 9, 3) := by decide +kernel
theorem dX5_add_16 : decode cX5_add 16 = .ok (.aload_n 0, 1) := by decide +kernel
theorem dX5_add_17 : decode cX5_add 17 = .ok (.getfield 24, 3) := by decide +kernel
theorem dX5_add_20 : decode cX5_add 20 = .ok (.iload_n 1, 1) := by decide +kernel
theorem dX5_add_21 : decode cX5_add 21 = .ok (.iastore, 1) := by decide +kernel
theorem dX5_add_22 : decode cX5_add 22 = .ok (.aload_n 0, 1) := by decide +kernel
theorem dX5_add_23 : decode cX5_add 23 = .ok (.getfield 15, 3) := by decide +kernel
theorem dX5_add_26 : decode cX5_add 26 = .ok (.aload_n 0, 1) := by decide +kernel
theorem dX5_add_27 : decode cX5_add 27 = .ok (.getfield 24, 3) := by decide +kernel
theorem dX5_add_30 : decode cX5_add 30 = .ok (.iload_n 2, 1) := by decide +kernel
theorem dX5_add_31 : decode cX5_add 31 = .ok (.iastore, 1) := by decide +kernel
theorem dX5_add_32 : decode cX5_add 32 = .ok (.aload_n 0, 1) := by decide +kernel
theorem dX5_add_33 : decode cX5_add 33 = .ok (.getfield 18, 3) := by decide +kernel
theorem dX5_add_36 : decode cX5_add 36 = .ok (.aload_n 0, 1) := by decide +kernel
theorem dX5_add_37 : decode cX5_add 37 = .ok (.getfield 24, 3) := by decide +kernel
theorem dX5_add_40 : decode cX5_add 40 = .ok (.iload_n 3, 1) := by decide +kernel
theorem dX5_add_41 : decode cX5_add 41 = .ok (.iastore, 1) := by decide +kernel
theorem dX5_add_42 : decode cX5_add 42 = .ok (.aload_n 0, 1) := by decide +kernel
theorem dX5_add_43 : decode cX5_add 43 = .ok (.getfield 21, 3) := by decide +kernel
theorem dX5_add_46 : decode cX5_add 46 = .ok (.aload_n 0, 1) := by decide +kernel
theorem dX5_add_47 : decode cX5_add 47 = .ok (.getfield 24, 3) := by decide +kernel
theorem dX5_add_50 : decode cX5_add 50 = .ok (.iconst 0, 1) := by decide +kernel
theorem dX5_add_51 : decode cX5_add 51 = .ok (.iastore, 1) := by decide +kernel
theorem dX5_add_52 : decode cX5_add 52 = .ok (.aload_n 0, 1) := by decide +kernel
theorem dX5_add_53 : decode cX5_add 53 = .ok (.dup, 1) := by decide +kernel
theorem dX5_add_54 : decode cX5_add 54 = .ok (.getfield 24, 3) := by decide +kernel
theorem dX5_add_57 : decode cX5_add 57 = .ok (.iconst 1, 1) := by decide +kernel
theorem dX5_add_58 : decode cX5_add 58 = .ok (.iadd, 1) := by decide +kernel
theorem dX5_add_59 : decode cX5_add 59 = .ok (.putfield 24, 3) := by decide +kernel
theorem dX5_add_62 : decode cX5_add 62 = .ok (.aload_n 0, 1) := by decide +kernel
theorem dX5_add_63 : decode cX5_add 63 = .ok (.getfield 24, 3) := by decide +kernel
theorem dX5_add_66 : decode cX5_add 66 = .ok (.iconst 1, 1) := by decide +kernel
theorem dX5_add_67 : decode cX5_add 67 = .ok (.isub, 1) := by decide +kernel
theorem dX5_add_68 : decode cX5_add 68 = .ok (.ireturn, 1) := by decide +kernel
theorem dX5_squeezeThrough_0 : decode cX5_squeezeThrough 0 = .ok (.aload_n 0, 1) := by decide +kernel
theorem dX5_squeezeThrough_1 : decode cX5_squeezeThrough 1 = .ok (.iload_n 1, 1) := by decide +kernel
theorem dX5_squeezeThrough_2 : decode cX5_squeezeThrough 2 = .ok (.invokevirtual 29, 3) := by decide +kernel
theorem dX5_squeezeThrough_5 : decode cX5_squeezeThrough 5 = .ok (.ifCond .eq 13, 3) := by decide +kernel
theorem dX5_squeezeThrough_8 : decode cX5_squeezeThrough 8 = .ok (.iload_n 2, 1) := by decide +kernel
theorem dX5_squeezeThrough_9 : decode cX5_squeezeThrough 9 = .ok (.aload_n 0, 1) := by decide +kernel
theorem dX5_squeezeThrough_10 : decode cX5_squeezeThrough 10 = .ok (.getfield 18, 3) := by decide +kernel
theorem dX5_squeezeThrough_13 : decode cX5_squeezeThrough 13 = .ok (.iload_n 1, 1) := by decide +kernel
theorem dX5_squeezeThrough_14 : decode cX5_squeezeThrough 14 = .ok (.iaload, 1) := by decide +kernel
theorem dX5_squeezeThrough_15 : decode cX5_squeezeThrough 15 = .ok (.if_icmp .gt 5, 3) := by decide +kernel
theorem dX5_squeezeThrough_18 : decode cX5_squeezeThrough 18 = .ok (.iconst 0, 1) := by decide +kernel
theorem dX5_squeezeThrough_19 : decode cX5_squeezeThrough 19 = .ok (.ireturn, 1) := by decide +kernel
theorem dX5_squeezeThrough_20 : decode cX5_squeezeThrough 20 = .ok (.aload_n 0, 1) := by decide +kernel
theorem dX5_squeezeThrough_21 : decode cX5_squeezeThrough 21 = .ok (.getfield 21, 3) := by decide +kernel
theorem dX5_squeezeThrough_24 : decode cX5_squeezeThrough 24 = .ok (.iload_n 1, 1) := by decide +kernel
theorem dX5_squeezeThrough_25 : decode cX5_squeezeThrough 25 = .ok (.dup2, 1) := by decide +kernel
theorem dX5_squeezeThrough_26 : decode cX5_squeezeThrough 26 = .ok (.iaload, 1) := by decide +kernel
theorem dX5_squeezeThrough_27 : decode cX5_squeezeThrough 27 = .ok (.iconst 1, 1) := by decide +kernel
theorem dX5_squeezeThrough_28 : decode cX5_squeezeThrough 28 = .ok (.iadd, 1) := by decide +kernel
theorem dX5_squeezeThrough_29 : decode cX5_squeezeThrough 29 = .ok (.iastore, 1) := by decide +kernel
theorem dX5_squeezeThrough_30 : decode cX5_squeezeThrough 30 = .ok (.aload_n 0, 1) := by decide +kernel
theorem dX5_squeezeThrough_31 : decode cX5_squeezeThrough 31 = .ok (.getfield 18, 3) := by decide +kernel
theorem dX5_squeezeThrough_34 : decode cX5_squeezeThrough 34 = .ok (.iload_n 1, 1) := by decide +kernel
theorem dX5_squeezeThrough_35 : decode cX5_squeezeThrough 35 = .ok (.iload_n 2, 1) := by decide +kernel
theorem dX5_squeezeThrough_36 : decode cX5_squeezeThrough 36 = .ok (.iastore, 1) := by decide +kernel
theorem dX5_squeezeThrough_37 : decode cX5_squeezeThrough 37 = .ok (.iconst 1, 1) := by decide +kernel
theorem dX5_squeezeThrough_38 : decode cX5_squeezeThrough 38 = .ok (.ireturn, 1) := by decide +kernel
theorem dX5_snowOn_0 : decode cX5_snowOn 0 = .ok (.iconst 0, 1) := by decide +kernel
theorem dX5_snowOn_1 : decode cX5_snowOn 1 = .ok (.istore_n 2, 1) := by decide +kernel
theorem dX5_snowOn_2 : decode cX5_snowOn 2 = .ok (.iload_n 2, 1) := by decide +kernel
theorem dX5_snowOn_3 : decode cX5_snowOn 3 = .ok (.aload_n 0, 1) := by decide +kernel
theorem dX5_snowOn_4 : decode cX5_snowOn 4 = .ok (.getfield 24, 3) := by decide +kernel
theorem dX5_snowOn_7 : decode cX5_snowOn 7 = .ok (.if_icmp .ge 29, 3) := by decide +kernel
theorem dX5_snowOn_10 : decode cX5_snowOn 10 = .ok (.aload_n 0, 1) := by decide +kernel
theorem dX5_snowOn_11 : decode cX5_snowOn 11 = .ok (.getfield 15, 3) := by decide +kernel
theorem dX5_snowOn_14 : decode cX5_snowOn 14 = .ok (.iload_n 2, 1) := by decide +kernel
theorem dX5_snowOn_15 : decode cX5_snowOn 15 = .ok (.sipush 999, 3) := by decide +kernel
theorem dX5_snowOn_18 : decode cX5_snowOn 18 = .ok (.aload_n 0, 1) := by decide +kernel
theorem dX5_snowOn_19 : decode cX5_snowOn 19 = .ok (.getfield 15, 3) := by decide +kernel
theorem dX5_snowOn_22 : decode cX5_snowOn 22 = .ok (.iload_n 2, 1) := by decide +kernel
theorem dX5_snowOn_23 : decode cX5_snowOn 23 = .ok (.iaload, 1) := by decide +kernel
theorem dX5_snowOn_24 : decode cX5_snowOn 24 = .ok (.iload_n 1, 1) := by decide +kernel
theorem dX5_snowOn_25 : decode cX5_snowOn 25 = .ok (.iadd, 1) := by decide +kernel
theorem dX5_snowOn_26 : decode cX5_snowOn 26 = .ok (.invokestatic 33, 3) := by decide +kernel
theorem dX5_snowOn_29 : decode cX5_snowOn 29 = .ok (.iastore, 1) := by decide +kernel
theorem dX5_snowOn_30 : decode cX5_snowOn 30 = .ok (.iinc 2 1, 3) := by decide +kernel
theorem dX5_snowOn_33 : decode cX5_snowOn 33 = .ok (.goto (-31), 3) := by decide +kernel
theorem dX5_snowOn_36 : decode cX5_snowOn 36 = .ok (.return_, 1) := by decide +kernel
theorem dX5_brokenOfAll_0 : decode cX5_brokenOfAll 0 = .ok (.iconst 0, 1) := by decide +kernel
theorem dX5_brokenOfAll_1 : decode cX5_brokenOfAll 1 = .ok (.istore_n 1, 1) := by decide +kernel
theorem dX5_brokenOfAll_2 : decode cX5_brokenOfAll 2 = .ok (.iconst 0, 1) := by decide +kernel
theorem dX5_brokenOfAll_3 : decode cX5_brokenOfAll 3 = .ok (.istore_n 2, 1) := by decide +kernel
theorem dX5_brokenOfAll_4 : decode cX5_brokenOfAll 4 = .ok (.iload_n 2, 1) := by decide +kernel
theorem dX5_brokenOfAll_5 : decode cX5_brokenOfAll 5 = .ok (.aload_n 0, 1) := by decide +kernel
theorem dX5_brokenOfAll_6 : decode cX5_brokenOfAll 6 = .ok (.getfield 24, 3) := by decide +kernel
theorem dX5_brokenOfAll_9 : decode cX5_brokenOfAll 9 = .ok (.if_icmp .ge 18, 3) := by decide +kernel
theorem dX5_brokenOfAll_12 : decode cX5_brokenOfAll 12 = .ok (.iload_n 1, 1) := by decide +kernel
theorem dX5_brokenOfAll_13 : decode cX5_brokenOfAll 13 = .ok (.aload_n 0, 1) := by decide +kernel
theorem dX5_brokenOfAll_14 : decode cX5_brokenOfAll 14 = .ok (.getfield 21, 3) := by decide +kernel
theorem dX5_brokenOfAll_17 : decode cX5_brokenOfAll 17 = .ok (.iload_n 2, 1) := by decide +kernel
theorem dX5_brokenOfAll_18 : decode cX5_brokenOfAll 18 = .ok (.iaload, 1) := by decide +kernel
theorem dX5_brokenOfAll_19 : decode cX5_brokenOfAll 19 = .ok (.iadd, 1) := by decide +kernel
theorem dX5_brokenOfAll_20 : decode cX5_brokenOfAll 20 = .ok (.istore_n 1, 1) := by decide +kernel
theorem dX5_brokenOfAll_21 : decode cX5_brokenOfAll 21 = .ok (.iinc 2 1, 3) := by decide +kernel
theorem dX5_brokenOfAll_24 : decode cX5_brokenOfAll 24 = .ok (.goto (-20), 3) := by decide +kernel
theorem dX5_brokenOfAll_27 : decode cX5_brokenOfAll 27 = .ok (.iload_n 1, 1) := by decide +kernel
theorem dX5_brokenOfAll_28 : decode cX5_brokenOfAll 28 = .ok (.ireturn, 1) := by decide +kernel
theorem dX5_snowOfAll_0 : decode cX5_snowOfAll 0 = .ok (.iconst 0, 1) := by decide +kernel
theorem dX5_snowOfAll_1 : decode cX5_snowOfAll 1 = .ok (.istore_n 1, 1) := by decide +kernel
theorem dX5_snowOfAll_2 : decode cX5_snowOfAll 2 = .ok (.iconst 0, 1) := by decide +kernel
theorem dX5_snowOfAll_3 : decode cX5_snowOfAll 3 = .ok (.istore_n 2, 1) := by decide +kernel
theorem dX5_snowOfAll_4 : decode cX5_snowOfAll 4 = .ok (.iload_n 2, 1) := by decide +kernel
theorem dX5_snowOfAll_5 : decode cX5_snowOfAll 5 = .ok (.aload_n 0, 1) := by decide +kernel
theorem dX5_snowOfAll_6 : decode cX5_snowOfAll 6 = .ok (.getfield 24, 3) := by decide +kernel
theorem dX5_snowOfAll_9 : decode cX5_snowOfAll 9 = .ok (.if_icmp .ge 18, 3) := by decide +kernel
theorem dX5_snowOfAll_12 : decode cX5_snowOfAll 12 = .ok (.iload_n 1, 1) := by decide +kernel
theorem dX5_snowOfAll_13 : decode cX5_snowOfAll 13 = .ok (.aload_n 0, 1) := by decide +kernel
theorem dX5_snowOfAll_14 : decode cX5_snowOfAll 14 = .ok (.getfield 15, 3) := by decide +kernel
theorem dX5_snowOfAll_17 : decode cX5_snowOfAll 17 = .ok (.iload_n 2, 1) := by decide +kernel
theorem dX5_snowOfAll_18 : decode cX5_snowOfAll 18 = .ok (.iaload, 1) := by decide +kernel
theorem dX5_snowOfAll_19 : decode cX5_snowOfAll 19 = .ok (.iadd, 1) := by decide +kernel
theorem dX5_snowOfAll_20 : decode cX5_snowOfAll 20 = .ok (.istore_n 1, 1) := by decide +kernel
theorem dX5_snowOfAll_21 : decode cX5_snowOfAll 21 = .ok (.iinc 2 1, 3) := by decide +kernel
theorem dX5_snowOfAll_24 : decode cX5_snowOfAll 24 = .ok (.goto (-20), 3) := by decide +kernel
theorem dX5_snowOfAll_27 : decode cX5_snowOfAll 27 = .ok (.iload_n 1, 1) := by decide +kernel
theorem dX5_snowOfAll_28 : decode cX5_snowOfAll 28 = .ok (.ireturn, 1) := by decide +kernel
theorem dX5_become_0 : decode cX5_become 0 = .ok (.aload_n 0, 1) := by decide +kernel
theorem dX5_become_1 : decode cX5_become 1 = .ok (.aload_n 1, 1) := by decide +kernel
theorem dX5_become_2 : decode cX5_become 2 = .ok (.getfield 24, 3) := by decide +kernel
theorem dX5_become_5 : decode cX5_become 5 = .ok (.putfield 24, 3) := by decide +kernel
theorem dX5_become_8 : decode cX5_become 8 = .ok (.aload_n 1, 1) := by decide +kernel
theorem dX5_become_9 : decode cX5_become 9 = .ok (.getfield 9, 3) := by decide +kernel
theorem dX5_become_12 : decode cX5_become 12 = .ok (.iconst 0, 1) := by decide +kernel
theorem dX5_become_13 : decode cX5_become 13 = .ok (.aload_n 0, 1) := by decide +kernel
theorem dX5_become_14 : decode cX5_become 14 = .ok (.getfield 9, 3) := by decide +kernel
theorem dX5_become_17 : decode cX5_become 17 = .ok (.iconst 0, 1) := by decide +kernel
theorem dX5_become_18 : decode cX5_become 18 = .ok (.aload_n 0, 1) := by decide +kernel
theorem dX5_become_19 : decode cX5_become 19 = .ok (.getfield 24, 3) := by decide +kernel
theorem dX5_become_22 : decode cX5_become 22 = .ok (.invokestatic 39, 3) := by decide +kernel
theorem dX5_become_25 : decode cX5_become 25 = .ok (.aload_n 1, 1) := by decide +kernel
theorem dX5_become_26 : decode cX5_become 26 = .ok (.getfield 15, 3) := by decide +kernel
theorem dX5_become_29 : decode cX5_become 29 = .ok (.iconst 0, 1) := by decide +kernel
theorem dX5_become_30 : decode cX5_become 30 = .ok (.aload_n 0, 1) := by decide +kernel
theorem dX5_become_31 : decode cX5_become 31 = .ok (.getfield 15, 3) := by decide +kernel
theorem dX5_become_34 : decode cX5_become 34 = .ok (.iconst 0, 1) := by decide +kernel
theorem dX5_become_35 : decode cX5_become 35 = .ok (.aload_n 0, 1) := by decide +kernel
theorem dX5_become_36 : decode cX5_become 36 = .ok (.getfield 24, 3) := by decide +kernel
theorem dX5_become_39 : decode cX5_become 39 = .ok (.invokestatic 39, 3) := by decide +kernel
theorem dX5_become_42 : decode cX5_become 42 = .ok (.aload_n 1, 1) := by decide +kernel
theorem dX5_become_43 : decode cX5_become 43 = .ok (.getfield 18, 3) := by decide +kernel
theorem dX5_become_46 : decode cX5_become 46 = .ok (.iconst 0, 1) := by decide +kernel
theorem dX5_become_47 : decode cX5_become 47 = .ok (.aload_n 0, 1) := by decide +kernel
theorem dX5_become_48 : decode cX5_become 48 = .ok (.getfield 18, 3) := by decide +kernel
theorem dX5_become_51 : decode cX5_become 51 = .ok (.iconst 0, 1) := by decide +kernel
theorem dX5_become_52 : decode cX5_become 52 = .ok (.aload_n 0, 1) := by decide +kernel
theorem dX5_become_53 : decode cX5_become 53 = .ok (.getfield 24, 3) := by decide +kernel
theorem dX5_become_56 : decode cX5_become 56 = .ok (.invokestatic 39, 3) := by decide +kernel
theorem dX5_become_59 : decode cX5_become 59 = .ok (.aload_n 1, 1) := by decide +kernel
theorem dX5_become_60 : decode cX5_become 60 = .ok (.getfield 21, 3) := by decide +kernel
theorem dX5_become_63 : decode cX5_become 63 = .ok (.iconst 0, 1) := by decide +kernel
theorem dX5_become_64 : decode cX5_become 64 = .ok (.aload_n 0, 1) := by decide +kernel
theorem dX5_become_65 : decode cX5_become 65 = .ok (.getfield 21, 3) := by decide +kernel
theorem dX5_become_68 : decode cX5_become 68 = .ok (.iconst 0, 1) := by decide +kernel
theorem dX5_become_69 : decode cX5_become 69 = .ok (.aload_n 0, 1) := by decide +kernel
theorem dX5_become_70 : decode cX5_become 70 = .ok (.getfield 24, 3) := by decide +kernel
theorem dX5_become_73 : decode cX5_become 73 = .ok (.invokestatic 39, 3) := by decide +kernel
theorem dX5_become_76 : decode cX5_become 76 = .ok (.return_, 1) := by decide +kernel
theorem dX6_init_0 : decode cX6_init 0 = .ok (.aload_n 0, 1) := by decide +kernel
theorem dX6_init_1 : decode cX6_init 1 = .ok (.invokespecial 3, 3) := by decide +kernel
theorem dX6_init_4 : decode cX6_init 4 = .ok (.aload_n 0, 1) := by decide +kernel
theorem dX6_init_5 : decode cX6_init 5 = .ok (.bipush 24, 2) := by decide +kernel
theorem dX6_init_7 : decode cX6_init 7 = .ok (.newarray .int, 2) := by decide +kernel
theorem dX6_init_9 : decode cX6_init 9 = .ok (.putfield 9, 3) := by decide +kernel
theorem dX6_init_12 : decode cX6_init 12 = .ok (.aload_n 0, 1) := by decide +kernel
theorem dX6_init_13 : decode cX6_init 13 = .ok (.iconst (-1), 1) := by decide +kernel
theorem dX6_init_14 : decode cX6_init 14 = .ok (.putfield 15, 3) := by decide +kernel
theorem dX6_init_17 : decode cX6_init 17 = .ok (.aload_n 0, 1) := by decide +kernel
theorem dX6_init_18 : decode cX6_init 18 = .ok (.iconst 0, 1) := by decide +kernel
theorem dX6_init_19 : decode cX6_init 19 = .ok (.putfield 19, 3) := by decide +kernel
theorem dX6_init_22 : decode cX6_init 22 = .ok (.return_, 1) := by decide +kernel
theorem dX6_become_0 : decode cX6_become 0 = .ok (.aload_n 0, 1) := by decide +kernel
theorem dX6_become_1 : decode cX6_become 1 = .ok (.iload_n 1, 1) := by decide +kernel
theorem dX6_become_2 : decode cX6_become 2 = .ok (.putfield 15, 3) := by decide +kernel
theorem dX6_become_5 : decode cX6_become 5 = .ok (.aload_n 0, 1) := by decide +kernel
theorem dX6_become_6 : decode cX6_become 6 = .ok (.iload_n 2, 1) := by decide +kernel
theorem dX6_become_7 : decode cX6_become 7 = .ok (.putfield 19, 3) := by decide +kernel
theorem dX6_become_10 : decode cX6_become 10 = .ok (.iconst 0, 1) := by decide +kernel
theorem dX6_become_11 : decode cX6_become 11 = .ok (.istore_n 3, 1) := by decide +kernel
theorem dX6_become_12 : decode cX6_become 12 = .ok (.iload_n 3, 1) := by decide +kernel
theorem dX6_become_13 : decode cX6_become 13 = .ok (.bipush 24, 2) := by decide +kernel
theorem dX6_become_15 : decode cX6_become 15 = .ok (.if_icmp .ge 16, 3) := by decide +kernel
theorem dX6_become_18 : decode cX6_become 18 = .ok (.aload_n 0, 1) := by decide +kernel
theorem dX6_become_19 : decode cX6_become 19 = .ok (.getfield 9, 3) := by decide +kernel
theorem dX6_become_22 : decode cX6_become 22 = .ok (.iload_n 3, 1) := by decide +kernel
theorem dX6_become_23 : decode cX6_become 23 = .ok (.iconst 0, 1) := by decide +kernel
theorem dX6_become_24 : decode cX6_become 24 = .ok (.iastore, 1) := by decide +kernel
theorem dX6_become_25 : decode cX6_become 25 = .ok (.iinc 3 1, 3) := by decide +kernel
theorem dX6_become_28 : decode cX6_become 28 = .ok (.goto (-16), 3) := by decide +kernel
theorem dX6_become_31 : decode cX6_become 31 = .ok (.return_, 1) := by decide +kernel
theorem dX6_take_0 : decode cX6_take 0 = .ok (.aload_n 0, 1) := by decide +kernel
theorem dX6_take_1 : decode cX6_take 1 = .ok (.aload_n 1, 1) := by decide +kernel
theorem dX6_take_2 : decode cX6_take 2 = .ok (.getfield 15, 3) := by decide +kernel
theorem dX6_take_5 : decode cX6_take 5 = .ok (.putfield 15, 3) := by decide +kernel
theorem dX6_take_8 : decode cX6_take 8 = .ok (.aload_n 0, 1) := by decide +kernel
theorem dX6_take_9 : decode cX6_take 9 = .ok (.aload_n 1, 1) := by decide +kernel
theorem dX6_take_10 : decode cX6_take 10 = .ok (.getfield 19, 3) := by decide +kernel
theorem dX6_take_13 : decode cX6_take 13 = .ok (.putfield 19, 3) := by decide +kernel
theorem dX6_take_16 : decode cX6_take 16 = .ok (.aload_n 1, 1) := by decide +kernel
theorem dX6_take_17 : decode cX6_take 17 = .ok (.getfield 9, 3) := by decide +kernel
theorem dX6_take_20 : decode cX6_take 20 = .ok (.iconst 0, 1) := by decide +kernel
theorem dX6_take_21 : decode cX6_take 21 = .ok (.aload_n 0, 1) := by decide +kernel
theorem dX6_take_22 : decode cX6_take 22 = .ok (.getfield 9, 3) := by decide +kernel
theorem dX6_take_25 : decode cX6_take 25 = .ok (.iconst 0, 1) := by decide +kernel
theorem dX6_take_26 : decode cX6_take 26 = .ok (.bipush 24, 2) := by decide +kernel
theorem dX6_take_28 : decode cX6_take 28 = .ok (.invokestatic 22, 3) := by decide +kernel
theorem dX6_take_31 : decode cX6_take 31 = .ok (.return_, 1) := by decide +kernel
theorem dX6_has_0 : decode cX6_has 0 = .ok (.iload_n 1, 1) := by decide +kernel
theorem dX6_has_1 : decode cX6_has 1 = .ok (.ifCond .lt 15, 3) := by decide +kernel
theorem dX6_has_4 : decode cX6_has 4 = .ok (.iload_n 1, 1) := by decide +kernel
theorem dX6_has_5 : decode cX6_has 5 = .ok (.aload_n 0, 1) := by decide +kernel
theorem dX6_has_6 : decode cX6_has 6 = .ok (.getfield 19, 3) := by decide +kernel
theorem dX6_has_9 : decode cX6_has 9 = .ok (.if_icmp .ge 7, 3) := by decide +kernel
theorem dX6_has_12 : decode cX6_has 12 = .ok (.iconst 1, 1) := by decide +kernel
theorem dX6_has_13 : decode cX6_has 13 = .ok (.goto 4, 3) := by decide +kernel
theorem dX6_has_16 : decode cX6_has 16 = .ok (.iconst 0, 1) := by decide +kernel
theorem dX6_has_17 : decode cX6_has 17 = .ok (.ireturn, 1) := by decide +kernel
theorem dX6_hasMany_0 : decode cX6_hasMany 0 = .ok (.iload_n 1, 1) := by decide +kernel
theorem dX6_hasMany_1 : decode cX6_hasMany 1 = .ok (.ifCond .lt 29, 3) := by decide +kernel
theorem dX6_hasMany_4 : decode cX6_hasMany 4 = .ok (.iload_n 2, 1) := by decide +kernel
theorem dX6_hasMany_5 : decode cX6_hasMany 5 = .ok (.ifCond .lt 25, 3) := by decide +kernel
theorem dX6_hasMany_8 : decode cX6_hasMany 8 = .ok (.iload_n 2, 1) := by decide +kernel
theorem dX6_hasMany_9 : decode cX6_hasMany 9 = .ok (.aload_n 0, 1) := by decide +kernel
theorem dX6_hasMany_10 : decode cX6_hasMany 10 = .ok (.getfield 19, 3) := by decide +kernel
theorem dX6_hasMany_13 : decode cX6_hasMany 13 = .ok (.if_icmp .gt 17, 3) := by decide +kernel
theorem dX6_hasMany_16 : decode cX6_hasMany 16 = .ok (.iload_n 1, 1) := by decide +kernel
theorem dX6_hasMany_17 : decode cX6_hasMany 17 = .ok (.aload_n 0, 1) := by decide +kernel
theorem dX6_hasMany_18 : decode cX6_hasMany 18 = .ok (.getfield 19, 3) := by decide +kernel
theorem dX6_hasMany_21 : decode cX6_hasMany 21 = .ok (.iload_n 2, 1) := by decide +kernel
theorem dX6_hasMany_22 : decode cX6_hasMany 22 = .ok (.isub, 1) := by decide +kernel
theorem dX6_hasMany_23 : decode cX6_hasMany 23 = .ok (.if_icmp .gt 7, 3) := by decide +kernel
theorem dX6_hasMany_26 : decode cX6_hasMany 26 = .ok (.iconst 1, 1) := by decide +kernel
theorem dX6_hasMany_27 : decode cX6_hasMany 27 = .ok (.goto 4, 3) := by decide +kernel
theorem dX6_hasMany_30 : decode cX6_hasMany 30 = .ok (.iconst 0, 1) := by decide +kernel
theorem dX6_hasMany_31 : decode cX6_hasMany 31 = .ok (.ireturn, 1) := by decide +kernel
theorem dX7_init_0 : decode cX7_init 0 = .ok (.aload_n 0, 1) := by decide +kernel
theorem dX7_init_1 : decode cX7_init 1 = .ok (.invokespecial 3, 3) := by decide +kernel
theorem dX7_init_4 : decode cX7_init 4 = .ok (.aload_n 0, 1) := by decide +kernel
theorem dX7_init_5 : decode cX7_init 5 = .ok (.new 9, 3) := by decide +kernel
theorem dX7_init_8 : decode cX7_init 8 = .ok (.dup, 1) := by decide +kernel
theorem dX7_init_9 : decode cX7_init 9 = .ok (.invokespecial 11, 3) := by decide +kernel
theorem dX7_init_12 : decode cX7_init 12 = .ok (.putfield 12, 3) := by decide +kernel
theorem dX7_init_15 : decode cX7_init 15 = .ok (.aload_n 0, 1) := by decide +kernel
theorem dX7_init_16 : decode cX7_init 16 = .ok (.iconst 0, 1) := by decide +kernel
theorem dX7_init_17 : decode cX7_init 17 = .ok (.putfield 18, 3) := by decide +kernel
theorem dX7_init_20 : decode cX7_init 20 = .ok (.aload_n 0, 1) := by decide +kernel
theorem dX7_init_21 : decode cX7_init 21 = .ok (.iconst 0, 1) := by decide +kernel
theorem dX7_init_22 : decode cX7_init 22 = .ok (.putfield 22, 3) := by decide +kernel
theorem dX7_init_25 : decode cX7_init 25 = .ok (.aload_n 0, 1) := by decide +kernel
theorem dX7_init_26 : decode cX7_init 26 = .ok (.iconst 0, 1) := by decide +kernel
theorem dX7_init_27 : decode cX7_init 27 = .ok (.putfield 25, 3) := by decide +kernel
theorem dX7_init_30 : decode cX7_init 30 = .ok (.aload_n 0, 1) := by decide +kernel
theorem dX7_init_31 : decode cX7_init 31 = .ok (.iconst 0, 1) := by decide +kernel
theorem dX7_init_32 : decode cX7_init 32 = .ok (.putfield 28, 3) := by decide +kernel
theorem dX7_init_35 : decode cX7_init 35 = .ok (.aload_n 0, 1) := by decide +kernel
theorem dX7_init_36 : decode cX7_init 36 = .ok (.iconst 0, 1) := by decide +kernel
theorem dX7_init_37 : decode cX7_init 37 = .ok (.putfield 31, 3) := by decide +kernel
theorem dX7_init_40 : decode cX7_init 40 = .ok (.return_, 1) := by decide +kernel
theorem dX7_takeYard_0 : decode cX7_takeYard 0 = .ok (.aload_n 1, 1) := by decide +kernel
theorem dX7_takeYard_1 : decode cX7_takeYard 1 = .ok (.iload_n 2, 1) := by decide +kernel
theorem dX7_takeYard_2 : decode cX7_takeYard 2 = .ok (.invokevirtual 34, 3) := by decide +kernel
theorem dX7_takeYard_5 : decode cX7_takeYard 5 = .ok (.ifCond .eq 33, 3) := by decide +kernel
theorem dX7_takeYard_8 : decode cX7_takeYard 8 = .ok (.aload_n 0, 1) := by decide +kernel
theorem dX7_takeYard_9 : decode cX7_takeYard 9 = .ok (.aload_n 1, 1) := by decide +kernel
theorem dX7_takeYard_10 : decode cX7_takeYard 10 = .ok (.getfield 40, 3) := by decide +kernel
theorem dX7_takeYard_13 : decode cX7_takeYard 13 = .ok (.iload_n 2, 1) := by decide +kernel
theorem dX7_takeYard_14 : decode cX7_takeYard 14 = .ok (.iaload, 1) := by decide +kernel
theorem dX7_takeYard_15 : decode cX7_takeYard 15 = .ok (.putfield 22, 3) := by decide +kernel
theorem dX7_takeYard_18 : decode cX7_takeYard 18 = .ok (.aload_n 0, 1) := by decide +kernel
theorem dX7_takeYard_19 : decode cX7_takeYard 19 = .ok (.aload_n 1, 1) := by decide +kernel
theorem dX7_takeYard_20 : decode cX7_takeYard 20 = .ok (.getfield 44, 3) := by decide +kernel
theorem dX7_takeYard_23 : decode cX7_takeYard 23 = .ok (.iload_n 2, 1) := by decide +kernel
theorem dX7_takeYard_24 : decode cX7_takeYard 24 = .ok (.iaload, 1) := by decide +kernel
theorem dX7_takeYard_25 : decode cX7_takeYard 25 = .ok (.putfield 25, 3) := by decide +kernel
theorem dX7_takeYard_28 : decode cX7_takeYard 28 = .ok (.aload_n 0, 1) := by decide +kernel
theorem dX7_takeYard_29 : decode cX7_takeYard 29 = .ok (.aload_n 1, 1) := by decide +kernel
theorem dX7_takeYard_30 : decode cX7_takeYard 30 = .ok (.getfield 46, 3) := by decide +kernel
theorem dX7_takeYard_33 : decode cX7_takeYard 33 = .ok (.iload_n 2, 1) := by decide +kernel
theorem dX7_takeYard_34 : decode cX7_takeYard 34 = .ok (.iaload, 1) := by decide +kernel
theorem dX7_takeYard_35 : decode cX7_takeYard 35 = .ok (.putfield 28, 3) := by decide +kernel
theorem dX7_takeYard_38 : decode cX7_takeYard 38 = .ok (.return_, 1) := by decide +kernel
theorem dX8_init_0 : decode cX8_init 0 = .ok (.aload_n 0, 1) := by decide +kernel
theorem dX8_init_1 : decode cX8_init 1 = .ok (.invokespecial 3, 3) := by decide +kernel
theorem dX8_init_4 : decode cX8_init 4 = .ok (.aload_n 0, 1) := by decide +kernel
theorem dX8_init_5 : decode cX8_init 5 = .ok (.bipush 96, 2) := by decide +kernel
theorem dX8_init_7 : decode cX8_init 7 = .ok (.newarray .int, 2) := by decide +kernel
theorem dX8_init_9 : decode cX8_init 9 = .ok (.putfield 9, 3) := by decide +kernel
theorem dX8_init_12 : decode cX8_init 12 = .ok (.aload_n 0, 1) := by decide +kernel
theorem dX8_init_13 : decode cX8_init 13 = .ok (.iconst 0, 1) := by decide +kernel
theorem dX8_init_14 : decode cX8_init 14 = .ok (.putfield 15, 3) := by decide +kernel
theorem dX8_init_17 : decode cX8_init 17 = .ok (.return_, 1) := by decide +kernel
theorem dX8_put_0 : decode cX8_put 0 = .ok (.bipush 24, 2) := by decide +kernel
theorem dX8_put_2 : decode cX8_put 2 = .ok (.istore_n 2, 1) := by decide +kernel
theorem dX8_put_3 : decode cX8_put 3 = .ok (.iload_n 2, 1) := by decide +kernel
theorem dX8_put_4 : decode cX8_put 4 = .ok (.ifCond .lt 44, 3) := by decide +kernel
theorem dX8_put_7 : decode cX8_put 7 = .ok (.aload_n 0, 1) := by decide +kernel
theorem dX8_put_8 : decode cX8_put 8 = .ok (.getfield 15, 3) := by decide +kernel
theorem dX8_put_11 : decode cX8_put 11 = .ok (.bipush 96, 2) := by decide +kernel
theorem dX8_put_13 : decode cX8_put 13 = .ok (.if_icmp .ge 35, 3) := by decide +kernel
theorem dX8_put_16 : decode cX8_put 16 = .ok (.aload_n 0, 1) := by decide +kernel
theorem dX8_put_17 : decode cX8_put 17 = .ok (.getfield 9, 3) := by decide +kernel
theorem dX8_put_20 : decode cX8_put 20 = .ok (.aload_n 0, 1) := by decide +kernel
theorem dX8_put_21 : decode cX8_put 21 = .ok (.getfield 15, 3) := by decide +kernel
theorem dX8_put_24 : decode cX8_put 24 = .ok (.iload_n 1, 1) := by decide +kernel
theorem dX8_put_25 : decode cX8_put 25 = .ok (.iload_n 2, 1) := by decide +kernel
theorem dX8_put_26 : decode cX8_put 26 = .ok (.iushr, 1) := by decide +kernel
theorem dX8_put_27 : decode cX8_put 27 = .ok (.sipush 255, 3) := by decide +kernel
theorem dX8_put_30 : decode cX8_put 30 = .ok (.iand, 1) := by decide +kernel
theorem dX8_put_31 : decode cX8_put 31 = .ok (.iastore, 1) := by decide +kernel
theorem dX8_put_32 : decode cX8_put 32 = .ok (.aload_n 0, 1) := by decide +kernel
theorem dX8_put_33 : decode cX8_put 33 = .ok (.dup, 1) := by decide +kernel
theorem dX8_put_34 : decode cX8_put 34 = .ok (.getfield 15, 3) := by decide +kernel
theorem dX8_put_37 : decode cX8_put 37 = .ok (.iconst 1, 1) := by decide +kernel
theorem dX8_put_38 : decode cX8_put 38 = .ok (.iadd, 1) := by decide +kernel
theorem dX8_put_39 : decode cX8_put 39 = .ok (.putfield 15, 3) := by decide +kernel
theorem dX8_put_42 : decode cX8_put 42 = .ok (.iinc 2 (-8), 3) := by decide +kernel
theorem dX8_put_45 : decode cX8_put 45 = .ok (.goto (-42), 3) := by decide +kernel
theorem dX8_put_48 : decode cX8_put 48 = .ok (.return_, 1) := by decide +kernel
theorem dX9_init_0 : decode cX9_init 0 = .ok (.aload_n 0, 1) := by decide +kernel
theorem dX9_init_1 : decode cX9_init 1 = .ok (.invokespecial 3, 3) := by decide +kernel
theorem dX9_init_4 : decode cX9_init 4 = .ok (.aload_n 0, 1) := by decide +kernel
theorem dX9_init_5 : decode cX9_init 5 = .ok (.new 9, 3) := by decide +kernel
theorem dX9_init_8 : decode cX9_init 8 = .ok (.dup, 1) := by decide +kernel
theorem dX9_init_9 : decode cX9_init 9 = .ok (.invokespecial 11, 3) := by decide +kernel
theorem dX9_init_12 : decode cX9_init 12 = .ok (.putfield 12, 3) := by decide +kernel
theorem dX9_init_15 : decode cX9_init 15 = .ok (.aload_n 0, 1) := by decide +kernel
theorem dX9_init_16 : decode cX9_init 16 = .ok (.new 18, 3) := by decide +kernel
theorem dX9_init_19 : decode cX9_init 19 = .ok (.dup, 1) := by decide +kernel
theorem dX9_init_20 : decode cX9_init 20 = .ok (.invokespecial 20, 3) := by decide +kernel
theorem dX9_init_23 : decode cX9_init 23 = .ok (.putfield 21, 3) := by decide +kernel
theorem dX9_init_26 : decode cX9_init 26 = .ok (.aload_n 0, 1) := by decide +kernel
theorem dX9_init_27 : decode cX9_init 27 = .ok (.iconst 3, 1) := by decide +kernel
theorem dX9_init_28 : decode cX9_init 28 = .ok (.anewarray 25, 3) := by decide +kernel
theorem dX9_init_31 : decode cX9_init 31 = .ok (.putfield 27, 3) := by decide +kernel
theorem dX9_init_34 : decode cX9_init 34 = .ok (.aload_n 0, 1) := by decide +kernel
theorem dX9_init_35 : decode cX9_init 35 = .ok (.iconst 0, 1) := by decide +kernel
theorem dX9_init_36 : decode cX9_init 36 = .ok (.putfield 31, 3) := by decide +kernel
theorem dX9_init_39 : decode cX9_init 39 = .ok (.aload_n 0, 1) := by decide +kernel
theorem dX9_init_40 : decode cX9_init 40 = .ok (.iconst 0, 1) := by decide +kernel
theorem dX9_init_41 : decode cX9_init 41 = .ok (.putfield 35, 3) := by decide +kernel
theorem dX9_init_44 : decode cX9_init 44 = .ok (.aload_n 0, 1) := by decide +kernel
theorem dX9_init_45 : decode cX9_init 45 = .ok (.iconst 5, 1) := by decide +kernel
theorem dX9_init_46 : decode cX9_init 46 = .ok (.putfield 38, 3) := by decide +kernel
theorem dX9_init_49 : decode cX9_init 49 = .ok (.aload_n 0, 1) := by decide +kernel
theorem dX9_init_50 : decode cX9_init 50 = .ok (.iconst 3, 1) := by decide +kernel
theorem dX9_init_51 : decode cX9_init 51 = .ok (.putfield 41, 3) := by decide +kernel
theorem dX9_init_54 : decode cX9_init 54 = .ok (.aload_n 0, 1) := by decide +kernel
theorem dX9_init_55 : decode cX9_init 55 = .ok (.iconst 0, 1) := by decide +kernel
theorem dX9_init_56 : decode cX9_init 56 = .ok (.putfield 44, 3) := by decide +kernel
theorem dX9_init_59 : decode cX9_init 59 = .ok (.aload_n 0, 1) := by decide +kernel
theorem dX9_init_60 : decode cX9_init 60 = .ok (.iconst 1, 1) := by decide +kernel
theorem dX9_init_61 : decode cX9_init 61 = .ok (.putfield 47, 3) := by decide +kernel
theorem dX9_init_64 : decode cX9_init 64 = .ok (.return_, 1) := by decide +kernel
theorem dX9_become_0 : decode cX9_become 0 = .ok (.aload_n 0, 1) := by decide +kernel
theorem dX9_become_1 : decode cX9_become 1 = .ok (.getfield 12, 3) := by decide +kernel
theorem dX9_become_4 : decode cX9_become 4 = .ok (.aload_n 1, 1) := by decide +kernel
theorem dX9_become_5 : decode cX9_become 5 = .ok (.getfield 12, 3) := by decide +kernel
theorem dX9_become_8 : decode cX9_become 8 = .ok (.invokevirtual 50, 3) := by decide +kernel
theorem dX9_become_11 : decode cX9_become 11 = .ok (.aload_n 0, 1) := by decide +kernel
theorem dX9_become_12 : decode cX9_become 12 = .ok (.getfield 21, 3) := by decide +kernel
theorem dX9_become_15 : decode cX9_become 15 = .ok (.aload_n 1, 1) := by decide +kernel
theorem dX9_become_16 : decode cX9_become 16 = .ok (.getfield 21, 3) := by decide +kernel
theorem dX9_become_19 : decode cX9_become 19 = .ok (.invokevirtual 54, 3) := by decide +kernel
theorem dX9_become_22 : decode cX9_become 22 = .ok (.iconst 0, 1) := by decide +kernel
theorem dX9_become_23 : decode cX9_become 23 = .ok (.istore_n 2, 1) := by decide +kernel
theorem dX9_become_24 : decode cX9_become 24 = .ok (.iload_n 2, 1) := by decide +kernel
theorem dX9_become_25 : decode cX9_become 25 = .ok (.iconst 3, 1) := by decide +kernel
theorem dX9_become_26 : decode cX9_become 26 = .ok (.if_icmp .ge 21, 3) := by decide +kernel
theorem dX9_become_29 : decode cX9_become 29 = .ok (.aload_n 0, 1) := by decide +kernel
theorem dX9_become_30 : decode cX9_become 30 = .ok (.getfield 27, 3) := by decide +kernel
theorem dX9_become_33 : decode cX9_become 33 = .ok (.iload_n 2, 1) := by decide +kernel
theorem dX9_become_34 : decode cX9_become 34 = .ok (.aload_n 1, 1) := by decide +kernel
theorem dX9_become_35 : decode cX9_become 35 = .ok (.getfield 27, 3) := by decide +kernel
theorem dX9_become_38 : decode cX9_become 38 = .ok (.iload_n 2, 1) := by decide +kernel
theorem dX9_become_39 : decode cX9_become 39 = .ok (.aaload, 1) := by decide +kernel
theorem dX9_become_40 : decode cX9_become 40 = .ok (.aastore, 1) := by decide +kernel
theorem dX9_become_41 : decode cX9_become 41 = .ok (.iinc 2 1, 3) := by decide +kernel
theorem dX9_become_44 : decode cX9_become 44 = .ok (.goto (-20), 3) := by decide +kernel
theorem dX9_become_47 : decode cX9_become 47 = .ok (.aload_n 0, 1) := by decide +kernel
theorem dX9_become_48 : decode cX9_become 48 = .ok (.aload_n 1, 1) := by decide +kernel
theorem dX9_become_49 : decode cX9_become 49 = .ok (.getfield 31, 3) := by decide +kernel
theorem dX9_become_52 : decode cX9_become 52 = .ok (.putfield 31, 3) := by decide +kernel
theorem dX9_become_55 : decode cX9_become 55 = .ok (.aload_n 0, 1) := by decide +kernel
theorem dX9_become_56 : decode cX9_become 56 = .ok (.aload_n 1, 1) := by decide +kernel
theorem dX9_become_57 : decode cX9_become 57 = .ok (.getfield 35, 3) := by decide +kernel
theorem dX9_become_60 : decode cX9_become 60 = .ok (.putfield 35, 3) := by decide +kernel
theorem dX9_become_63 : decode cX9_become 63 = .ok (.aload_n 0, 1) := by decide +kernel
theorem dX9_become_64 : decode cX9_become 64 = .ok (.aload_n 1, 1) := by decide +kernel
theorem dX9_become_65 : decode cX9_become 65 = .ok (.getfield 38, 3) := by decide +kernel
theorem dX9_become_68 : decode cX9_become 68 = .ok (.putfield 38, 3) := by decide +kernel
theorem dX9_become_71 : decode cX9_become 71 = .ok (.aload_n 0, 1) := by decide +kernel
theorem dX9_become_72 : decode cX9_become 72 = .ok (.aload_n 1, 1) := by decide +kernel
theorem dX9_become_73 : decode cX9_become 73 = .ok (.getfield 41, 3) := by decide +kernel
theorem dX9_become_76 : decode cX9_become 76 = .ok (.putfield 41, 3) := by decide +kernel
theorem dX9_become_79 : decode cX9_become 79 = .ok (.aload_n 0, 1) := by decide +kernel
theorem dX9_become_80 : decode cX9_become 80 = .ok (.aload_n 1, 1) := by decide +kernel
theorem dX9_become_81 : decode cX9_become 81 = .ok (.getfield 44, 3) := by decide +kernel
theorem dX9_become_84 : decode cX9_become 84 = .ok (.putfield 44, 3) := by decide +kernel
theorem dX9_become_87 : decode cX9_become 87 = .ok (.aload_n 0, 1) := by decide +kernel
theorem dX9_become_88 : decode cX9_become 88 = .ok (.aload_n 1, 1) := by decide +kernel
theorem dX9_become_89 : decode cX9_become 89 = .ok (.getfield 47, 3) := by decide +kernel
theorem dX9_become_92 : decode cX9_become 92 = .ok (.putfield 47, 3) := by decide +kernel
theorem dX9_become_95 : decode cX9_become 95 = .ok (.return_, 1) := by decide +kernel
theorem dX9_adopt_0 : decode cX9_adopt 0 = .ok (.aload_n 0, 1) := by decide +kernel
theorem dX9_adopt_1 : decode cX9_adopt 1 = .ok (.getfield 27, 3) := by decide +kernel
theorem dX9_adopt_4 : decode cX9_adopt 4 = .ok (.aload_n 1, 1) := by decide +kernel
theorem dX9_adopt_5 : decode cX9_adopt 5 = .ok (.getfield 57, 3) := by decide +kernel
theorem dX9_adopt_8 : decode cX9_adopt 8 = .ok (.aload_n 1, 1) := by decide +kernel
theorem dX9_adopt_9 : decode cX9_adopt 9 = .ok (.aastore, 1) := by decide +kernel
theorem dX9_adopt_10 : decode cX9_adopt 10 = .ok (.aload_n 0, 1) := by decide +kernel
theorem dX9_adopt_11 : decode cX9_adopt 11 = .ok (.dup, 1) := by decide +kernel
theorem dX9_adopt_12 : decode cX9_adopt 12 = .ok (.getfield 31, 3) := by decide +kernel
theorem dX9_adopt_15 : decode cX9_adopt 15 = .ok (.iconst 1, 1) := by decide +kernel
theorem dX9_adopt_16 : decode cX9_adopt 16 = .ok (.iadd, 1) := by decide +kernel
theorem dX9_adopt_17 : decode cX9_adopt 17 = .ok (.putfield 31, 3) := by decide +kernel
theorem dX9_adopt_20 : decode cX9_adopt 20 = .ok (.return_, 1) := by decide +kernel
theorem dX9_drawnRest_0 : decode cX9_drawnRest 0 = .ok (.aload_n 0, 1) := by decide +kernel
theorem dX9_drawnRest_1 : decode cX9_drawnRest 1 = .ok (.aload_n 0, 1) := by decide +kernel
theorem dX9_drawnRest_2 : decode cX9_drawnRest 2 = .ok (.getfield 47, 3) := by decide +kernel
theorem dX9_drawnRest_5 : decode cX9_drawnRest 5 = .ok (.ldc 60, 2) := by decide +kernel
theorem dX9_drawnRest_7 : decode cX9_drawnRest 7 = .ok (.imul, 1) := by decide +kernel
theorem dX9_drawnRest_8 : decode cX9_drawnRest 8 = .ok (.sipush 12345, 3) := by decide +kernel
theorem dX9_drawnRest_11 : decode cX9_drawnRest 11 = .ok (.iadd, 1) := by decide +kernel
theorem dX9_drawnRest_12 : decode cX9_drawnRest 12 = .ok (.putfield 47, 3) := by decide +kernel
theorem dX9_drawnRest_15 : decode cX9_drawnRest 15 = .ok (.iload_n 1, 1) := by decide +kernel
theorem dX9_drawnRest_16 : decode cX9_drawnRest 16 = .ok (.ifCond .le 15, 3) := by decide +kernel
theorem dX9_drawnRest_19 : decode cX9_drawnRest 19 = .ok (.aload_n 0, 1) := by decide +kernel
theorem dX9_drawnRest_20 : decode cX9_drawnRest 20 = .ok (.getfield 47, 3) := by decide +kernel
theorem dX9_drawnRest_23 : decode cX9_drawnRest 23 = .ok (.bipush 8, 2) := by decide +kernel
theorem dX9_drawnRest_25 : decode cX9_drawnRest 25 = .ok (.iushr, 1) := by decide +kernel
theorem dX9_drawnRest_26 : decode cX9_drawnRest 26 = .ok (.iload_n 1, 1) := by decide +kernel
theorem dX9_drawnRest_27 : decode cX9_drawnRest 27 = .ok (.irem, 1) := by decide +kernel
theorem dX9_drawnRest_28 : decode cX9_drawnRest 28 = .ok (.goto 4, 3) := by decide +kernel
theorem dX9_drawnRest_31 : decode cX9_drawnRest 31 = .ok (.iconst 0, 1) := by decide +kernel
theorem dX9_drawnRest_32 : decode cX9_drawnRest 32 = .ok (.ireturn, 1) := by decide +kernel
theorem dX9_ballSize_0 : decode cX9_ballSize 0 = .ok (.aload_n 0, 1) := by decide +kernel
theorem dX9_ballSize_1 : decode cX9_ballSize 1 = .ok (.getfield 27, 3) := by decide +kernel
theorem dX9_ballSize_4 : decode cX9_ballSize 4 = .ok (.iconst 0, 1) := by decide +kernel
theorem dX9_ballSize_5 : decode cX9_ballSize 5 = .ok (.aaload, 1) := by decide +kernel
theorem dX9_ballSize_6 : decode cX9_ballSize 6 = .ok (.astore_n 1, 1) := by decide +kernel
theorem dX9_ballSize_7 : decode cX9_ballSize 7 = .ok (.aload_n 1, 1) := by decide +kernel
theorem dX9_ballSize_8 : decode cX9_ballSize 8 = .ok (.ifnonnull 16, 3) := by decide +kernel
theorem dX9_ballSize_11 : decode cX9_ballSize 11 = .ok (.aload_n 0, 1) := by decide +kernel
theorem dX9_ballSize_12 : decode cX9_ballSize 12 = .ok (.getfield 21, 3) := by decide +kernel
theorem dX9_ballSize_15 : decode cX9_ballSize 15 = .ok (.getfield 61, 3) := by decide +kernel
theorem dX9_ballSize_18 : decode cX9_ballSize 18 = .ok (.bipush 10, 2) := by decide +kernel
theorem dX9_ballSize_20 : decode cX9_ballSize 20 = .ok (.idiv, 1) := by decide +kernel
theorem dX9_ballSize_21 : decode cX9_ballSize 21 = .ok (.goto 22, 3) := by decide +kernel
theorem dX9_ballSize_24 : decode cX9_ballSize 24 = .ok (.aload_n 1, 1) := by decide +kernel
theorem dX9_ballSize_25 : decode cX9_ballSize 25 = .ok (.aload_n 0, 1) := by decide +kernel
theorem dX9_ballSize_26 : decode cX9_ballSize 26 = .ok (.getfield 21, 3) := by decide +kernel
theorem dX9_ballSize_29 : decode cX9_ballSize 29 = .ok (.getfield 61, 3) := by decide +kernel
theorem dX9_ballSize_32 : decode cX9_ballSize 32 = .ok (.aload_n 0, 1) := by decide +kernel
theorem dX9_ballSize_33 : decode cX9_ballSize 33 = .ok (.getfield 21, 3) := by decide +kernel
theorem dX9_ballSize_36 : decode cX9_ballSize 36 = .ok (.getfield 64, 3) := by decide +kernel
theorem dX9_ballSize_39 : decode cX9_ballSize 39 = .ok (.iconst 0, 1) := by decide +kernel
theorem dX9_ballSize_40 : decode cX9_ballSize 40 = .ok (.invokevirtual 67, 3) := by decide +kernel
theorem dX9_ballSize_43 : decode cX9_ballSize 43 = .ok (.istore_n 2, 1) := by decide +kernel
theorem dX9_ballSize_44 : decode cX9_ballSize 44 = .ok (.iload_n 2, 1) := by decide +kernel
theorem dX9_ballSize_45 : decode cX9_ballSize 45 = .ok (.sipush 999, 3) := by decide +kernel
theorem dX9_ballSize_48 : decode cX9_ballSize 48 = .ok (.invokestatic 71, 3) := by decide +kernel
theorem dX9_ballSize_51 : decode cX9_ballSize 51 = .ok (.ireturn, 1) := by decide +kernel
theorem dX9_gives_0 : decode cX9_gives 0 = .ok (.aload_n 0, 1) := by decide +kernel
theorem dX9_gives_1 : decode cX9_gives 1 = .ok (.getfield 12, 3) := by decide +kernel
theorem dX9_gives_4 : decode cX9_gives 4 = .ok (.iload_n 1, 1) := by decide +kernel
theorem dX9_gives_5 : decode cX9_gives 5 = .ok (.invokevirtual 75, 3) := by decide +kernel
theorem dX9_gives_8 : decode cX9_gives 8 = .ok (.ifCond .ne 5, 3) := by decide +kernel
theorem dX9_gives_11 : decode cX9_gives 11 = .ok (.iconst 0, 1) := by decide +kernel
theorem dX9_gives_12 : decode cX9_gives 12 = .ok (.ireturn, 1) := by decide +kernel
theorem dX9_gives_13 : decode cX9_gives 13 = .ok (.aload_n 0, 1) := by decide +kernel
theorem dX9_gives_14 : decode cX9_gives 14 = .ok (.getfield 12, 3) := by decide +kernel
theorem dX9_gives_17 : decode cX9_gives 17 = .ok (.getfield 79, 3) := by decide +kernel
theorem dX9_gives_20 : decode cX9_gives 20 = .ok (.iload_n 1, 1) := by decide +kernel
theorem dX9_gives_21 : decode cX9_gives 21 = .ok (.iaload, 1) := by decide +kernel
theorem dX9_gives_22 : decode cX9_gives 22 = .ok (.istore_n 2, 1) := by decide +kernel
theorem dX9_gives_23 : decode cX9_gives 23 = .ok (.aload_n 0, 1) := by decide +kernel
theorem dX9_gives_24 : decode cX9_gives 24 = .ok (.getfield 27, 3) := by decide +kernel
theorem dX9_gives_27 : decode cX9_gives 27 = .ok (.iconst 1, 1) := by decide +kernel
theorem dX9_gives_28 : decode cX9_gives 28 = .ok (.aaload, 1) := by decide +kernel
theorem dX9_gives_29 : decode cX9_gives 29 = .ok (.astore_n 3, 1) := by decide +kernel
theorem dX9_gives_30 : decode cX9_gives 30 = .ok (.aload_n 3, 1) := by decide +kernel
theorem dX9_gives_31 : decode cX9_gives 31 = .ok (.ifnonnull 9, 3) := by decide +kernel
theorem dX9_gives_34 : decode cX9_gives 34 = .ok (.iload_n 2, 1) := by decide +kernel
theorem dX9_gives_35 : decode cX9_gives 35 = .ok (.iconst 2, 1) := by decide +kernel
theorem dX9_gives_36 : decode cX9_gives 36 = .ok (.idiv, 1) := by decide +kernel
theorem dX9_gives_37 : decode cX9_gives 37 = .ok (.goto 23, 3) := by decide +kernel
theorem dX9_gives_40 : decode cX9_gives 40 = .ok (.aload_n 3, 1) := by decide +kernel
theorem dX9_gives_41 : decode cX9_gives 41 = .ok (.aload_n 0, 1) := by decide +kernel
theorem dX9_gives_42 : decode cX9_gives 42 = .ok (.getfield 21, 3) := by decide +kernel
theorem dX9_gives_45 : decode cX9_gives 45 = .ok (.getfield 61, 3) := by decide +kernel
theorem dX9_gives_48 : decode cX9_gives 48 = .ok (.iload_n 2, 1) := by decide +kernel
theorem dX9_gives_49 : decode cX9_gives 49 = .ok (.aload_n 0, 1) := by decide +kernel
theorem dX9_gives_50 : decode cX9_gives 50 = .ok (.getfield 35, 3) := by decide +kernel
theorem dX9_gives_53 : decode cX9_gives 53 = .ok (.invokevirtual 67, 3) := by decide +kernel
theorem dX9_gives_56 : decode cX9_gives 56 = .ok (.iload_n 2, 1) := by decide +kernel
theorem dX9_gives_57 : decode cX9_gives 57 = .ok (.invokestatic 71, 3) := by decide +kernel
theorem dX9_gives_60 : decode cX9_gives 60 = .ok (.istore 4, 2) := by decide +kernel
theorem dX9_gives_62 : decode cX9_gives 62 = .ok (.aload_n 0, 1) := by decide +kernel
theorem dX9_gives_63 : decode cX9_gives 63 = .ok (.getfield 12, 3) := by decide +kernel
theorem dX9_gives_66 : decode cX9_gives 66 = .ok (.getfield 83, 3) := by decide +kernel
theorem dX9_gives_69 : decode cX9_gives 69 = .ok (.iload_n 1, 1) := by decide +kernel
theorem dX9_gives_70 : decode cX9_gives 70 = .ok (.iaload, 1) := by decide +kernel
theorem dX9_gives_71 : decode cX9_gives 71 = .ok (.iload 4, 2) := by decide +kernel
theorem dX9_gives_73 : decode cX9_gives 73 = .ok (.iload_n 2, 1) := by decide +kernel
theorem dX9_gives_74 : decode cX9_gives 74 = .ok (.invokestatic 86, 3) := by decide +kernel
theorem dX9_gives_77 : decode cX9_gives 77 = .ok (.ireturn, 1) := by decide +kernel
theorem dX9_fineOf_0 : decode cX9_fineOf 0 = .ok (.aload_n 0, 1) := by decide +kernel
theorem dX9_fineOf_1 : decode cX9_fineOf 1 = .ok (.getfield 12, 3) := by decide +kernel
theorem dX9_fineOf_4 : decode cX9_fineOf 4 = .ok (.iload_n 1, 1) := by decide +kernel
theorem dX9_fineOf_5 : decode cX9_fineOf 5 = .ok (.invokevirtual 75, 3) := by decide +kernel
theorem dX9_fineOf_8 : decode cX9_fineOf 8 = .ok (.ifCond .ne 5, 3) := by decide +kernel
theorem dX9_fineOf_11 : decode cX9_fineOf 11 = .ok (.iconst 0, 1) := by decide +kernel
theorem dX9_fineOf_12 : decode cX9_fineOf 12 = .ok (.ireturn, 1) := by decide +kernel
theorem dX9_fineOf_13 : decode cX9_fineOf 13 = .ok (.aload_n 0, 1) := by decide +kernel
theorem dX9_fineOf_14 : decode cX9_fineOf 14 = .ok (.getfield 27, 3) := by decide +kernel
theorem dX9_fineOf_17 : decode cX9_fineOf 17 = .ok (.iconst 2, 1) := by decide +kernel
theorem dX9_fineOf_18 : decode cX9_fineOf 18 = .ok (.aaload, 1) := by decide +kernel
theorem dX9_fineOf_19 : decode cX9_fineOf 19 = .ok (.astore_n 2, 1) := by decide +kernel
theorem dX9_fineOf_20 : decode cX9_fineOf 20 = .ok (.aload_n 2, 1) := by decide +kernel
theorem dX9_fineOf_21 : decode cX9_fineOf 21 = .ok (.ifnonnull 15, 3) := by decide +kernel
theorem dX9_fineOf_24 : decode cX9_fineOf 24 = .ok (.aload_n 0, 1) := by decide +kernel
theorem dX9_fineOf_25 : decode cX9_fineOf 25 = .ok (.getfield 12, 3) := by decide +kernel
theorem dX9_fineOf_28 : decode cX9_fineOf 28 = .ok (.getfield 91, 3) := by decide +kernel
theorem dX9_fineOf_31 : decode cX9_fineOf 31 = .ok (.iload_n 1, 1) := by decide +kernel
theorem dX9_fineOf_32 : decode cX9_fineOf 32 = .ok (.iaload, 1) := by decide +kernel
theorem dX9_fineOf_33 : decode cX9_fineOf 33 = .ok (.goto 24, 3) := by decide +kernel
theorem dX9_fineOf_36 : decode cX9_fineOf 36 = .ok (.aload_n 2, 1) := by decide +kernel
theorem dX9_fineOf_37 : decode cX9_fineOf 37 = .ok (.aload_n 0, 1) := by decide +kernel
theorem dX9_fineOf_38 : decode cX9_fineOf 38 = .ok (.getfield 21, 3) := by decide +kernel
theorem dX9_fineOf_41 : decode cX9_fineOf 41 = .ok (.getfield 61, 3) := by decide +kernel
theorem dX9_fineOf_44 : decode cX9_fineOf 44 = .ok (.aload_n 0, 1) := by decide +kernel
theorem dX9_fineOf_45 : decode cX9_fineOf 45 = .ok (.getfield 12, 3) := by decide +kernel
theorem dX9_fineOf_48 : decode cX9_fineOf 48 = .ok (.getfield 91, 3) := by decide +kernel
theorem dX9_fineOf_51 : decode cX9_fineOf 51 = .ok (.iload_n 1, 1) := by decide +kernel
theorem dX9_fineOf_52 : decode cX9_fineOf 52 = .ok (.iaload, 1) := by decide +kernel
theorem dX9_fineOf_53 : decode cX9_fineOf 53 = .ok (.iconst 0, 1) := by decide +kernel
theorem dX9_fineOf_54 : decode cX9_fineOf 54 = .ok (.invokevirtual 67, 3) := by decide +kernel
theorem dX9_fineOf_57 : decode cX9_fineOf 57 = .ok (.ireturn, 1) := by decide +kernel
theorem dX9_passDays_0 : decode cX9_passDays 0 = .ok (.iconst 0, 1) := by decide +kernel
theorem dX9_passDays_1 : decode cX9_passDays 1 = .ok (.istore_n 2, 1) := by decide +kernel
theorem dX9_passDays_2 : decode cX9_passDays 2 = .ok (.iconst 0, 1) := by decide +kernel
theorem dX9_passDays_3 : decode cX9_passDays 3 = .ok (.istore_n 3, 1) := by decide +kernel
theorem dX9_passDays_4 : decode cX9_passDays 4 = .ok (.iload_n 3, 1) := by decide +kernel
theorem dX9_passDays_5 : decode cX9_passDays 5 = .ok (.iload_n 1, 1) := by decide +kernel
theorem dX9_passDays_6 : decode cX9_passDays 6 = .ok (.if_icmp .ge 16, 3) := by decide +kernel
theorem dX9_passDays_9 : decode cX9_passDays 9 = .ok (.iload_n 2, 1) := by decide +kernel
theorem dX9_passDays_10 : decode cX9_passDays 10 = .ok (.aload_n 0, 1) := by decide +kernel
theorem dX9_passDays_11 : decode cX9_passDays 11 = .ok (.invokevirtual 94, 3) := by decide +kernel
theorem dX9_passDays_14 : decode cX9_passDays 14 = .ok (.iadd, 1) := by decide +kernel
theorem dX9_passDays_15 : decode cX9_passDays 15 = .ok (.istore_n 2, 1) := by decide +kernel
theorem dX9_passDays_16 : decode cX9_passDays 16 = .ok (.iinc 3 1, 3) := by decide +kernel
theorem dX9_passDays_19 : decode cX9_passDays 19 = .ok (.goto (-15), 3) := by decide +kernel
theorem dX9_passDays_22 : decode cX9_passDays 22 = .ok (.iload_n 2, 1) := by decide +kernel
theorem dX9_passDays_23 : decode cX9_passDays 23 = .ok (.ireturn, 1) := by decide +kernel
theorem dX9_passDay_0 : decode cX9_passDay 0 = .ok (.iconst 0, 1) := by decide +kernel
theorem dX9_passDay_1 : decode cX9_passDay 1 = .ok (.istore_n 1, 1) := by decide +kernel
theorem dX9_passDay_2 : decode cX9_passDay 2 = .ok (.aload_n 0, 1) := by decide +kernel
theorem dX9_passDay_3 : decode cX9_passDay 3 = .ok (.getfield 12, 3) := by decide +kernel
theorem dX9_passDay_6 : decode cX9_passDay 6 = .ok (.aload_n 0, 1) := by decide +kernel
theorem dX9_passDay_7 : decode cX9_passDay 7 = .ok (.getfield 21, 3) := by decide +kernel
theorem dX9_passDay_10 : decode cX9_passDay 10 = .ok (.getfield 98, 3) := by decide +kernel
theorem dX9_passDay_13 : decode cX9_passDay 13 = .ok (.invokevirtual 75, 3) := by decide +kernel
theorem dX9_passDay_16 : decode cX9_passDay 16 = .ok (.ifCond .eq 121, 3) := by decide +kernel
theorem dX9_passDay_19 : decode cX9_passDay 19 = .ok (.aload_n 0, 1) := by decide +kernel
theorem dX9_passDay_20 : decode cX9_passDay 20 = .ok (.getfield 21, 3) := by decide +kernel
theorem dX9_passDay_23 : decode cX9_passDay 23 = .ok (.getfield 98, 3) := by decide +kernel
theorem dX9_passDay_26 : decode cX9_passDay 26 = .ok (.istore_n 2, 1) := by decide +kernel
theorem dX9_passDay_27 : decode cX9_passDay 27 = .ok (.aload_n 0, 1) := by decide +kernel
theorem dX9_passDay_28 : decode cX9_passDay 28 = .ok (.aload_n 0, 1) := by decide +kernel
theorem dX9_passDay_29 : decode cX9_passDay 29 = .ok (.getfield 38, 3) := by decide +kernel
theorem dX9_passDay_32 : decode cX9_passDay 32 = .ok (.iconst 1, 1) := by decide +kernel
theorem dX9_passDay_33 : decode cX9_passDay 33 = .ok (.iadd, 1) := by decide +kernel
theorem dX9_passDay_34 : decode cX9_passDay 34 = .ok (.invokevirtual 101, 3) := by decide +kernel
theorem dX9_passDay_37 : decode cX9_passDay 37 = .ok (.istore_n 3, 1) := by decide +kernel
theorem dX9_passDay_38 : decode cX9_passDay 38 = .ok (.aload_n 0, 1) := by decide +kernel
theorem dX9_passDay_39 : decode cX9_passDay 39 = .ok (.getfield 21, 3) := by decide +kernel
theorem dX9_passDay_42 : decode cX9_passDay 42 = .ok (.aload_n 0, 1) := by decide +kernel
theorem dX9_passDay_43 : decode cX9_passDay 43 = .ok (.getfield 12, 3) := by decide +kernel
theorem dX9_passDay_46 : decode cX9_passDay 46 = .ok (.getfield 83, 3) := by decide +kernel
theorem dX9_passDay_49 : decode cX9_passDay 49 = .ok (.iload_n 2, 1) := by decide +kernel
theorem dX9_passDay_50 : decode cX9_passDay 50 = .ok (.iaload, 1) := by decide +kernel
theorem dX9_passDay_51 : decode cX9_passDay 51 = .ok (.iconst 5, 1) := by decide +kernel
theorem dX9_passDay_52 : decode cX9_passDay 52 = .ok (.if_icmp .ne 9, 3) := by decide +kernel
theorem dX9_passDay_55 : decode cX9_passDay 55 = .ok (.iload_n 3, 1) := by decide +kernel
theorem dX9_passDay_56 : decode cX9_passDay 56 = .ok (.iconst 2, 1) := by decide +kernel
theorem dX9_passDay_57 : decode cX9_passDay 57 = .ok (.idiv, 1) := by decide +kernel
theorem dX9_passDay_58 : decode cX9_passDay 58 = .ok (.goto 4, 3) := by decide +kernel
theorem dX9_passDay_61 : decode cX9_passDay 61 = .ok (.iload_n 3, 1) := by decide +kernel
theorem dX9_passDay_62 : decode cX9_passDay 62 = .ok (.invokevirtual 105, 3) := by decide +kernel
theorem dX9_passDay_65 : decode cX9_passDay 65 = .ok (.aload_n 0, 1) := by decide +kernel
theorem dX9_passDay_66 : decode cX9_passDay 66 = .ok (.iload_n 2, 1) := by decide +kernel
theorem dX9_passDay_67 : decode cX9_passDay 67 = .ok (.invokevirtual 109, 3) := by decide +kernel
theorem dX9_passDay_70 : decode cX9_passDay 70 = .ok (.istore 4, 2) := by decide +kernel
theorem dX9_passDay_72 : decode cX9_passDay 72 = .ok (.aload_n 0, 1) := by decide +kernel
theorem dX9_passDay_73 : decode cX9_passDay 73 = .ok (.getfield 12, 3) := by decide +kernel
theorem dX9_passDay_76 : decode cX9_passDay 76 = .ok (.getfield 79, 3) := by decide +kernel
theorem dX9_passDay_79 : decode cX9_passDay 79 = .ok (.iload_n 2, 1) := by decide +kernel
theorem dX9_passDay_80 : decode cX9_passDay 80 = .ok (.dup2, 1) := by decide +kernel
theorem dX9_passDay_81 : decode cX9_passDay 81 = .ok (.iaload, 1) := by decide +kernel
theorem dX9_passDay_82 : decode cX9_passDay 82 = .ok (.iload 4, 2) := by decide +kernel
theorem dX9_passDay_84 : decode cX9_passDay 84 = .ok (.isub, 1) := by decide +kernel
theorem dX9_passDay_85 : decode cX9_passDay 85 = .ok (.iastore, 1) := by decide +kernel
theorem dX9_passDay_86 : decode cX9_passDay 86 = .ok (.aload_n 0, 1) := by decide +kernel
theorem dX9_passDay_87 : decode cX9_passDay 87 = .ok (.getfield 21, 3) := by decide +kernel
theorem dX9_passDay_90 : decode cX9_passDay 90 = .ok (.iload_n 2, 1) := by decide +kernel
theorem dX9_passDay_91 : decode cX9_passDay 91 = .ok (.iload 4, 2) := by decide +kernel
theorem dX9_passDay_93 : decode cX9_passDay 93 = .ok (.invokevirtual 112, 3) := by decide +kernel
theorem dX9_passDay_96 : decode cX9_passDay 96 = .ok (.aload_n 0, 1) := by decide +kernel
theorem dX9_passDay_97 : decode cX9_passDay 97 = .ok (.aload_n 0, 1) := by decide +kernel
theorem dX9_passDay_98 : decode cX9_passDay 98 = .ok (.getfield 12, 3) := by decide +kernel
theorem dX9_passDay_101 : decode cX9_passDay 101 = .ok (.getfield 83, 3) := by decide +kernel
theorem dX9_passDay_104 : decode cX9_passDay 104 = .ok (.iload_n 2, 1) := by decide +kernel
theorem dX9_passDay_105 : decode cX9_passDay 105 = .ok (.iaload, 1) := by decide +kernel
theorem dX9_passDay_106 : decode cX9_passDay 106 = .ok (.aload_n 0, 1) := by decide +kernel
theorem dX9_passDay_107 : decode cX9_passDay 107 = .ok (.getfield 35, 3) := by decide +kernel
theorem dX9_passDay_110 : decode cX9_passDay 110 = .ok (.invokestatic 116, 3) := by decide +kernel
theorem dX9_passDay_113 : decode cX9_passDay 113 = .ok (.aload_n 0, 1) := by decide +kernel
theorem dX9_passDay_114 : decode cX9_passDay 114 = .ok (.getfield 44, 3) := by decide +kernel
theorem dX9_passDay_117 : decode cX9_passDay 117 = .ok (.iadd, 1) := by decide +kernel
theorem dX9_passDay_118 : decode cX9_passDay 118 = .ok (.aload_n 0, 1) := by decide +kernel
theorem dX9_passDay_119 : decode cX9_passDay 119 = .ok (.invokevirtual 119, 3) := by decide +kernel
theorem dX9_passDay_122 : decode cX9_passDay 122 = .ok (.invokevirtual 122, 3) := by decide +kernel
theorem dX9_passDay_125 : decode cX9_passDay 125 = .ok (.istore_n 1, 1) := by decide +kernel
theorem dX9_passDay_126 : decode cX9_passDay 126 = .ok (.aload_n 0, 1) := by decide +kernel
theorem dX9_passDay_127 : decode cX9_passDay 127 = .ok (.getfield 12, 3) := by decide +kernel
theorem dX9_passDay_130 : decode cX9_passDay 130 = .ok (.aload_n 0, 1) := by decide +kernel
theorem dX9_passDay_131 : decode cX9_passDay 131 = .ok (.getfield 41, 3) := by decide +kernel
theorem dX9_passDay_134 : decode cX9_passDay 134 = .ok (.invokevirtual 125, 3) := by decide +kernel
theorem dX9_passDay_137 : decode cX9_passDay 137 = .ok (.aload_n 0, 1) := by decide +kernel
theorem dX9_passDay_138 : decode cX9_passDay 138 = .ok (.dup, 1) := by decide +kernel
theorem dX9_passDay_139 : decode cX9_passDay 139 = .ok (.getfield 35, 3) := by decide +kernel
theorem dX9_passDay_142 : decode cX9_passDay 142 = .ok (.iconst 1, 1) := by decide +kernel
theorem dX9_passDay_143 : decode cX9_passDay 143 = .ok (.iadd, 1) := by decide +kernel
theorem dX9_passDay_144 : decode cX9_passDay 144 = .ok (.putfield 35, 3) := by decide +kernel
theorem dX9_passDay_147 : decode cX9_passDay 147 = .ok (.iload_n 1, 1) := by decide +kernel
theorem dX9_passDay_148 : decode cX9_passDay 148 = .ok (.ireturn, 1) := by decide +kernel
theorem dX9_roll_0 : decode cX9_roll 0 = .ok (.aload_n 0, 1) := by decide +kernel
theorem dX9_roll_1 : decode cX9_roll 1 = .ok (.getfield 12, 3) := by decide +kernel
theorem dX9_roll_4 : decode cX9_roll 4 = .ok (.getfield 128, 3) := by decide +kernel
theorem dX9_roll_7 : decode cX9_roll 7 = .ok (.iconst 1, 1) := by decide +kernel
theorem dX9_roll_8 : decode cX9_roll 8 = .ok (.isub, 1) := by decide +kernel
theorem dX9_roll_9 : decode cX9_roll 9 = .ok (.istore_n 3, 1) := by decide +kernel
theorem dX9_roll_10 : decode cX9_roll 10 = .ok (.iconst 0, 1) := by decide +kernel
theorem dX9_roll_11 : decode cX9_roll 11 = .ok (.istore 4, 2) := by decide +kernel
theorem dX9_roll_13 : decode cX9_roll 13 = .ok (.iconst 0, 1) := by decide +kernel
theorem dX9_roll_14 : decode cX9_roll 14 = .ok (.istore 5, 2) := by decide +kernel
theorem dX9_roll_16 : decode cX9_roll 16 = .ok (.iload 5, 2) := by decide +kernel
theorem dX9_roll_18 : decode cX9_roll 18 = .ok (.iload_n 1, 1) := by decide +kernel
theorem dX9_roll_19 : decode cX9_roll 19 = .ok (.if_icmp .ge 60, 3) := by decide +kernel
theorem dX9_roll_22 : decode cX9_roll 22 = .ok (.iload 4, 2) := by decide +kernel
theorem dX9_roll_24 : decode cX9_roll 24 = .ok (.aload_n 0, 1) := by decide +kernel
theorem dX9_roll_25 : decode cX9_roll 25 = .ok (.getfield 12, 3) := by decide +kernel
theorem dX9_roll_28 : decode cX9_roll 28 = .ok (.aload_n 0, 1) := by decide +kernel
theorem dX9_roll_29 : decode cX9_roll 29 = .ok (.getfield 21, 3) := by decide +kernel
theorem dX9_roll_32 : decode cX9_roll 32 = .ok (.getfield 98, 3) := by decide +kernel
theorem dX9_roll_35 : decode cX9_roll 35 = .ok (.iload_n 2, 1) := by decide +kernel
theorem dX9_roll_36 : decode cX9_roll 36 = .ok (.invokevirtual 131, 3) := by decide +kernel
theorem dX9_roll_39 : decode cX9_roll 39 = .ok (.iadd, 1) := by decide +kernel
theorem dX9_roll_40 : decode cX9_roll 40 = .ok (.istore 4, 2) := by decide +kernel
theorem dX9_roll_42 : decode cX9_roll 42 = .ok (.aload_n 0, 1) := by decide +kernel
theorem dX9_roll_43 : decode cX9_roll 43 = .ok (.getfield 21, 3) := by decide +kernel
theorem dX9_roll_46 : decode cX9_roll 46 = .ok (.aload_n 0, 1) := by decide +kernel
theorem dX9_roll_47 : decode cX9_roll 47 = .ok (.getfield 21, 3) := by decide +kernel
theorem dX9_roll_50 : decode cX9_roll 50 = .ok (.getfield 98, 3) := by decide +kernel
theorem dX9_roll_53 : decode cX9_roll 53 = .ok (.iload_n 3, 1) := by decide +kernel
theorem dX9_roll_54 : decode cX9_roll 54 = .ok (.if_icmp .lt 7, 3) := by decide +kernel
theorem dX9_roll_57 : decode cX9_roll 57 = .ok (.iconst 0, 1) := by decide +kernel
theorem dX9_roll_58 : decode cX9_roll 58 = .ok (.goto 12, 3) := by decide +kernel
theorem dX9_roll_61 : decode cX9_roll 61 = .ok (.aload_n 0, 1) := by decide +kernel
theorem dX9_roll_62 : decode cX9_roll 62 = .ok (.getfield 21, 3) := by decide +kernel
theorem dX9_roll_65 : decode cX9_roll 65 = .ok (.getfield 98, 3) := by decide +kernel
theorem dX9_roll_68 : decode cX9_roll 68 = .ok (.iconst 1, 1) := by decide +kernel
theorem dX9_roll_69 : decode cX9_roll 69 = .ok (.iadd, 1) := by decide +kernel
theorem dX9_roll_70 : decode cX9_roll 70 = .ok (.putfield 98, 3) := by decide +kernel
theorem dX9_roll_73 : decode cX9_roll 73 = .ok (.iinc 5 1, 3) := by decide +kernel
theorem dX9_roll_76 : decode cX9_roll 76 = .ok (.goto (-60), 3) := by decide +kernel
theorem dX9_roll_79 : decode cX9_roll 79 = .ok (.iconst 0, 1) := by decide +kernel
theorem dX9_roll_80 : decode cX9_roll 80 = .ok (.istore 5, 2) := by decide +kernel
theorem dX9_roll_82 : decode cX9_roll 82 = .ok (.iload 5, 2) := by decide +kernel
theorem dX9_roll_84 : decode cX9_roll 84 = .ok (.iload_n 1, 1) := by decide +kernel
theorem dX9_roll_85 : decode cX9_roll 85 = .ok (.if_icmp .le 59, 3) := by decide +kernel
theorem dX9_roll_88 : decode cX9_roll 88 = .ok (.aload_n 0, 1) := by decide +kernel
theorem dX9_roll_89 : decode cX9_roll 89 = .ok (.getfield 21, 3) := by decide +kernel
theorem dX9_roll_92 : decode cX9_roll 92 = .ok (.aload_n 0, 1) := by decide +kernel
theorem dX9_roll_93 : decode cX9_roll 93 = .ok (.getfield 21, 3) := by decide +kernel
theorem dX9_roll_96 : decode cX9_roll 96 = .ok (.getfield 98, 3) := by decide +kernel
theorem dX9_roll_99 : decode cX9_roll 99 = .ok (.ifCond .gt 7, 3) := by decide +kernel
theorem dX9_roll_102 : decode cX9_roll 102 = .ok (.iload_n 3, 1) := by decide +kernel
theorem dX9_roll_103 : decode cX9_roll 103 = .ok (.goto 12, 3) := by decide +kernel
theorem dX9_roll_106 : decode cX9_roll 106 = .ok (.aload_n 0, 1) := by decide +kernel
theorem dX9_roll_107 : decode cX9_roll 107 = .ok (.getfield 21, 3) := by decide +kernel
theorem dX9_roll_110 : decode cX9_roll 110 = .ok (.getfield 98, 3) := by decide +kernel
theorem dX9_roll_113 : decode cX9_roll 113 = .ok (.iconst 1, 1) := by decide +kernel
theorem dX9_roll_114 : decode cX9_roll 114 = .ok (.isub, 1) := by decide +kernel
theorem dX9_roll_115 : decode cX9_roll 115 = .ok (.putfield 98, 3) := by decide +kernel
theorem dX9_roll_118 : decode cX9_roll 118 = .ok (.iload 4, 2) := by decide +kernel
theorem dX9_roll_120 : decode cX9_roll 120 = .ok (.aload_n 0, 1) := by decide +kernel
theorem dX9_roll_121 : decode cX9_roll 121 = .ok (.getfield 12, 3) := by decide +kernel
theorem dX9_roll_124 : decode cX9_roll 124 = .ok (.aload_n 0, 1) := by decide +kernel
theorem dX9_roll_125 : decode cX9_roll 125 = .ok (.getfield 21, 3) := by decide +kernel
theorem dX9_roll_128 : decode cX9_roll 128 = .ok (.getfield 98, 3) := by decide +kernel
theorem dX9_roll_131 : decode cX9_roll 131 = .ok (.iload_n 2, 1) := by decide +kernel
theorem dX9_roll_132 : decode cX9_roll 132 = .ok (.invokevirtual 131, 3) := by decide +kernel
theorem dX9_roll_135 : decode cX9_roll 135 = .ok (.iadd, 1) := by decide +kernel
theorem dX9_roll_136 : decode cX9_roll 136 = .ok (.istore 4, 2) := by decide +kernel
theorem dX9_roll_138 : decode cX9_roll 138 = .ok (.iinc 5 (-1), 3) := by decide +kernel
theorem dX9_roll_141 : decode cX9_roll 141 = .ok (.goto (-59), 3) := by decide +kernel
theorem dX9_roll_144 : decode cX9_roll 144 = .ok (.iload 4, 2) := by decide +kernel
theorem dX9_roll_146 : decode cX9_roll 146 = .ok (.ireturn, 1) := by decide +kernel
theorem dX10_init_0 : decode cX10_init 0 = .ok (.aload_n 0, 1) := by decide +kernel
theorem dX10_init_1 : decode cX10_init 1 = .ok (.invokespecial 1, 3) := by decide +kernel
theorem dX10_init_4 : decode cX10_init 4 = .ok (.aload_n 0, 1) := by decide +kernel
theorem dX10_init_5 : decode cX10_init 5 = .ok (.new 7, 3) := by decide +kernel
theorem dX10_init_8 : decode cX10_init 8 = .ok (.dup, 1) := by decide +kernel
theorem dX10_init_9 : decode cX10_init 9 = .ok (.invokespecial 9, 3) := by decide +kernel
theorem dX10_init_12 : decode cX10_init 12 = .ok (.putfield 10, 3) := by decide +kernel
theorem dX10_init_15 : decode cX10_init 15 = .ok (.aload_n 0, 1) := by decide +kernel
theorem dX10_init_16 : decode cX10_init 16 = .ok (.new 7, 3) := by decide +kernel
theorem dX10_init_19 : decode cX10_init 19 = .ok (.dup, 1) := by decide +kernel
theorem dX10_init_20 : decode cX10_init 20 = .ok (.invokespecial 9, 3) := by decide +kernel
theorem dX10_init_23 : decode cX10_init 23 = .ok (.putfield 16, 3) := by decide +kernel
theorem dX10_init_26 : decode cX10_init 26 = .ok (.aload_n 0, 1) := by decide +kernel
theorem dX10_init_27 : decode cX10_init 27 = .ok (.iconst 0, 1) := by decide +kernel
theorem dX10_init_28 : decode cX10_init 28 = .ok (.putfield 19, 3) := by decide +kernel
theorem dX10_init_31 : decode cX10_init 31 = .ok (.aload_n 0, 1) := by decide +kernel
theorem dX10_init_32 : decode cX10_init 32 = .ok (.new 23, 3) := by decide +kernel
theorem dX10_init_35 : decode cX10_init 35 = .ok (.dup, 1) := by decide +kernel
theorem dX10_init_36 : decode cX10_init 36 = .ok (.invokespecial 25, 3) := by decide +kernel
theorem dX10_init_39 : decode cX10_init 39 = .ok (.putfield 26, 3) := by decide +kernel
theorem dX10_init_42 : decode cX10_init 42 = .ok (.aload_n 0, 1) := by decide +kernel
theorem dX10_init_43 : decode cX10_init 43 = .ok (.new 30, 3) := by decide +kernel
theorem dX10_init_46 : decode cX10_init 46 = .ok (.dup, 1) := by decide +kernel
theorem dX10_init_47 : decode cX10_init 47 = .ok (.invokespecial 32, 3) := by decide +kernel
theorem dX10_init_50 : decode cX10_init 50 = .ok (.putfield 33, 3) := by decide +kernel
theorem dX10_init_53 : decode cX10_init 53 = .ok (.aload_n 0, 1) := by decide +kernel
theorem dX10_init_54 : decode cX10_init 54 = .ok (.new 37, 3) := by decide +kernel
theorem dX10_init_57 : decode cX10_init 57 = .ok (.dup, 1) := by decide +kernel
theorem dX10_init_58 : decode cX10_init 58 = .ok (.invokespecial 39, 3) := by decide +kernel
theorem dX10_init_61 : decode cX10_init 61 = .ok (.putfield 40, 3) := by decide +kernel
theorem dX10_init_64 : decode cX10_init 64 = .ok (.aload_n 0, 1) := by decide +kernel
theorem dX10_init_65 : decode cX10_init 65 = .ok (.bipush 14, 2) := by decide +kernel
theorem dX10_init_67 : decode cX10_init 67 = .ok (.anewarray 44, 3) := by decide +kernel
theorem dX10_init_70 : decode cX10_init 70 = .ok (.putfield 46, 3) := by decide +kernel
theorem dX10_init_73 : decode cX10_init 73 = .ok (.aload_n 0, 1) := by decide +kernel
theorem dX10_init_74 : decode cX10_init 74 = .ok (.iconst 4, 1) := by decide +kernel
theorem dX10_init_75 : decode cX10_init 75 = .ok (.anewarray 50, 3) := by decide +kernel
theorem dX10_init_78 : decode cX10_init 78 = .ok (.putfield 52, 3) := by decide +kernel
theorem dX10_init_81 : decode cX10_init 81 = .ok (.aload_n 0, 1) := by decide +kernel
theorem dX10_init_82 : decode cX10_init 82 = .ok (.iconst 5, 1) := by decide +kernel
theorem dX10_init_83 : decode cX10_init 83 = .ok (.anewarray 56, 3) := by decide +kernel
theorem dX10_init_86 : decode cX10_init 86 = .ok (.putfield 58, 3) := by decide +kernel
theorem dX10_init_89 : decode cX10_init 89 = .ok (.aload_n 0, 1) := by decide +kernel
theorem dX10_init_90 : decode cX10_init 90 = .ok (.bipush 60, 2) := by decide +kernel
theorem dX10_init_92 : decode cX10_init 92 = .ok (.newarray .int, 2) := by decide +kernel
theorem dX10_init_94 : decode cX10_init 94 = .ok (.putfield 62, 3) := by decide +kernel
theorem dX10_init_97 : decode cX10_init 97 = .ok (.aload_n 0, 1) := by decide +kernel
theorem dX10_init_98 : decode cX10_init 98 = .ok (.iconst 0, 1) := by decide +kernel
theorem dX10_init_99 : decode cX10_init 99 = .ok (.putfield 66, 3) := by decide +kernel
theorem dX10_init_102 : decode cX10_init 102 = .ok (.iconst 0, 1) := by decide +kernel
theorem dX10_init_103 : decode cX10_init 103 = .ok (.istore_n 1, 1) := by decide +kernel
theorem dX10_init_104 : decode cX10_init 104 = .ok (.iload_n 1, 1) := by decide +kernel
theorem dX10_init_105 : decode cX10_init 105 = .ok (.iconst 4, 1) := by decide +kernel
theorem dX10_init_106 : decode cX10_init 106 = .ok (.if_icmp .ge 22, 3) := by decide +kernel
theorem dX10_init_109 : decode cX10_init 109 = .ok (.aload_n 0, 1) := by decide +kernel
theorem dX10_init_110 : decode cX10_init 110 = .ok (.getfield 52, 3) := by decide +kernel
theorem dX10_init_113 : decode cX10_init 113 = .ok (.iload_n 1, 1) := by decide +kernel
theorem dX10_init_114 : decode cX10_init 114 = .ok (.new 50, 3) := by decide +kernel
theorem dX10_init_117 : decode cX10_init 117 = .ok (.dup, 1) := by decide +kernel
theorem dX10_init_118 : decode cX10_init 118 = .ok (.invokespecial 70, 3) := by decide +kernel
theorem dX10_init_121 : decode cX10_init 121 = .ok (.aastore, 1) := by decide +kernel
theorem dX10_init_122 : decode cX10_init 122 = .ok (.iinc 1 1, 3) := by decide +kernel
theorem dX10_init_125 : decode cX10_init 125 = .ok (.goto (-21), 3) := by decide +kernel
theorem dX10_init_128 : decode cX10_init 128 = .ok (.iconst 0, 1) := by decide +kernel
theorem dX10_init_129 : decode cX10_init 129 = .ok (.istore_n 1, 1) := by decide +kernel
theorem dX10_init_130 : decode cX10_init 130 = .ok (.iload_n 1, 1) := by decide +kernel
theorem dX10_init_131 : decode cX10_init 131 = .ok (.iconst 5, 1) := by decide +kernel
theorem dX10_init_132 : decode cX10_init 132 = .ok (.if_icmp .ge 22, 3) := by decide +kernel
theorem dX10_init_135 : decode cX10_init 135 = .ok (.aload_n 0, 1) := by decide +kernel
theorem dX10_init_136 : decode cX10_init 136 = .ok (.getfield 58, 3) := by decide +kernel
theorem dX10_init_139 : decode cX10_init 139 = .ok (.iload_n 1, 1) := by decide +kernel
theorem dX10_init_140 : decode cX10_init 140 = .ok (.new 56, 3) := by decide +kernel
theorem dX10_init_143 : decode cX10_init 143 = .ok (.dup, 1) := by decide +kernel
theorem dX10_init_144 : decode cX10_init 144 = .ok (.invokespecial 71, 3) := by decide +kernel
theorem dX10_init_147 : decode cX10_init 147 = .ok (.aastore, 1) := by decide +kernel
theorem dX10_init_148 : decode cX10_init 148 = .ok (.iinc 1 1, 3) := by decide +kernel
theorem dX10_init_151 : decode cX10_init 151 = .ok (.goto (-21), 3) := by decide +kernel
theorem dX10_init_154 : decode cX10_init 154 = .ok (.return_, 1) := by decide +kernel
theorem dX10_yard_0 : decode cX10_yard 0 = .ok (.iload_n 1, 1) := by decide +kernel
theorem dX10_yard_1 : decode cX10_yard 1 = .ok (.invokestatic 72, 3) := by decide +kernel
theorem dX10_yard_4 : decode cX10_yard 4 = .ok (.ifCond .eq 17, 3) := by decide +kernel
theorem dX10_yard_7 : decode cX10_yard 7 = .ok (.iload_n 2, 1) := by decide +kernel
theorem dX10_yard_8 : decode cX10_yard 8 = .ok (.invokestatic 78, 3) := by decide +kernel
theorem dX10_yard_11 : decode cX10_yard 11 = .ok (.ifCond .eq 10, 3) := by decide +kernel
theorem dX10_yard_14 : decode cX10_yard 14 = .ok (.iload_n 3, 1) := by decide +kernel
theorem dX10_yard_15 : decode cX10_yard 15 = .ok (.invokestatic 81, 3) := by decide +kernel
theorem dX10_yard_18 : decode cX10_yard 18 = .ok (.ifCond .ne 6, 3) := by decide +kernel
theorem dX10_yard_21 : decode cX10_yard 21 = .ok (.ldc 84, 2) := by decide +kernel
theorem dX10_yard_23 : decode cX10_yard 23 = .ok (.ireturn, 1) := by decide +kernel
theorem dX10_yard_24 : decode cX10_yard 24 = .ok (.aload_n 0, 1) := by decide +kernel
theorem dX10_yard_25 : decode cX10_yard 25 = .ok (.getfield 10, 3) := by decide +kernel
theorem dX10_yard_28 : decode cX10_yard 28 = .ok (.getfield 85, 3) := by decide +kernel
theorem dX10_yard_31 : decode cX10_yard 31 = .ok (.getfield 89, 3) := by decide +kernel
theorem dX10_yard_34 : decode cX10_yard 34 = .ok (.bipush 10, 2) := by decide +kernel
theorem dX10_yard_36 : decode cX10_yard 36 = .ok (.if_icmp .lt 6, 3) := by decide +kernel
theorem dX10_yard_39 : decode cX10_yard 39 = .ok (.ldc 94, 2) := by decide +kernel
theorem dX10_yard_41 : decode cX10_yard 41 = .ok (.ireturn, 1) := by decide +kernel
theorem dX10_yard_42 : decode cX10_yard 42 = .ok (.aload_n 0, 1) := by decide +kernel
theorem dX10_yard_43 : decode cX10_yard 43 = .ok (.getfield 10, 3) := by decide +kernel
theorem dX10_yard_46 : decode cX10_yard 46 = .ok (.getfield 85, 3) := by decide +kernel
theorem dX10_yard_49 : decode cX10_yard 49 = .ok (.iload_n 1, 1) := by decide +kernel
theorem dX10_yard_50 : decode cX10_yard 50 = .ok (.iload_n 2, 1) := by decide +kernel
theorem dX10_yard_51 : decode cX10_yard 51 = .ok (.iload_n 3, 1) := by decide +kernel
theorem dX10_yard_52 : decode cX10_yard 52 = .ok (.invokevirtual 95, 3) := by decide +kernel
theorem dX10_yard_55 : decode cX10_yard 55 = .ok (.ireturn, 1) := by decide +kernel
theorem dX10_told_0 : decode cX10_told 0 = .ok (.aload_n 0, 1) := by decide +kernel
theorem dX10_told_1 : decode cX10_told 1 = .ok (.getfield 10, 3) := by decide +kernel
theorem dX10_told_4 : decode cX10_told 4 = .ok (.getfield 85, 3) := by decide +kernel
theorem dX10_told_7 : decode cX10_told 7 = .ok (.astore_n 3, 1) := by decide +kernel
theorem dX10_told_8 : decode cX10_told 8 = .ok (.aload_n 3, 1) := by decide +kernel
theorem dX10_told_9 : decode cX10_told 9 = .ok (.iload_n 1, 1) := by decide +kernel
theorem dX10_told_10 : decode cX10_told 10 = .ok (.invokevirtual 99, 3) := by decide +kernel
theorem dX10_told_13 : decode cX10_told 13 = .ok (.ifCond .ne 6, 3) := by decide +kernel
theorem dX10_told_16 : decode cX10_told 16 = .ok (.ldc 84, 2) := by decide +kernel
theorem dX10_told_18 : decode cX10_told 18 = .ok (.ireturn, 1) := by decide +kernel
theorem dX10_told_19 : decode cX10_told 19 = .ok (.iload_n 2, 1) := by decide +kernel
theorem dX10_told_20 : decode cX10_told 20 = .ok (.tableswitch 136 0 7 #[48, 55, 62, 69, 76, 85, 102, 124], 48) := by decide +kernel
theorem dX10_told_68 : decode cX10_told 68 = .ok (.aload_n 3, 1) := by decide +kernel
theorem dX10_told_69 : decode cX10_told 69 = .ok (.getfield 100, 3) := by decide +kernel
theorem dX10_told_72 : decode cX10_told 72 = .ok (.iload_n 1, 1) := by decide +kernel
theorem dX10_told_73 : decode cX10_told 73 = .ok (.iaload, 1) := by decide +kernel
theorem dX10_told_74 : decode cX10_told 74 = .ok (.ireturn, 1) := by decide +kernel
theorem dX10_told_75 : decode cX10_told 75 = .ok (.aload_n 3, 1) := by decide +kernel
theorem dX10_told_76 : decode cX10_told 76 = .ok (.getfield 103, 3) := by decide +kernel
theorem dX10_told_79 : decode cX10_told 79 = .ok (.iload_n 1, 1) := by decide +kernel
theorem dX10_told_80 : decode cX10_told 80 = .ok (.iaload, 1) := by decide +kernel
theorem dX10_told_81 : decode cX10_told 81 = .ok (.ireturn, 1) := by decide +kernel
theorem dX10_told_82 : decode cX10_told 82 = .ok (.aload_n 3, 1) := by decide +kernel
theorem dX10_told_83 : decode cX10_told 83 = .ok (.getfield 106, 3) := by decide +kernel
theorem dX10_told_86 : decode cX10_told 86 = .ok (.iload_n 1, 1) := by decide +kernel
theorem dX10_told_87 : decode cX10_told 87 = .ok (.iaload, 1) := by decide +kernel
theorem dX10_told_88 : decode cX10_told 88 = .ok (.ireturn, 1) := by decide +kernel
theorem dX10_told_89 : decode cX10_told 89 = .ok (.aload_n 3, 1) := by decide +kernel
theorem dX10_told_90 : decode cX10_told 90 = .ok (.getfield 109, 3) := by decide +kernel
theorem dX10_told_93 : decode cX10_told 93 = .ok (.iload_n 1, 1) := by decide +kernel
theorem dX10_told_94 : decode cX10_told 94 = .ok (.iaload, 1) := by decide +kernel
theorem dX10_told_95 : decode cX10_told 95 = .ok (.ireturn, 1) := by decide +kernel
theorem dX10_told_96 : decode cX10_told 96 = .ok (.aload_n 0, 1) := by decide +kernel
theorem dX10_told_97 : decode cX10_told 97 = .ok (.getfield 10, 3) := by decide +kernel
theorem dX10_told_100 : decode cX10_told 100 = .ok (.iload_n 1, 1) := by decide +kernel
theorem dX10_told_101 : decode cX10_told 101 = .ok (.invokevirtual 112, 3) := by decide +kernel
theorem dX10_told_104 : decode cX10_told 104 = .ok (.ireturn, 1) := by decide +kernel
theorem dX10_told_105 : decode cX10_told 105 = .ok (.aload_n 3, 1) := by decide +kernel
theorem dX10_told_106 : decode cX10_told 106 = .ok (.getfield 100, 3) := by decide +kernel
theorem dX10_told_109 : decode cX10_told 109 = .ok (.iload_n 1, 1) := by decide +kernel
theorem dX10_told_110 : decode cX10_told 110 = .ok (.iaload, 1) := by decide +kernel
theorem dX10_told_111 : decode cX10_told 111 = .ok (.aload_n 0, 1) := by decide +kernel
theorem dX10_told_112 : decode cX10_told 112 = .ok (.getfield 10, 3) := by decide +kernel
theorem dX10_told_115 : decode cX10_told 115 = .ok (.getfield 116, 3) := by decide +kernel
theorem dX10_told_118 : decode cX10_told 118 = .ok (.invokestatic 119, 3) := by decide +kernel
theorem dX10_told_121 : decode cX10_told 121 = .ok (.ireturn, 1) := by decide +kernel
theorem dX10_told_122 : decode cX10_told 122 = .ok (.aload_n 3, 1) := by decide +kernel
theorem dX10_told_123 : decode cX10_told 123 = .ok (.getfield 100, 3) := by decide +kernel
theorem dX10_told_126 : decode cX10_told 126 = .ok (.iload_n 1, 1) := by decide +kernel
theorem dX10_told_127 : decode cX10_told 127 = .ok (.iaload, 1) := by decide +kernel
theorem dX10_told_128 : decode cX10_told 128 = .ok (.aload_n 3, 1) := by decide +kernel
theorem dX10_told_129 : decode cX10_told 129 = .ok (.getfield 103, 3) := by decide +kernel
theorem dX10_told_132 : decode cX10_told 132 = .ok (.iload_n 1, 1) := by decide +kernel
theorem dX10_told_133 : decode cX10_told 133 = .ok (.iaload, 1) := by decide +kernel
theorem dX10_told_134 : decode cX10_told 134 = .ok (.aload_n 3, 1) := by decide +kernel
theorem dX10_told_135 : decode cX10_told 135 = .ok (.getfield 106, 3) := by decide +kernel
theorem dX10_told_138 : decode cX10_told 138 = .ok (.iload_n 1, 1) := by decide +kernel
theorem dX10_told_139 : decode cX10_told 139 = .ok (.iaload, 1) := by decide +kernel
theorem dX10_told_140 : decode cX10_told 140 = .ok (.invokestatic 123, 3) := by decide +kernel
theorem dX10_told_143 : decode cX10_told 143 = .ok (.ireturn, 1) := by decide +kernel
theorem dX10_told_144 : decode cX10_told 144 = .ok (.aload_n 0, 1) := by decide +kernel
theorem dX10_told_145 : decode cX10_told 145 = .ok (.getfield 10, 3) := by decide +kernel
theorem dX10_told_148 : decode cX10_told 148 = .ok (.getfield 126, 3) := by decide +kernel
theorem dX10_told_151 : decode cX10_told 151 = .ok (.iload_n 1, 1) := by decide +kernel
theorem dX10_told_152 : decode cX10_told 152 = .ok (.invokevirtual 130, 3) := by decide +kernel
theorem dX10_told_155 : decode cX10_told 155 = .ok (.ireturn, 1) := by decide +kernel
theorem dX10_told_156 : decode cX10_told 156 = .ok (.ldc 84, 2) := by decide +kernel
theorem dX10_told_158 : decode cX10_told 158 = .ok (.ireturn, 1) := by decide +kernel
theorem dX10_as_0 : decode cX10_as 0 = .ok (.aload_n 0, 1) := by decide +kernel
theorem dX10_as_1 : decode cX10_as 1 = .ok (.getfield 10, 3) := by decide +kernel
theorem dX10_as_4 : decode cX10_as 4 = .ok (.getfield 85, 3) := by decide +kernel
theorem dX10_as_7 : decode cX10_as 7 = .ok (.iload_n 1, 1) := by decide +kernel
theorem dX10_as_8 : decode cX10_as 8 = .ok (.invokevirtual 99, 3) := by decide +kernel
theorem dX10_as_11 : decode cX10_as 11 = .ok (.ifCond .eq 10, 3) := by decide +kernel
theorem dX10_as_14 : decode cX10_as 14 = .ok (.iload_n 2, 1) := by decide +kernel
theorem dX10_as_15 : decode cX10_as 15 = .ok (.invokestatic 72, 3) := by decide +kernel
theorem dX10_as_18 : decode cX10_as 18 = .ok (.ifCond .ne 6, 3) := by decide +kernel
theorem dX10_as_21 : decode cX10_as 21 = .ok (.ldc 84, 2) := by decide +kernel
theorem dX10_as_23 : decode cX10_as 23 = .ok (.ireturn, 1) := by decide +kernel
theorem dX10_as_24 : decode cX10_as 24 = .ok (.aload_n 0, 1) := by decide +kernel
theorem dX10_as_25 : decode cX10_as 25 = .ok (.getfield 10, 3) := by decide +kernel
theorem dX10_as_28 : decode cX10_as 28 = .ok (.getfield 85, 3) := by decide +kernel
theorem dX10_as_31 : decode cX10_as 31 = .ok (.getfield 100, 3) := by decide +kernel
theorem dX10_as_34 : decode cX10_as 34 = .ok (.iload_n 1, 1) := by decide +kernel
theorem dX10_as_35 : decode cX10_as 35 = .ok (.iaload, 1) := by decide +kernel
theorem dX10_as_36 : decode cX10_as 36 = .ok (.iload_n 2, 1) := by decide +kernel
theorem dX10_as_37 : decode cX10_as 37 = .ok (.invokestatic 135, 3) := by decide +kernel
theorem dX10_as_40 : decode cX10_as 40 = .ok (.ifCond .eq 18, 3) := by decide +kernel
theorem dX10_as_43 : decode cX10_as 43 = .ok (.aload_n 0, 1) := by decide +kernel
theorem dX10_as_44 : decode cX10_as 44 = .ok (.getfield 10, 3) := by decide +kernel
theorem dX10_as_47 : decode cX10_as 47 = .ok (.getfield 85, 3) := by decide +kernel
theorem dX10_as_50 : decode cX10_as 50 = .ok (.getfield 103, 3) := by decide +kernel
theorem dX10_as_53 : decode cX10_as 53 = .ok (.iload_n 1, 1) := by decide +kernel
theorem dX10_as_54 : decode cX10_as 54 = .ok (.iaload, 1) := by decide +kernel
theorem dX10_as_55 : decode cX10_as 55 = .ok (.goto 5, 3) := by decide +kernel
theorem dX10_as_58 : decode cX10_as 58 = .ok (.ldc 139, 2) := by decide +kernel
theorem dX10_as_60 : decode cX10_as 60 = .ok (.ireturn, 1) := by decide +kernel
theorem dX10_turns_0 : decode cX10_turns 0 = .ok (.aload_n 0, 1) := by decide +kernel
theorem dX10_turns_1 : decode cX10_turns 1 = .ok (.getfield 10, 3) := by decide +kernel
theorem dX10_turns_4 : decode cX10_turns 4 = .ok (.getfield 85, 3) := by decide +kernel
theorem dX10_turns_7 : decode cX10_turns 7 = .ok (.iload_n 1, 1) := by decide +kernel
theorem dX10_turns_8 : decode cX10_turns 8 = .ok (.invokevirtual 99, 3) := by decide +kernel
theorem dX10_turns_11 : decode cX10_turns 11 = .ok (.ifCond .eq 10, 3) := by decide +kernel
theorem dX10_turns_14 : decode cX10_turns 14 = .ok (.iload_n 2, 1) := by decide +kernel
theorem dX10_turns_15 : decode cX10_turns 15 = .ok (.invokestatic 72, 3) := by decide +kernel
theorem dX10_turns_18 : decode cX10_turns 18 = .ok (.ifCond .ne 6, 3) := by decide +kernel
theorem dX10_turns_21 : decode cX10_turns 21 = .ok (.ldc 84, 2) := by decide +kernel
theorem dX10_turns_23 : decode cX10_turns 23 = .ok (.ireturn, 1) := by decide +kernel
theorem dX10_turns_24 : decode cX10_turns 24 = .ok (.aload_n 0, 1) := by decide +kernel
theorem dX10_turns_25 : decode cX10_turns 25 = .ok (.getfield 10, 3) := by decide +kernel
theorem dX10_turns_28 : decode cX10_turns 28 = .ok (.getfield 85, 3) := by decide +kernel
theorem dX10_turns_31 : decode cX10_turns 31 = .ok (.getfield 100, 3) := by decide +kernel
theorem dX10_turns_34 : decode cX10_turns 34 = .ok (.iload_n 1, 1) := by decide +kernel
theorem dX10_turns_35 : decode cX10_turns 35 = .ok (.iaload, 1) := by decide +kernel
theorem dX10_turns_36 : decode cX10_turns 36 = .ok (.istore_n 3, 1) := by decide +kernel
theorem dX10_turns_37 : decode cX10_turns 37 = .ok (.aload_n 0, 1) := by decide +kernel
theorem dX10_turns_38 : decode cX10_turns 38 = .ok (.getfield 10, 3) := by decide +kernel
theorem dX10_turns_41 : decode cX10_turns 41 = .ok (.getfield 85, 3) := by decide +kernel
theorem dX10_turns_44 : decode cX10_turns 44 = .ok (.getfield 100, 3) := by decide +kernel
theorem dX10_turns_47 : decode cX10_turns 47 = .ok (.iload_n 1, 1) := by decide +kernel
theorem dX10_turns_48 : decode cX10_turns 48 = .ok (.iload_n 2, 1) := by decide +kernel
theorem dX10_turns_49 : decode cX10_turns 49 = .ok (.iastore, 1) := by decide +kernel
theorem dX10_turns_50 : decode cX10_turns 50 = .ok (.iload_n 3, 1) := by decide +kernel
theorem dX10_turns_51 : decode cX10_turns 51 = .ok (.ireturn, 1) := by decide +kernel
end
section
-- decode rows, by program
theorem dX10_set_0 : decode cX10_set 0 = .ok (.aload_n 0, 1) := by decide +kernel
theorem dX10_set_1 : decode cX10_set 1 = .ok (.getfield 10, 3) := by decide +kernel
theorem dX10_set_4 : decode cX10_set 4 = .ok (.getfield 85, 3) := by decide +kernel
theorem dX10_set_7 : decode cX10_set 7 = .ok (.iload_n 1, 1) := by decide +kernel
theorem dX10_set_8 : decode cX10_set 8 = .ok (.invokevirtual 99, 3) := by decide +kernel
theorem dX10_set_11 : decode cX10_set 11 = .ok (.ifCond .ne 6, 3) := by decide +kernel
theorem dX10_set_14 : decode cX10_set 14 = .ok (.ldc 84, 2) := by decide +kernel
theorem dX10_set_16 : decode cX10_set 16 = .ok (.ireturn, 1) := by decide +kernel
theorem dX10_set_17 : decode cX10_set 17 = .ok (.iload_n 2, 1) := by decide +kernel
theorem dX10_set_18 : decode cX10_set 18 = .ok (.iconst 1, 1) := by decide +kernel
theorem dX10_set_19 : decode cX10_set 19 = .ok (.if_icmp .ne 40, 3) := by decide +kernel
theorem dX10_set_22 : decode cX10_set 22 = .ok (.iload_n 3, 1) := by decide +kernel
theorem dX10_set_23 : decode cX10_set 23 = .ok (.invokestatic 78, 3) := by decide +kernel
theorem dX10_set_26 : decode cX10_set 26 = .ok (.ifCond .eq 33, 3) := by decide +kernel
theorem dX10_set_29 : decode cX10_set 29 = .ok (.aload_n 0, 1) := by decide +kernel
theorem dX10_set_30 : decode cX10_set 30 = .ok (.getfield 10, 3) := by decide +kernel
theorem dX10_set_33 : decode cX10_set 33 = .ok (.getfield 85, 3) := by decide +kernel
theorem dX10_set_36 : decode cX10_set 36 = .ok (.getfield 103, 3) := by decide +kernel
theorem dX10_set_39 : decode cX10_set 39 = .ok (.iload_n 1, 1) := by decide +kernel
theorem dX10_set_40 : decode cX10_set 40 = .ok (.iaload, 1) := by decide +kernel
theorem dX10_set_41 : decode cX10_set 41 = .ok (.istore 4, 2) := by decide +kernel
theorem dX10_set_43 : decode cX10_set 43 = .ok (.aload_n 0, 1) := by decide +kernel
theorem dX10_set_44 : decode cX10_set 44 = .ok (.getfield 10, 3) := by decide +kernel
theorem dX10_set_47 : decode cX10_set 47 = .ok (.getfield 85, 3) := by decide +kernel
theorem dX10_set_50 : decode cX10_set 50 = .ok (.getfield 103, 3) := by decide +kernel
theorem dX10_set_53 : decode cX10_set 53 = .ok (.iload_n 1, 1) := by decide +kernel
theorem dX10_set_54 : decode cX10_set 54 = .ok (.iload_n 3, 1) := by decide +kernel
theorem dX10_set_55 : decode cX10_set 55 = .ok (.iastore, 1) := by decide +kernel
theorem dX10_set_56 : decode cX10_set 56 = .ok (.iload 4, 2) := by decide +kernel
theorem dX10_set_58 : decode cX10_set 58 = .ok (.ireturn, 1) := by decide +kernel
theorem dX10_set_59 : decode cX10_set 59 = .ok (.iload_n 2, 1) := by decide +kernel
theorem dX10_set_60 : decode cX10_set 60 = .ok (.iconst 2, 1) := by decide +kernel
theorem dX10_set_61 : decode cX10_set 61 = .ok (.if_icmp .ne 40, 3) := by decide +kernel
theorem dX10_set_64 : decode cX10_set 64 = .ok (.iload_n 3, 1) := by decide +kernel
theorem dX10_set_65 : decode cX10_set 65 = .ok (.invokestatic 81, 3) := by decide +kernel
theorem dX10_set_68 : decode cX10_set 68 = .ok (.ifCond .eq 33, 3) := by decide +kernel
theorem dX10_set_71 : decode cX10_set 71 = .ok (.aload_n 0, 1) := by decide +kernel
theorem dX10_set_72 : decode cX10_set 72 = .ok (.getfield 10, 3) := by decide +kernel
theorem dX10_set_75 : decode cX10_set 75 = .ok (.getfield 85, 3) := by decide +kernel
theorem dX10_set_78 : decode cX10_set 78 = .ok (.getfield 106, 3) := by decide +kernel
theorem dX10_set_81 : decode cX10_set 81 = .ok (.iload_n 1, 1) := by decide +kernel
theorem dX10_set_82 : decode cX10_set 82 = .ok (.iaload, 1) := by decide +kernel
theorem dX10_set_83 : decode cX10_set 83 = .ok (.istore 4, 2) := by decide +kernel
theorem dX10_set_85 : decode cX10_set 85 = .ok (.aload_n 0, 1) := by decide +kernel
theorem dX10_set_86 : decode cX10_set 86 = .ok (.getfield 10, 3) := by decide +kernel
theorem dX10_set_89 : decode cX10_set 89 = .ok (.getfield 85, 3) := by decide +kernel
theorem dX10_set_92 : decode cX10_set 92 = .ok (.getfield 106, 3) := by decide +kernel
theorem dX10_set_95 : decode cX10_set 95 = .ok (.iload_n 1, 1) := by decide +kernel
theorem dX10_set_96 : decode cX10_set 96 = .ok (.iload_n 3, 1) := by decide +kernel
theorem dX10_set_97 : decode cX10_set 97 = .ok (.iastore, 1) := by decide +kernel
theorem dX10_set_98 : decode cX10_set 98 = .ok (.iload 4, 2) := by decide +kernel
theorem dX10_set_100 : decode cX10_set 100 = .ok (.ireturn, 1) := by decide +kernel
theorem dX10_set_101 : decode cX10_set 101 = .ok (.ldc 84, 2) := by decide +kernel
theorem dX10_set_103 : decode cX10_set 103 = .ok (.ireturn, 1) := by decide +kernel
theorem dX10_deal_0 : decode cX10_deal 0 = .ok (.iload_n 1, 1) := by decide +kernel
theorem dX10_deal_1 : decode cX10_deal 1 = .ok (.iconst 1, 1) := by decide +kernel
theorem dX10_deal_2 : decode cX10_deal 2 = .ok (.if_icmp .lt 9, 3) := by decide +kernel
theorem dX10_deal_5 : decode cX10_deal 5 = .ok (.iload_n 1, 1) := by decide +kernel
theorem dX10_deal_6 : decode cX10_deal 6 = .ok (.bipush 10, 2) := by decide +kernel
theorem dX10_deal_8 : decode cX10_deal 8 = .ok (.if_icmp .le 6, 3) := by decide +kernel
theorem dX10_deal_11 : decode cX10_deal 11 = .ok (.ldc 84, 2) := by decide +kernel
theorem dX10_deal_13 : decode cX10_deal 13 = .ok (.ireturn, 1) := by decide +kernel
theorem dX10_deal_14 : decode cX10_deal 14 = .ok (.iload_n 1, 1) := by decide +kernel
theorem dX10_deal_15 : decode cX10_deal 15 = .ok (.bipush 10, 2) := by decide +kernel
theorem dX10_deal_17 : decode cX10_deal 17 = .ok (.aload_n 0, 1) := by decide +kernel
theorem dX10_deal_18 : decode cX10_deal 18 = .ok (.getfield 10, 3) := by decide +kernel
theorem dX10_deal_21 : decode cX10_deal 21 = .ok (.getfield 85, 3) := by decide +kernel
theorem dX10_deal_24 : decode cX10_deal 24 = .ok (.getfield 89, 3) := by decide +kernel
theorem dX10_deal_27 : decode cX10_deal 27 = .ok (.isub, 1) := by decide +kernel
theorem dX10_deal_28 : decode cX10_deal 28 = .ok (.invokestatic 140, 3) := by decide +kernel
theorem dX10_deal_31 : decode cX10_deal 31 = .ok (.istore_n 2, 1) := by decide +kernel
theorem dX10_deal_32 : decode cX10_deal 32 = .ok (.iconst 0, 1) := by decide +kernel
theorem dX10_deal_33 : decode cX10_deal 33 = .ok (.istore_n 3, 1) := by decide +kernel
theorem dX10_deal_34 : decode cX10_deal 34 = .ok (.iload_n 3, 1) := by decide +kernel
theorem dX10_deal_35 : decode cX10_deal 35 = .ok (.iload_n 2, 1) := by decide +kernel
theorem dX10_deal_36 : decode cX10_deal 36 = .ok (.if_icmp .ge 62, 3) := by decide +kernel
theorem dX10_deal_39 : decode cX10_deal 39 = .ok (.aload_n 0, 1) := by decide +kernel
theorem dX10_deal_40 : decode cX10_deal 40 = .ok (.getfield 10, 3) := by decide +kernel
theorem dX10_deal_43 : decode cX10_deal 43 = .ok (.bipush 6, 2) := by decide +kernel
theorem dX10_deal_45 : decode cX10_deal 45 = .ok (.invokevirtual 145, 3) := by decide +kernel
theorem dX10_deal_48 : decode cX10_deal 48 = .ok (.istore 4, 2) := by decide +kernel
theorem dX10_deal_50 : decode cX10_deal 50 = .ok (.aload_n 0, 1) := by decide +kernel
theorem dX10_deal_51 : decode cX10_deal 51 = .ok (.getfield 10, 3) := by decide +kernel
theorem dX10_deal_54 : decode cX10_deal 54 = .ok (.sipush 200, 3) := by decide +kernel
theorem dX10_deal_57 : decode cX10_deal 57 = .ok (.invokevirtual 145, 3) := by decide +kernel
theorem dX10_deal_60 : decode cX10_deal 60 = .ok (.istore 5, 2) := by decide +kernel
theorem dX10_deal_62 : decode cX10_deal 62 = .ok (.iconst 1, 1) := by decide +kernel
theorem dX10_deal_63 : decode cX10_deal 63 = .ok (.aload_n 0, 1) := by decide +kernel
theorem dX10_deal_64 : decode cX10_deal 64 = .ok (.getfield 10, 3) := by decide +kernel
theorem dX10_deal_67 : decode cX10_deal 67 = .ok (.bipush 100, 2) := by decide +kernel
theorem dX10_deal_69 : decode cX10_deal 69 = .ok (.invokevirtual 145, 3) := by decide +kernel
theorem dX10_deal_72 : decode cX10_deal 72 = .ok (.iadd, 1) := by decide +kernel
theorem dX10_deal_73 : decode cX10_deal 73 = .ok (.istore 6, 2) := by decide +kernel
theorem dX10_deal_75 : decode cX10_deal 75 = .ok (.aload_n 0, 1) := by decide +kernel
theorem dX10_deal_76 : decode cX10_deal 76 = .ok (.getfield 10, 3) := by decide +kernel
theorem dX10_deal_79 : decode cX10_deal 79 = .ok (.getfield 85, 3) := by decide +kernel
theorem dX10_deal_82 : decode cX10_deal 82 = .ok (.iload 4, 2) := by decide +kernel
theorem dX10_deal_84 : decode cX10_deal 84 = .ok (.iload 5, 2) := by decide +kernel
theorem dX10_deal_86 : decode cX10_deal 86 = .ok (.iload 6, 2) := by decide +kernel
theorem dX10_deal_88 : decode cX10_deal 88 = .ok (.invokevirtual 95, 3) := by decide +kernel
theorem dX10_deal_91 : decode cX10_deal 91 = .ok (.pop, 1) := by decide +kernel
theorem dX10_deal_92 : decode cX10_deal 92 = .ok (.iinc 3 1, 3) := by decide +kernel
theorem dX10_deal_95 : decode cX10_deal 95 = .ok (.goto (-61), 3) := by decide +kernel
theorem dX10_deal_98 : decode cX10_deal 98 = .ok (.iload_n 2, 1) := by decide +kernel
theorem dX10_deal_99 : decode cX10_deal 99 = .ok (.ireturn, 1) := by decide +kernel
theorem dX10_seed_0 : decode cX10_seed 0 = .ok (.aload_n 0, 1) := by decide +kernel
theorem dX10_seed_1 : decode cX10_seed 1 = .ok (.getfield 10, 3) := by decide +kernel
theorem dX10_seed_4 : decode cX10_seed 4 = .ok (.getfield 148, 3) := by decide +kernel
theorem dX10_seed_7 : decode cX10_seed 7 = .ok (.istore_n 2, 1) := by decide +kernel
theorem dX10_seed_8 : decode cX10_seed 8 = .ok (.aload_n 0, 1) := by decide +kernel
theorem dX10_seed_9 : decode cX10_seed 9 = .ok (.getfield 10, 3) := by decide +kernel
theorem dX10_seed_12 : decode cX10_seed 12 = .ok (.iload_n 1, 1) := by decide +kernel
theorem dX10_seed_13 : decode cX10_seed 13 = .ok (.putfield 148, 3) := by decide +kernel
theorem dX10_seed_16 : decode cX10_seed 16 = .ok (.iload_n 2, 1) := by decide +kernel
theorem dX10_seed_17 : decode cX10_seed 17 = .ok (.ireturn, 1) := by decide +kernel
theorem dX10_rule_0 : decode cX10_rule 0 = .ok (.iload_n 1, 1) := by decide +kernel
theorem dX10_rule_1 : decode cX10_rule 1 = .ok (.ifCond .ne 32, 3) := by decide +kernel
theorem dX10_rule_4 : decode cX10_rule 4 = .ok (.iload_n 2, 1) := by decide +kernel
theorem dX10_rule_5 : decode cX10_rule 5 = .ok (.ifCond .lt 28, 3) := by decide +kernel
theorem dX10_rule_8 : decode cX10_rule 8 = .ok (.iload_n 2, 1) := by decide +kernel
theorem dX10_rule_9 : decode cX10_rule 9 = .ok (.bipush 99, 2) := by decide +kernel
theorem dX10_rule_11 : decode cX10_rule 11 = .ok (.if_icmp .gt 22, 3) := by decide +kernel
theorem dX10_rule_14 : decode cX10_rule 14 = .ok (.aload_n 0, 1) := by decide +kernel
theorem dX10_rule_15 : decode cX10_rule 15 = .ok (.getfield 10, 3) := by decide +kernel
theorem dX10_rule_18 : decode cX10_rule 18 = .ok (.getfield 151, 3) := by decide +kernel
theorem dX10_rule_21 : decode cX10_rule 21 = .ok (.istore_n 3, 1) := by decide +kernel
theorem dX10_rule_22 : decode cX10_rule 22 = .ok (.aload_n 0, 1) := by decide +kernel
theorem dX10_rule_23 : decode cX10_rule 23 = .ok (.getfield 10, 3) := by decide +kernel
theorem dX10_rule_26 : decode cX10_rule 26 = .ok (.iload_n 2, 1) := by decide +kernel
theorem dX10_rule_27 : decode cX10_rule 27 = .ok (.putfield 151, 3) := by decide +kernel
theorem dX10_rule_30 : decode cX10_rule 30 = .ok (.goto 76, 3) := by decide +kernel
theorem dX10_rule_33 : decode cX10_rule 33 = .ok (.iload_n 1, 1) := by decide +kernel
theorem dX10_rule_34 : decode cX10_rule 34 = .ok (.iconst 1, 1) := by decide +kernel
theorem dX10_rule_35 : decode cX10_rule 35 = .ok (.if_icmp .ne 32, 3) := by decide +kernel
theorem dX10_rule_38 : decode cX10_rule 38 = .ok (.iload_n 2, 1) := by decide +kernel
theorem dX10_rule_39 : decode cX10_rule 39 = .ok (.ifCond .lt 28, 3) := by decide +kernel
theorem dX10_rule_42 : decode cX10_rule 42 = .ok (.iload_n 2, 1) := by decide +kernel
theorem dX10_rule_43 : decode cX10_rule 43 = .ok (.bipush 99, 2) := by decide +kernel
theorem dX10_rule_45 : decode cX10_rule 45 = .ok (.if_icmp .gt 22, 3) := by decide +kernel
theorem dX10_rule_48 : decode cX10_rule 48 = .ok (.aload_n 0, 1) := by decide +kernel
theorem dX10_rule_49 : decode cX10_rule 49 = .ok (.getfield 10, 3) := by decide +kernel
theorem dX10_rule_52 : decode cX10_rule 52 = .ok (.getfield 154, 3) := by decide +kernel
theorem dX10_rule_55 : decode cX10_rule 55 = .ok (.istore_n 3, 1) := by decide +kernel
theorem dX10_rule_56 : decode cX10_rule 56 = .ok (.aload_n 0, 1) := by decide +kernel
theorem dX10_rule_57 : decode cX10_rule 57 = .ok (.getfield 10, 3) := by decide +kernel
theorem dX10_rule_60 : decode cX10_rule 60 = .ok (.iload_n 2, 1) := by decide +kernel
theorem dX10_rule_61 : decode cX10_rule 61 = .ok (.putfield 154, 3) := by decide +kernel
theorem dX10_rule_64 : decode cX10_rule 64 = .ok (.goto 42, 3) := by decide +kernel
theorem dX10_rule_67 : decode cX10_rule 67 = .ok (.iload_n 1, 1) := by decide +kernel
theorem dX10_rule_68 : decode cX10_rule 68 = .ok (.iconst 2, 1) := by decide +kernel
theorem dX10_rule_69 : decode cX10_rule 69 = .ok (.if_icmp .ne 34, 3) := by decide +kernel
theorem dX10_rule_72 : decode cX10_rule 72 = .ok (.iload_n 2, 1) := by decide +kernel
theorem dX10_rule_73 : decode cX10_rule 73 = .ok (.bipush (-9), 2) := by decide +kernel
theorem dX10_rule_75 : decode cX10_rule 75 = .ok (.if_icmp .lt 28, 3) := by decide +kernel
theorem dX10_rule_78 : decode cX10_rule 78 = .ok (.iload_n 2, 1) := by decide +kernel
theorem dX10_rule_79 : decode cX10_rule 79 = .ok (.bipush 9, 2) := by decide +kernel
theorem dX10_rule_81 : decode cX10_rule 81 = .ok (.if_icmp .gt 22, 3) := by decide +kernel
theorem dX10_rule_84 : decode cX10_rule 84 = .ok (.aload_n 0, 1) := by decide +kernel
theorem dX10_rule_85 : decode cX10_rule 85 = .ok (.getfield 10, 3) := by decide +kernel
theorem dX10_rule_88 : decode cX10_rule 88 = .ok (.getfield 157, 3) := by decide +kernel
theorem dX10_rule_91 : decode cX10_rule 91 = .ok (.istore_n 3, 1) := by decide +kernel
theorem dX10_rule_92 : decode cX10_rule 92 = .ok (.aload_n 0, 1) := by decide +kernel
theorem dX10_rule_93 : decode cX10_rule 93 = .ok (.getfield 10, 3) := by decide +kernel
theorem dX10_rule_96 : decode cX10_rule 96 = .ok (.iload_n 2, 1) := by decide +kernel
theorem dX10_rule_97 : decode cX10_rule 97 = .ok (.putfield 157, 3) := by decide +kernel
theorem dX10_rule_100 : decode cX10_rule 100 = .ok (.goto 6, 3) := by decide +kernel
theorem dX10_rule_103 : decode cX10_rule 103 = .ok (.ldc 84, 2) := by decide +kernel
theorem dX10_rule_105 : decode cX10_rule 105 = .ok (.istore_n 3, 1) := by decide +kernel
theorem dX10_rule_106 : decode cX10_rule 106 = .ok (.iload_n 3, 1) := by decide +kernel
theorem dX10_rule_107 : decode cX10_rule 107 = .ok (.ireturn, 1) := by decide +kernel
theorem dX10_at_0 : decode cX10_at 0 = .ok (.aload_n 0, 1) := by decide +kernel
theorem dX10_at_1 : decode cX10_at 1 = .ok (.getfield 10, 3) := by decide +kernel
theorem dX10_at_4 : decode cX10_at 4 = .ok (.getfield 85, 3) := by decide +kernel
theorem dX10_at_7 : decode cX10_at 7 = .ok (.iload_n 1, 1) := by decide +kernel
theorem dX10_at_8 : decode cX10_at 8 = .ok (.invokevirtual 99, 3) := by decide +kernel
theorem dX10_at_11 : decode cX10_at 11 = .ok (.ifCond .ne 6, 3) := by decide +kernel
theorem dX10_at_14 : decode cX10_at 14 = .ok (.ldc 84, 2) := by decide +kernel
theorem dX10_at_16 : decode cX10_at 16 = .ok (.ireturn, 1) := by decide +kernel
theorem dX10_at_17 : decode cX10_at 17 = .ok (.aload_n 0, 1) := by decide +kernel
theorem dX10_at_18 : decode cX10_at 18 = .ok (.getfield 10, 3) := by decide +kernel
theorem dX10_at_21 : decode cX10_at 21 = .ok (.getfield 126, 3) := by decide +kernel
theorem dX10_at_24 : decode cX10_at 24 = .ok (.getfield 160, 3) := by decide +kernel
theorem dX10_at_27 : decode cX10_at 27 = .ok (.istore_n 2, 1) := by decide +kernel
theorem dX10_at_28 : decode cX10_at 28 = .ok (.aload_n 0, 1) := by decide +kernel
theorem dX10_at_29 : decode cX10_at 29 = .ok (.getfield 10, 3) := by decide +kernel
theorem dX10_at_32 : decode cX10_at 32 = .ok (.getfield 126, 3) := by decide +kernel
theorem dX10_at_35 : decode cX10_at 35 = .ok (.iload_n 1, 1) := by decide +kernel
theorem dX10_at_36 : decode cX10_at 36 = .ok (.putfield 160, 3) := by decide +kernel
theorem dX10_at_39 : decode cX10_at 39 = .ok (.iload_n 2, 1) := by decide +kernel
theorem dX10_at_40 : decode cX10_at 40 = .ok (.ireturn, 1) := by decide +kernel
theorem dX10_ball_0 : decode cX10_ball 0 = .ok (.iload_n 1, 1) := by decide +kernel
theorem dX10_ball_1 : decode cX10_ball 1 = .ok (.tableswitch 87 0 4 #[35, 46, 54, 65, 76], 35) := by decide +kernel
theorem dX10_ball_36 : decode cX10_ball 36 = .ok (.aload_n 0, 1) := by decide +kernel
theorem dX10_ball_37 : decode cX10_ball 37 = .ok (.getfield 10, 3) := by decide +kernel
theorem dX10_ball_40 : decode cX10_ball 40 = .ok (.getfield 126, 3) := by decide +kernel
theorem dX10_ball_43 : decode cX10_ball 43 = .ok (.getfield 163, 3) := by decide +kernel
theorem dX10_ball_46 : decode cX10_ball 46 = .ok (.ireturn, 1) := by decide +kernel
theorem dX10_ball_47 : decode cX10_ball 47 = .ok (.aload_n 0, 1) := by decide +kernel
theorem dX10_ball_48 : decode cX10_ball 48 = .ok (.getfield 10, 3) := by decide +kernel
theorem dX10_ball_51 : decode cX10_ball 51 = .ok (.invokevirtual 166, 3) := by decide +kernel
theorem dX10_ball_54 : decode cX10_ball 54 = .ok (.ireturn, 1) := by decide +kernel
theorem dX10_ball_55 : decode cX10_ball 55 = .ok (.aload_n 0, 1) := by decide +kernel
theorem dX10_ball_56 : decode cX10_ball 56 = .ok (.getfield 10, 3) := by decide +kernel
theorem dX10_ball_59 : decode cX10_ball 59 = .ok (.getfield 126, 3) := by decide +kernel
theorem dX10_ball_62 : decode cX10_ball 62 = .ok (.getfield 160, 3) := by decide +kernel
theorem dX10_ball_65 : decode cX10_ball 65 = .ok (.ireturn, 1) := by decide +kernel
theorem dX10_ball_66 : decode cX10_ball 66 = .ok (.aload_n 0, 1) := by decide +kernel
theorem dX10_ball_67 : decode cX10_ball 67 = .ok (.getfield 10, 3) := by decide +kernel
theorem dX10_ball_70 : decode cX10_ball 70 = .ok (.getfield 126, 3) := by decide +kernel
theorem dX10_ball_73 : decode cX10_ball 73 = .ok (.getfield 170, 3) := by decide +kernel
theorem dX10_ball_76 : decode cX10_ball 76 = .ok (.ireturn, 1) := by decide +kernel
theorem dX10_ball_77 : decode cX10_ball 77 = .ok (.aload_n 0, 1) := by decide +kernel
theorem dX10_ball_78 : decode cX10_ball 78 = .ok (.getfield 10, 3) := by decide +kernel
theorem dX10_ball_81 : decode cX10_ball 81 = .ok (.getfield 126, 3) := by decide +kernel
theorem dX10_ball_84 : decode cX10_ball 84 = .ok (.getfield 173, 3) := by decide +kernel
theorem dX10_ball_87 : decode cX10_ball 87 = .ok (.ireturn, 1) := by decide +kernel
theorem dX10_ball_88 : decode cX10_ball 88 = .ok (.ldc 84, 2) := by decide +kernel
theorem dX10_ball_90 : decode cX10_ball 90 = .ok (.ireturn, 1) := by decide +kernel
theorem dX10_layer_0 : decode cX10_layer 0 = .ok (.iload_n 1, 1) := by decide +kernel
theorem dX10_layer_1 : decode cX10_layer 1 = .ok (.ifCond .lt 26, 3) := by decide +kernel
theorem dX10_layer_4 : decode cX10_layer 4 = .ok (.iload_n 1, 1) := by decide +kernel
theorem dX10_layer_5 : decode cX10_layer 5 = .ok (.aload_n 0, 1) := by decide +kernel
theorem dX10_layer_6 : decode cX10_layer 6 = .ok (.getfield 10, 3) := by decide +kernel
theorem dX10_layer_9 : decode cX10_layer 9 = .ok (.getfield 126, 3) := by decide +kernel
theorem dX10_layer_12 : decode cX10_layer 12 = .ok (.getfield 170, 3) := by decide +kernel
theorem dX10_layer_15 : decode cX10_layer 15 = .ok (.if_icmp .ge 12, 3) := by decide +kernel
theorem dX10_layer_18 : decode cX10_layer 18 = .ok (.iload_n 2, 1) := by decide +kernel
theorem dX10_layer_19 : decode cX10_layer 19 = .ok (.ifCond .lt 8, 3) := by decide +kernel
theorem dX10_layer_22 : decode cX10_layer 22 = .ok (.iload_n 2, 1) := by decide +kernel
theorem dX10_layer_23 : decode cX10_layer 23 = .ok (.iconst 1, 1) := by decide +kernel
theorem dX10_layer_24 : decode cX10_layer 24 = .ok (.if_icmp .le 6, 3) := by decide +kernel
theorem dX10_layer_27 : decode cX10_layer 27 = .ok (.ldc 84, 2) := by decide +kernel
theorem dX10_layer_29 : decode cX10_layer 29 = .ok (.ireturn, 1) := by decide +kernel
theorem dX10_layer_30 : decode cX10_layer 30 = .ok (.iload_n 2, 1) := by decide +kernel
theorem dX10_layer_31 : decode cX10_layer 31 = .ok (.ifCond .ne 18, 3) := by decide +kernel
theorem dX10_layer_34 : decode cX10_layer 34 = .ok (.aload_n 0, 1) := by decide +kernel
theorem dX10_layer_35 : decode cX10_layer 35 = .ok (.getfield 10, 3) := by decide +kernel
theorem dX10_layer_38 : decode cX10_layer 38 = .ok (.getfield 126, 3) := by decide +kernel
theorem dX10_layer_41 : decode cX10_layer 41 = .ok (.getfield 176, 3) := by decide +kernel
theorem dX10_layer_44 : decode cX10_layer 44 = .ok (.iload_n 1, 1) := by decide +kernel
theorem dX10_layer_45 : decode cX10_layer 45 = .ok (.iaload, 1) := by decide +kernel
theorem dX10_layer_46 : decode cX10_layer 46 = .ok (.goto 15, 3) := by decide +kernel
theorem dX10_layer_49 : decode cX10_layer 49 = .ok (.aload_n 0, 1) := by decide +kernel
theorem dX10_layer_50 : decode cX10_layer 50 = .ok (.getfield 10, 3) := by decide +kernel
theorem dX10_layer_53 : decode cX10_layer 53 = .ok (.getfield 126, 3) := by decide +kernel
theorem dX10_layer_56 : decode cX10_layer 56 = .ok (.getfield 179, 3) := by decide +kernel
theorem dX10_layer_59 : decode cX10_layer 59 = .ok (.iload_n 1, 1) := by decide +kernel
theorem dX10_layer_60 : decode cX10_layer 60 = .ok (.iaload, 1) := by decide +kernel
theorem dX10_layer_61 : decode cX10_layer 61 = .ok (.ireturn, 1) := by decide +kernel
theorem dX10_pack_0 : decode cX10_pack 0 = .ok (.aload_n 0, 1) := by decide +kernel
theorem dX10_pack_1 : decode cX10_pack 1 = .ok (.getfield 10, 3) := by decide +kernel
theorem dX10_pack_4 : decode cX10_pack 4 = .ok (.getfield 85, 3) := by decide +kernel
theorem dX10_pack_7 : decode cX10_pack 7 = .ok (.iload_n 1, 1) := by decide +kernel
theorem dX10_pack_8 : decode cX10_pack 8 = .ok (.invokevirtual 99, 3) := by decide +kernel
theorem dX10_pack_11 : decode cX10_pack 11 = .ok (.ifCond .eq 15, 3) := by decide +kernel
theorem dX10_pack_14 : decode cX10_pack 14 = .ok (.iload_n 2, 1) := by decide +kernel
theorem dX10_pack_15 : decode cX10_pack 15 = .ok (.iconst 1, 1) := by decide +kernel
theorem dX10_pack_16 : decode cX10_pack 16 = .ok (.if_icmp .lt 10, 3) := by decide +kernel
theorem dX10_pack_19 : decode cX10_pack 19 = .ok (.iload_n 2, 1) := by decide +kernel
theorem dX10_pack_20 : decode cX10_pack 20 = .ok (.sipush 999, 3) := by decide +kernel
theorem dX10_pack_23 : decode cX10_pack 23 = .ok (.if_icmp .le 6, 3) := by decide +kernel
theorem dX10_pack_26 : decode cX10_pack 26 = .ok (.ldc 84, 2) := by decide +kernel
theorem dX10_pack_28 : decode cX10_pack 28 = .ok (.ireturn, 1) := by decide +kernel
theorem dX10_pack_29 : decode cX10_pack 29 = .ok (.aload_n 0, 1) := by decide +kernel
theorem dX10_pack_30 : decode cX10_pack 30 = .ok (.getfield 10, 3) := by decide +kernel
theorem dX10_pack_33 : decode cX10_pack 33 = .ok (.getfield 126, 3) := by decide +kernel
theorem dX10_pack_36 : decode cX10_pack 36 = .ok (.iload_n 1, 1) := by decide +kernel
theorem dX10_pack_37 : decode cX10_pack 37 = .ok (.iload_n 2, 1) := by decide +kernel
theorem dX10_pack_38 : decode cX10_pack 38 = .ok (.invokevirtual 182, 3) := by decide +kernel
theorem dX10_pack_41 : decode cX10_pack 41 = .ok (.aload_n 0, 1) := by decide +kernel
theorem dX10_pack_42 : decode cX10_pack 42 = .ok (.getfield 10, 3) := by decide +kernel
theorem dX10_pack_45 : decode cX10_pack 45 = .ok (.getfield 126, 3) := by decide +kernel
theorem dX10_pack_48 : decode cX10_pack 48 = .ok (.getfield 163, 3) := by decide +kernel
theorem dX10_pack_51 : decode cX10_pack 51 = .ok (.ireturn, 1) := by decide +kernel
theorem dX10_lose_0 : decode cX10_lose 0 = .ok (.iload_n 1, 1) := by decide +kernel
theorem dX10_lose_1 : decode cX10_lose 1 = .ok (.invokestatic 186, 3) := by decide +kernel
theorem dX10_lose_4 : decode cX10_lose 4 = .ok (.ifCond .ne 6, 3) := by decide +kernel
theorem dX10_lose_7 : decode cX10_lose 7 = .ok (.ldc 84, 2) := by decide +kernel
theorem dX10_lose_9 : decode cX10_lose 9 = .ok (.ireturn, 1) := by decide +kernel
theorem dX10_lose_10 : decode cX10_lose 10 = .ok (.aload_n 0, 1) := by decide +kernel
theorem dX10_lose_11 : decode cX10_lose 11 = .ok (.getfield 10, 3) := by decide +kernel
theorem dX10_lose_14 : decode cX10_lose 14 = .ok (.getfield 126, 3) := by decide +kernel
theorem dX10_lose_17 : decode cX10_lose 17 = .ok (.getfield 170, 3) := by decide +kernel
theorem dX10_lose_20 : decode cX10_lose 20 = .ok (.ifCond .ne 6, 3) := by decide +kernel
theorem dX10_lose_23 : decode cX10_lose 23 = .ok (.ldc 189, 2) := by decide +kernel
theorem dX10_lose_25 : decode cX10_lose 25 = .ok (.ireturn, 1) := by decide +kernel
theorem dX10_lose_26 : decode cX10_lose 26 = .ok (.aload_n 0, 1) := by decide +kernel
theorem dX10_lose_27 : decode cX10_lose 27 = .ok (.getfield 10, 3) := by decide +kernel
theorem dX10_lose_30 : decode cX10_lose 30 = .ok (.getfield 126, 3) := by decide +kernel
theorem dX10_lose_33 : decode cX10_lose 33 = .ok (.getfield 190, 3) := by decide +kernel
theorem dX10_lose_36 : decode cX10_lose 36 = .ok (.iload_n 1, 1) := by decide +kernel
theorem dX10_lose_37 : decode cX10_lose 37 = .ok (.aload_n 0, 1) := by decide +kernel
theorem dX10_lose_38 : decode cX10_lose 38 = .ok (.getfield 10, 3) := by decide +kernel
theorem dX10_lose_41 : decode cX10_lose 41 = .ok (.getfield 126, 3) := by decide +kernel
theorem dX10_lose_44 : decode cX10_lose 44 = .ok (.getfield 170, 3) := by decide +kernel
theorem dX10_lose_47 : decode cX10_lose 47 = .ok (.iconst 1, 1) := by decide +kernel
theorem dX10_lose_48 : decode cX10_lose 48 = .ok (.isub, 1) := by decide +kernel
theorem dX10_lose_49 : decode cX10_lose 49 = .ok (.iastore, 1) := by decide +kernel
theorem dX10_lose_50 : decode cX10_lose 50 = .ok (.aload_n 0, 1) := by decide +kernel
theorem dX10_lose_51 : decode cX10_lose 51 = .ok (.getfield 10, 3) := by decide +kernel
theorem dX10_lose_54 : decode cX10_lose 54 = .ok (.getfield 126, 3) := by decide +kernel
theorem dX10_lose_57 : decode cX10_lose 57 = .ok (.getfield 170, 3) := by decide +kernel
theorem dX10_lose_60 : decode cX10_lose 60 = .ok (.iconst 1, 1) := by decide +kernel
theorem dX10_lose_61 : decode cX10_lose 61 = .ok (.isub, 1) := by decide +kernel
theorem dX10_lose_62 : decode cX10_lose 62 = .ok (.ireturn, 1) := by decide +kernel
theorem dX10_find_0 : decode cX10_find 0 = .ok (.iload_n 1, 1) := by decide +kernel
theorem dX10_find_1 : decode cX10_find 1 = .ok (.invokestatic 186, 3) := by decide +kernel
theorem dX10_find_4 : decode cX10_find 4 = .ok (.ifCond .ne 6, 3) := by decide +kernel
theorem dX10_find_7 : decode cX10_find 7 = .ok (.ldc 84, 2) := by decide +kernel
theorem dX10_find_9 : decode cX10_find 9 = .ok (.ireturn, 1) := by decide +kernel
theorem dX10_find_10 : decode cX10_find 10 = .ok (.aload_n 0, 1) := by decide +kernel
theorem dX10_find_11 : decode cX10_find 11 = .ok (.getfield 10, 3) := by decide +kernel
theorem dX10_find_14 : decode cX10_find 14 = .ok (.getfield 126, 3) := by decide +kernel
theorem dX10_find_17 : decode cX10_find 17 = .ok (.getfield 190, 3) := by decide +kernel
theorem dX10_find_20 : decode cX10_find 20 = .ok (.iload_n 1, 1) := by decide +kernel
theorem dX10_find_21 : decode cX10_find 21 = .ok (.iaload, 1) := by decide +kernel
theorem dX10_find_22 : decode cX10_find 22 = .ok (.istore_n 2, 1) := by decide +kernel
theorem dX10_find_23 : decode cX10_find 23 = .ok (.aload_n 0, 1) := by decide +kernel
theorem dX10_find_24 : decode cX10_find 24 = .ok (.getfield 10, 3) := by decide +kernel
theorem dX10_find_27 : decode cX10_find 27 = .ok (.getfield 126, 3) := by decide +kernel
theorem dX10_find_30 : decode cX10_find 30 = .ok (.getfield 190, 3) := by decide +kernel
theorem dX10_find_33 : decode cX10_find 33 = .ok (.iload_n 1, 1) := by decide +kernel
theorem dX10_find_34 : decode cX10_find 34 = .ok (.ldc 193, 2) := by decide +kernel
theorem dX10_find_36 : decode cX10_find 36 = .ok (.iastore, 1) := by decide +kernel
theorem dX10_find_37 : decode cX10_find 37 = .ok (.iload_n 2, 1) := by decide +kernel
theorem dX10_find_38 : decode cX10_find 38 = .ok (.ldc 193, 2) := by decide +kernel
theorem dX10_find_40 : decode cX10_find 40 = .ok (.if_icmp .ne 7, 3) := by decide +kernel
theorem dX10_find_43 : decode cX10_find 43 = .ok (.iconst 0, 1) := by decide +kernel
theorem dX10_find_44 : decode cX10_find 44 = .ok (.goto 4, 3) := by decide +kernel
theorem dX10_find_47 : decode cX10_find 47 = .ok (.iconst 1, 1) := by decide +kernel
theorem dX10_find_48 : decode cX10_find 48 = .ok (.ireturn, 1) := by decide +kernel
theorem dX10_thing_0 : decode cX10_thing 0 = .ok (.iload_n 1, 1) := by decide +kernel
theorem dX10_thing_1 : decode cX10_thing 1 = .ok (.invokestatic 186, 3) := by decide +kernel
theorem dX10_thing_4 : decode cX10_thing 4 = .ok (.ifCond .eq 18, 3) := by decide +kernel
theorem dX10_thing_7 : decode cX10_thing 7 = .ok (.aload_n 0, 1) := by decide +kernel
theorem dX10_thing_8 : decode cX10_thing 8 = .ok (.getfield 10, 3) := by decide +kernel
theorem dX10_thing_11 : decode cX10_thing 11 = .ok (.getfield 126, 3) := by decide +kernel
theorem dX10_thing_14 : decode cX10_thing 14 = .ok (.getfield 190, 3) := by decide +kernel
theorem dX10_thing_17 : decode cX10_thing 17 = .ok (.iload_n 1, 1) := by decide +kernel
theorem dX10_thing_18 : decode cX10_thing 18 = .ok (.iaload, 1) := by decide +kernel
theorem dX10_thing_19 : decode cX10_thing 19 = .ok (.goto 5, 3) := by decide +kernel
theorem dX10_thing_22 : decode cX10_thing 22 = .ok (.ldc 84, 2) := by decide +kernel
theorem dX10_thing_24 : decode cX10_thing 24 = .ok (.ireturn, 1) := by decide +kernel
theorem dX10_days_0 : decode cX10_days 0 = .ok (.iload_n 1, 1) := by decide +kernel
theorem dX10_days_1 : decode cX10_days 1 = .ok (.iconst 1, 1) := by decide +kernel
theorem dX10_days_2 : decode cX10_days 2 = .ok (.if_icmp .lt 9, 3) := by decide +kernel
theorem dX10_days_5 : decode cX10_days 5 = .ok (.iload_n 1, 1) := by decide +kernel
theorem dX10_days_6 : decode cX10_days 6 = .ok (.bipush 100, 2) := by decide +kernel
theorem dX10_days_8 : decode cX10_days 8 = .ok (.if_icmp .le 6, 3) := by decide +kernel
theorem dX10_days_11 : decode cX10_days 11 = .ok (.ldc 84, 2) := by decide +kernel
theorem dX10_days_13 : decode cX10_days 13 = .ok (.ireturn, 1) := by decide +kernel
theorem dX10_days_14 : decode cX10_days 14 = .ok (.aload_n 0, 1) := by decide +kernel
theorem dX10_days_15 : decode cX10_days 15 = .ok (.getfield 10, 3) := by decide +kernel
theorem dX10_days_18 : decode cX10_days 18 = .ok (.iload_n 1, 1) := by decide +kernel
theorem dX10_days_19 : decode cX10_days 19 = .ok (.sipush 9999, 3) := by decide +kernel
theorem dX10_days_22 : decode cX10_days 22 = .ok (.aload_n 0, 1) := by decide +kernel
theorem dX10_days_23 : decode cX10_days 23 = .ok (.getfield 10, 3) := by decide +kernel
theorem dX10_days_26 : decode cX10_days 26 = .ok (.getfield 116, 3) := by decide +kernel
theorem dX10_days_29 : decode cX10_days 29 = .ok (.isub, 1) := by decide +kernel
theorem dX10_days_30 : decode cX10_days 30 = .ok (.invokestatic 140, 3) := by decide +kernel
theorem dX10_days_33 : decode cX10_days 33 = .ok (.invokevirtual 194, 3) := by decide +kernel
theorem dX10_days_36 : decode cX10_days 36 = .ok (.ireturn, 1) := by decide +kernel
theorem dX10_behind_0 : decode cX10_behind 0 = .ok (.iload_n 1, 1) := by decide +kernel
theorem dX10_behind_1 : decode cX10_behind 1 = .ok (.ifCond .lt 18, 3) := by decide +kernel
theorem dX10_behind_4 : decode cX10_behind 4 = .ok (.iload_n 1, 1) := by decide +kernel
theorem dX10_behind_5 : decode cX10_behind 5 = .ok (.bipush 100, 2) := by decide +kernel
theorem dX10_behind_7 : decode cX10_behind 7 = .ok (.if_icmp .gt 12, 3) := by decide +kernel
theorem dX10_behind_10 : decode cX10_behind 10 = .ok (.iload_n 2, 1) := by decide +kernel
theorem dX10_behind_11 : decode cX10_behind 11 = .ok (.ifCond .lt 8, 3) := by decide +kernel
theorem dX10_behind_14 : decode cX10_behind 14 = .ok (.iload_n 2, 1) := by decide +kernel
theorem dX10_behind_15 : decode cX10_behind 15 = .ok (.iconst 3, 1) := by decide +kernel
theorem dX10_behind_16 : decode cX10_behind 16 = .ok (.if_icmp .le 6, 3) := by decide +kernel
theorem dX10_behind_19 : decode cX10_behind 19 = .ok (.ldc 84, 2) := by decide +kernel
theorem dX10_behind_21 : decode cX10_behind 21 = .ok (.ireturn, 1) := by decide +kernel
theorem dX10_behind_22 : decode cX10_behind 22 = .ok (.aload_n 0, 1) := by decide +kernel
theorem dX10_behind_23 : decode cX10_behind 23 = .ok (.getfield 26, 3) := by decide +kernel
theorem dX10_behind_26 : decode cX10_behind 26 = .ok (.aload_n 0, 1) := by decide +kernel
theorem dX10_behind_27 : decode cX10_behind 27 = .ok (.getfield 10, 3) := by decide +kernel
theorem dX10_behind_30 : decode cX10_behind 30 = .ok (.invokevirtual 197, 3) := by decide +kernel
theorem dX10_behind_33 : decode cX10_behind 33 = .ok (.astore_n 3, 1) := by decide +kernel
theorem dX10_behind_34 : decode cX10_behind 34 = .ok (.aload_n 3, 1) := by decide +kernel
theorem dX10_behind_35 : decode cX10_behind 35 = .ok (.iload_n 1, 1) := by decide +kernel
theorem dX10_behind_36 : decode cX10_behind 36 = .ok (.invokevirtual 194, 3) := by decide +kernel
theorem dX10_behind_39 : decode cX10_behind 39 = .ok (.pop, 1) := by decide +kernel
theorem dX10_behind_40 : decode cX10_behind 40 = .ok (.iload_n 2, 1) := by decide +kernel
theorem dX10_behind_41 : decode cX10_behind 41 = .ok (.tableswitch 51 0 2 #[27, 35, 43], 27) := by decide +kernel
theorem dX10_behind_68 : decode cX10_behind 68 = .ok (.aload_n 3, 1) := by decide +kernel
theorem dX10_behind_69 : decode cX10_behind 69 = .ok (.getfield 126, 3) := by decide +kernel
theorem dX10_behind_72 : decode cX10_behind 72 = .ok (.getfield 163, 3) := by decide +kernel
theorem dX10_behind_75 : decode cX10_behind 75 = .ok (.ireturn, 1) := by decide +kernel
theorem dX10_behind_76 : decode cX10_behind 76 = .ok (.aload_n 3, 1) := by decide +kernel
theorem dX10_behind_77 : decode cX10_behind 77 = .ok (.getfield 126, 3) := by decide +kernel
theorem dX10_behind_80 : decode cX10_behind 80 = .ok (.getfield 160, 3) := by decide +kernel
theorem dX10_behind_83 : decode cX10_behind 83 = .ok (.ireturn, 1) := by decide +kernel
theorem dX10_behind_84 : decode cX10_behind 84 = .ok (.aload_n 3, 1) := by decide +kernel
theorem dX10_behind_85 : decode cX10_behind 85 = .ok (.getfield 85, 3) := by decide +kernel
theorem dX10_behind_88 : decode cX10_behind 88 = .ok (.invokevirtual 201, 3) := by decide +kernel
theorem dX10_behind_91 : decode cX10_behind 91 = .ok (.ireturn, 1) := by decide +kernel
theorem dX10_behind_92 : decode cX10_behind 92 = .ok (.aload_n 3, 1) := by decide +kernel
theorem dX10_behind_93 : decode cX10_behind 93 = .ok (.getfield 126, 3) := by decide +kernel
theorem dX10_behind_96 : decode cX10_behind 96 = .ok (.getfield 170, 3) := by decide +kernel
theorem dX10_behind_99 : decode cX10_behind 99 = .ok (.ireturn, 1) := by decide +kernel
theorem dX10_gone_0 : decode cX10_gone 0 = .ok (.aload_n 0, 1) := by decide +kernel
theorem dX10_gone_1 : decode cX10_gone 1 = .ok (.getfield 26, 3) := by decide +kernel
theorem dX10_gone_4 : decode cX10_gone 4 = .ok (.aload_n 0, 1) := by decide +kernel
theorem dX10_gone_5 : decode cX10_gone 5 = .ok (.getfield 10, 3) := by decide +kernel
theorem dX10_gone_8 : decode cX10_gone 8 = .ok (.invokevirtual 197, 3) := by decide +kernel
theorem dX10_gone_11 : decode cX10_gone 11 = .ok (.astore_n 1, 1) := by decide +kernel
theorem dX10_gone_12 : decode cX10_gone 12 = .ok (.iconst 0, 1) := by decide +kernel
theorem dX10_gone_13 : decode cX10_gone 13 = .ok (.istore_n 2, 1) := by decide +kernel
theorem dX10_gone_14 : decode cX10_gone 14 = .ok (.iload_n 2, 1) := by decide +kernel
theorem dX10_gone_15 : decode cX10_gone 15 = .ok (.sipush 300, 3) := by decide +kernel
theorem dX10_gone_18 : decode cX10_gone 18 = .ok (.if_icmp .ge 26, 3) := by decide +kernel
theorem dX10_gone_21 : decode cX10_gone 21 = .ok (.aload_n 1, 1) := by decide +kernel
theorem dX10_gone_22 : decode cX10_gone 22 = .ok (.getfield 126, 3) := by decide +kernel
theorem dX10_gone_25 : decode cX10_gone 25 = .ok (.getfield 163, 3) := by decide +kernel
theorem dX10_gone_28 : decode cX10_gone 28 = .ok (.ifCond .ne 5, 3) := by decide +kernel
theorem dX10_gone_31 : decode cX10_gone 31 = .ok (.iload_n 2, 1) := by decide +kernel
theorem dX10_gone_32 : decode cX10_gone 32 = .ok (.ireturn, 1) := by decide +kernel
theorem dX10_gone_33 : decode cX10_gone 33 = .ok (.aload_n 1, 1) := by decide +kernel
theorem dX10_gone_34 : decode cX10_gone 34 = .ok (.invokevirtual 204, 3) := by decide +kernel
theorem dX10_gone_37 : decode cX10_gone 37 = .ok (.pop, 1) := by decide +kernel
theorem dX10_gone_38 : decode cX10_gone 38 = .ok (.iinc 2 1, 3) := by decide +kernel
theorem dX10_gone_41 : decode cX10_gone 41 = .ok (.goto (-27), 3) := by decide +kernel
theorem dX10_gone_44 : decode cX10_gone 44 = .ok (.aload_n 1, 1) := by decide +kernel
theorem dX10_gone_45 : decode cX10_gone 45 = .ok (.getfield 126, 3) := by decide +kernel
theorem dX10_gone_48 : decode cX10_gone 48 = .ok (.getfield 163, 3) := by decide +kernel
theorem dX10_gone_51 : decode cX10_gone 51 = .ok (.ifCond .ne 9, 3) := by decide +kernel
theorem dX10_gone_54 : decode cX10_gone 54 = .ok (.sipush 300, 3) := by decide +kernel
theorem dX10_gone_57 : decode cX10_gone 57 = .ok (.goto 5, 3) := by decide +kernel
theorem dX10_gone_60 : decode cX10_gone 60 = .ok (.ldc 193, 2) := by decide +kernel
theorem dX10_gone_62 : decode cX10_gone 62 = .ok (.ireturn, 1) := by decide +kernel
theorem dX10_way_0 : decode cX10_way 0 = .ok (.iload_n 1, 1) := by decide +kernel
theorem dX10_way_1 : decode cX10_way 1 = .ok (.iconst 1, 1) := by decide +kernel
theorem dX10_way_2 : decode cX10_way 2 = .ok (.if_icmp .lt 17, 3) := by decide +kernel
theorem dX10_way_5 : decode cX10_way 5 = .ok (.iload_n 1, 1) := by decide +kernel
theorem dX10_way_6 : decode cX10_way 6 = .ok (.iconst 5, 1) := by decide +kernel
theorem dX10_way_7 : decode cX10_way 7 = .ok (.if_icmp .gt 12, 3) := by decide +kernel
theorem dX10_way_10 : decode cX10_way 10 = .ok (.iload_n 2, 1) := by decide +kernel
theorem dX10_way_11 : decode cX10_way 11 = .ok (.ifCond .lt 8, 3) := by decide +kernel
theorem dX10_way_14 : decode cX10_way 14 = .ok (.iload_n 2, 1) := by decide +kernel
theorem dX10_way_15 : decode cX10_way 15 = .ok (.iconst 2, 1) := by decide +kernel
theorem dX10_way_16 : decode cX10_way 16 = .ok (.if_icmp .le 6, 3) := by decide +kernel
theorem dX10_way_19 : decode cX10_way 19 = .ok (.ldc 84, 2) := by decide +kernel
theorem dX10_way_21 : decode cX10_way 21 = .ok (.ireturn, 1) := by decide +kernel
theorem dX10_way_22 : decode cX10_way 22 = .ok (.aload_n 0, 1) := by decide +kernel
theorem dX10_way_23 : decode cX10_way 23 = .ok (.getfield 10, 3) := by decide +kernel
theorem dX10_way_26 : decode cX10_way 26 = .ok (.getfield 85, 3) := by decide +kernel
theorem dX10_way_29 : decode cX10_way 29 = .ok (.getfield 89, 3) := by decide +kernel
theorem dX10_way_32 : decode cX10_way 32 = .ok (.ifCond .ne 6, 3) := by decide +kernel
theorem dX10_way_35 : decode cX10_way 35 = .ok (.ldc 193, 2) := by decide +kernel
theorem dX10_way_37 : decode cX10_way 37 = .ok (.ireturn, 1) := by decide +kernel
theorem dX10_way_38 : decode cX10_way 38 = .ok (.aload_n 0, 1) := by decide +kernel
theorem dX10_way_39 : decode cX10_way 39 = .ok (.getfield 26, 3) := by decide +kernel
theorem dX10_way_42 : decode cX10_way 42 = .ok (.aload_n 0, 1) := by decide +kernel
theorem dX10_way_43 : decode cX10_way 43 = .ok (.getfield 10, 3) := by decide +kernel
theorem dX10_way_46 : decode cX10_way 46 = .ok (.iload_n 1, 1) := by decide +kernel
theorem dX10_way_47 : decode cX10_way 47 = .ok (.invokevirtual 207, 3) := by decide +kernel
theorem dX10_way_50 : decode cX10_way 50 = .ok (.iload_n 2, 1) := by decide +kernel
theorem dX10_way_51 : decode cX10_way 51 = .ok (.lookupswitch 41 #[(0, 25), (1, 33)], 25) := by decide +kernel
theorem dX10_way_76 : decode cX10_way 76 = .ok (.aload_n 0, 1) := by decide +kernel
theorem dX10_way_77 : decode cX10_way 77 = .ok (.getfield 26, 3) := by decide +kernel
theorem dX10_way_80 : decode cX10_way 80 = .ok (.getfield 211, 3) := by decide +kernel
theorem dX10_way_83 : decode cX10_way 83 = .ok (.ireturn, 1) := by decide +kernel
theorem dX10_way_84 : decode cX10_way 84 = .ok (.aload_n 0, 1) := by decide +kernel
theorem dX10_way_85 : decode cX10_way 85 = .ok (.getfield 26, 3) := by decide +kernel
theorem dX10_way_88 : decode cX10_way 88 = .ok (.getfield 214, 3) := by decide +kernel
theorem dX10_way_91 : decode cX10_way 91 = .ok (.ireturn, 1) := by decide +kernel
theorem dX10_way_92 : decode cX10_way 92 = .ok (.aload_n 0, 1) := by decide +kernel
theorem dX10_way_93 : decode cX10_way 93 = .ok (.getfield 26, 3) := by decide +kernel
theorem dX10_way_96 : decode cX10_way 96 = .ok (.getfield 217, 3) := by decide +kernel
theorem dX10_way_99 : decode cX10_way 99 = .ok (.ireturn, 1) := by decide +kernel
theorem dX10_most_0 : decode cX10_most 0 = .ok (.aload_n 0, 1) := by decide +kernel
theorem dX10_most_1 : decode cX10_most 1 = .ok (.getfield 10, 3) := by decide +kernel
theorem dX10_most_4 : decode cX10_most 4 = .ok (.getfield 126, 3) := by decide +kernel
theorem dX10_most_7 : decode cX10_most 7 = .ok (.getfield 170, 3) := by decide +kernel
theorem dX10_most_10 : decode cX10_most 10 = .ok (.ifCond .ne 6, 3) := by decide +kernel
theorem dX10_most_13 : decode cX10_most 13 = .ok (.ldc 193, 2) := by decide +kernel
theorem dX10_most_15 : decode cX10_most 15 = .ok (.ireturn, 1) := by decide +kernel
theorem dX10_most_16 : decode cX10_most 16 = .ok (.iconst 0, 1) := by decide +kernel
theorem dX10_most_17 : decode cX10_most 17 = .ok (.istore_n 1, 1) := by decide +kernel
theorem dX10_most_18 : decode cX10_most 18 = .ok (.iconst 1, 1) := by decide +kernel
theorem dX10_most_19 : decode cX10_most 19 = .ok (.istore_n 2, 1) := by decide +kernel
theorem dX10_most_20 : decode cX10_most 20 = .ok (.iload_n 2, 1) := by decide +kernel
theorem dX10_most_21 : decode cX10_most 21 = .ok (.aload_n 0, 1) := by decide +kernel
theorem dX10_most_22 : decode cX10_most 22 = .ok (.getfield 10, 3) := by decide +kernel
theorem dX10_most_25 : decode cX10_most 25 = .ok (.getfield 85, 3) := by decide +kernel
theorem dX10_most_28 : decode cX10_most 28 = .ok (.getfield 89, 3) := by decide +kernel
theorem dX10_most_31 : decode cX10_most 31 = .ok (.if_icmp .ge 36, 3) := by decide +kernel
theorem dX10_most_34 : decode cX10_most 34 = .ok (.aload_n 0, 1) := by decide +kernel
theorem dX10_most_35 : decode cX10_most 35 = .ok (.getfield 10, 3) := by decide +kernel
theorem dX10_most_38 : decode cX10_most 38 = .ok (.getfield 126, 3) := by decide +kernel
theorem dX10_most_41 : decode cX10_most 41 = .ok (.iload_n 2, 1) := by decide +kernel
theorem dX10_most_42 : decode cX10_most 42 = .ok (.invokevirtual 130, 3) := by decide +kernel
theorem dX10_most_45 : decode cX10_most 45 = .ok (.aload_n 0, 1) := by decide +kernel
theorem dX10_most_46 : decode cX10_most 46 = .ok (.getfield 10, 3) := by decide +kernel
theorem dX10_most_49 : decode cX10_most 49 = .ok (.getfield 126, 3) := by decide +kernel
theorem dX10_most_52 : decode cX10_most 52 = .ok (.iload_n 1, 1) := by decide +kernel
theorem dX10_most_53 : decode cX10_most 53 = .ok (.invokevirtual 130, 3) := by decide +kernel
theorem dX10_most_56 : decode cX10_most 56 = .ok (.if_icmp .le 5, 3) := by decide +kernel
theorem dX10_most_59 : decode cX10_most 59 = .ok (.iload_n 2, 1) := by decide +kernel
theorem dX10_most_60 : decode cX10_most 60 = .ok (.istore_n 1, 1) := by decide +kernel
theorem dX10_most_61 : decode cX10_most 61 = .ok (.iinc 2 1, 3) := by decide +kernel
theorem dX10_most_64 : decode cX10_most 64 = .ok (.goto (-44), 3) := by decide +kernel
theorem dX10_most_67 : decode cX10_most 67 = .ok (.iload_n 1, 1) := by decide +kernel
theorem dX10_most_68 : decode cX10_most 68 = .ok (.ireturn, 1) := by decide +kernel
theorem dX10_warmed_0 : decode cX10_warmed 0 = .ok (.iload_n 1, 1) := by decide +kernel
theorem dX10_warmed_1 : decode cX10_warmed 1 = .ok (.invokestatic 220, 3) := by decide +kernel
theorem dX10_warmed_4 : decode cX10_warmed 4 = .ok (.ifCond .eq 12, 3) := by decide +kernel
theorem dX10_warmed_7 : decode cX10_warmed 7 = .ok (.iload_n 2, 1) := by decide +kernel
theorem dX10_warmed_8 : decode cX10_warmed 8 = .ok (.ifCond .lt 8, 3) := by decide +kernel
theorem dX10_warmed_11 : decode cX10_warmed 11 = .ok (.iload_n 2, 1) := by decide +kernel
theorem dX10_warmed_12 : decode cX10_warmed 12 = .ok (.iconst 1, 1) := by decide +kernel
theorem dX10_warmed_13 : decode cX10_warmed 13 = .ok (.if_icmp .le 6, 3) := by decide +kernel
theorem dX10_warmed_16 : decode cX10_warmed 16 = .ok (.ldc 84, 2) := by decide +kernel
theorem dX10_warmed_18 : decode cX10_warmed 18 = .ok (.ireturn, 1) := by decide +kernel
theorem dX10_warmed_19 : decode cX10_warmed 19 = .ok (.aload_n 0, 1) := by decide +kernel
theorem dX10_warmed_20 : decode cX10_warmed 20 = .ok (.getfield 52, 3) := by decide +kernel
theorem dX10_warmed_23 : decode cX10_warmed 23 = .ok (.iload_n 1, 1) := by decide +kernel
theorem dX10_warmed_24 : decode cX10_warmed 24 = .ok (.aaload, 1) := by decide +kernel
theorem dX10_warmed_25 : decode cX10_warmed 25 = .ok (.getfield 223, 3) := by decide +kernel
theorem dX10_warmed_28 : decode cX10_warmed 28 = .ok (.iconst (-1), 1) := by decide +kernel
theorem dX10_warmed_29 : decode cX10_warmed 29 = .ok (.if_icmp .ne 6, 3) := by decide +kernel
theorem dX10_warmed_32 : decode cX10_warmed 32 = .ok (.ldc 226, 2) := by decide +kernel
theorem dX10_warmed_34 : decode cX10_warmed 34 = .ok (.ireturn, 1) := by decide +kernel
theorem dX10_warmed_35 : decode cX10_warmed 35 = .ok (.iconst 0, 1) := by decide +kernel
theorem dX10_warmed_36 : decode cX10_warmed 36 = .ok (.istore_n 3, 1) := by decide +kernel
theorem dX10_warmed_37 : decode cX10_warmed 37 = .ok (.aload_n 0, 1) := by decide +kernel
theorem dX10_warmed_38 : decode cX10_warmed 38 = .ok (.aload_n 0, 1) := by decide +kernel
theorem dX10_warmed_39 : decode cX10_warmed 39 = .ok (.getfield 52, 3) := by decide +kernel
theorem dX10_warmed_42 : decode cX10_warmed 42 = .ok (.iload_n 1, 1) := by decide +kernel
theorem dX10_warmed_43 : decode cX10_warmed 43 = .ok (.aaload, 1) := by decide +kernel
theorem dX10_warmed_44 : decode cX10_warmed 44 = .ok (.iconst 0, 1) := by decide +kernel
theorem dX10_warmed_45 : decode cX10_warmed 45 = .ok (.invokevirtual 227, 3) := by decide +kernel
theorem dX10_warmed_48 : decode cX10_warmed 48 = .ok (.istore 4, 2) := by decide +kernel
theorem dX10_warmed_50 : decode cX10_warmed 50 = .ok (.iconst 1, 1) := by decide +kernel
theorem dX10_warmed_51 : decode cX10_warmed 51 = .ok (.istore 5, 2) := by decide +kernel
theorem dX10_warmed_53 : decode cX10_warmed 53 = .ok (.iload 5, 2) := by decide +kernel
theorem dX10_warmed_55 : decode cX10_warmed 55 = .ok (.bipush 20, 2) := by decide +kernel
theorem dX10_warmed_57 : decode cX10_warmed 57 = .ok (.if_icmp .gt 37, 3) := by decide +kernel
theorem dX10_warmed_60 : decode cX10_warmed 60 = .ok (.aload_n 0, 1) := by decide +kernel
theorem dX10_warmed_61 : decode cX10_warmed 61 = .ok (.aload_n 0, 1) := by decide +kernel
theorem dX10_warmed_62 : decode cX10_warmed 62 = .ok (.getfield 52, 3) := by decide +kernel
theorem dX10_warmed_65 : decode cX10_warmed 65 = .ok (.iload_n 1, 1) := by decide +kernel
theorem dX10_warmed_66 : decode cX10_warmed 66 = .ok (.aaload, 1) := by decide +kernel
theorem dX10_warmed_67 : decode cX10_warmed 67 = .ok (.iload 5, 2) := by decide +kernel
theorem dX10_warmed_69 : decode cX10_warmed 69 = .ok (.invokevirtual 227, 3) := by decide +kernel
theorem dX10_warmed_72 : decode cX10_warmed 72 = .ok (.istore 6, 2) := by decide +kernel
theorem dX10_warmed_74 : decode cX10_warmed 74 = .ok (.iload 6, 2) := by decide +kernel
theorem dX10_warmed_76 : decode cX10_warmed 76 = .ok (.iload 4, 2) := by decide +kernel
theorem dX10_warmed_78 : decode cX10_warmed 78 = .ok (.if_icmp .ge 10, 3) := by decide +kernel
theorem dX10_warmed_81 : decode cX10_warmed 81 = .ok (.iload 5, 2) := by decide +kernel
theorem dX10_warmed_83 : decode cX10_warmed 83 = .ok (.istore_n 3, 1) := by decide +kernel
theorem dX10_warmed_84 : decode cX10_warmed 84 = .ok (.iload 6, 2) := by decide +kernel
theorem dX10_warmed_86 : decode cX10_warmed 86 = .ok (.istore 4, 2) := by decide +kernel
theorem dX10_warmed_88 : decode cX10_warmed 88 = .ok (.iinc 5 1, 3) := by decide +kernel
theorem dX10_warmed_91 : decode cX10_warmed 91 = .ok (.goto (-38), 3) := by decide +kernel
theorem dX10_warmed_94 : decode cX10_warmed 94 = .ok (.iload_n 2, 1) := by decide +kernel
theorem dX10_warmed_95 : decode cX10_warmed 95 = .ok (.ifCond .ne 7, 3) := by decide +kernel
theorem dX10_warmed_98 : decode cX10_warmed 98 = .ok (.iload_n 3, 1) := by decide +kernel
theorem dX10_warmed_99 : decode cX10_warmed 99 = .ok (.goto 5, 3) := by decide +kernel
theorem dX10_warmed_102 : decode cX10_warmed 102 = .ok (.iload 4, 2) := by decide +kernel
theorem dX10_warmed_104 : decode cX10_warmed 104 = .ok (.ireturn, 1) := by decide +kernel
theorem dX10_fine_0 : decode cX10_fine 0 = .ok (.aload_n 0, 1) := by decide +kernel
theorem dX10_fine_1 : decode cX10_fine 1 = .ok (.getfield 10, 3) := by decide +kernel
theorem dX10_fine_4 : decode cX10_fine 4 = .ok (.getfield 85, 3) := by decide +kernel
theorem dX10_fine_7 : decode cX10_fine 7 = .ok (.iload_n 1, 1) := by decide +kernel
theorem dX10_fine_8 : decode cX10_fine 8 = .ok (.invokevirtual 99, 3) := by decide +kernel
theorem dX10_fine_11 : decode cX10_fine 11 = .ok (.ifCond .eq 14, 3) := by decide +kernel
theorem dX10_fine_14 : decode cX10_fine 14 = .ok (.aload_n 0, 1) := by decide +kernel
theorem dX10_fine_15 : decode cX10_fine 15 = .ok (.getfield 10, 3) := by decide +kernel
theorem dX10_fine_18 : decode cX10_fine 18 = .ok (.iload_n 1, 1) := by decide +kernel
theorem dX10_fine_19 : decode cX10_fine 19 = .ok (.invokevirtual 231, 3) := by decide +kernel
theorem dX10_fine_22 : decode cX10_fine 22 = .ok (.goto 5, 3) := by decide +kernel
theorem dX10_fine_25 : decode cX10_fine 25 = .ok (.ldc 84, 2) := by decide +kernel
theorem dX10_fine_27 : decode cX10_fine 27 = .ok (.ireturn, 1) := by decide +kernel
theorem dX10_feed_0 : decode cX10_feed 0 = .ok (.aload_n 0, 1) := by decide +kernel
theorem dX10_feed_1 : decode cX10_feed 1 = .ok (.getfield 33, 3) := by decide +kernel
theorem dX10_feed_4 : decode cX10_feed 4 = .ok (.getfield 234, 3) := by decide +kernel
theorem dX10_feed_7 : decode cX10_feed 7 = .ok (.bipush 12, 2) := by decide +kernel
theorem dX10_feed_9 : decode cX10_feed 9 = .ok (.iadd, 1) := by decide +kernel
theorem dX10_feed_10 : decode cX10_feed 10 = .ok (.bipush 96, 2) := by decide +kernel
theorem dX10_feed_12 : decode cX10_feed 12 = .ok (.if_icmp .le 6, 3) := by decide +kernel
theorem dX10_feed_15 : decode cX10_feed 15 = .ok (.ldc 94, 2) := by decide +kernel
theorem dX10_feed_17 : decode cX10_feed 17 = .ok (.ireturn, 1) := by decide +kernel
theorem dX10_feed_18 : decode cX10_feed 18 = .ok (.aload_n 0, 1) := by decide +kernel
theorem dX10_feed_19 : decode cX10_feed 19 = .ok (.getfield 33, 3) := by decide +kernel
theorem dX10_feed_22 : decode cX10_feed 22 = .ok (.iload_n 1, 1) := by decide +kernel
theorem dX10_feed_23 : decode cX10_feed 23 = .ok (.invokevirtual 237, 3) := by decide +kernel
theorem dX10_feed_26 : decode cX10_feed 26 = .ok (.aload_n 0, 1) := by decide +kernel
theorem dX10_feed_27 : decode cX10_feed 27 = .ok (.getfield 33, 3) := by decide +kernel
theorem dX10_feed_30 : decode cX10_feed 30 = .ok (.iload_n 2, 1) := by decide +kernel
theorem dX10_feed_31 : decode cX10_feed 31 = .ok (.invokevirtual 237, 3) := by decide +kernel
theorem dX10_feed_34 : decode cX10_feed 34 = .ok (.aload_n 0, 1) := by decide +kernel
theorem dX10_feed_35 : decode cX10_feed 35 = .ok (.getfield 33, 3) := by decide +kernel
theorem dX10_feed_38 : decode cX10_feed 38 = .ok (.iload_n 3, 1) := by decide +kernel
theorem dX10_feed_39 : decode cX10_feed 39 = .ok (.invokevirtual 237, 3) := by decide +kernel
theorem dX10_feed_42 : decode cX10_feed 42 = .ok (.aload_n 0, 1) := by decide +kernel
theorem dX10_feed_43 : decode cX10_feed 43 = .ok (.getfield 33, 3) := by decide +kernel
theorem dX10_feed_46 : decode cX10_feed 46 = .ok (.getfield 234, 3) := by decide +kernel
theorem dX10_feed_49 : decode cX10_feed 49 = .ok (.ireturn, 1) := by decide +kernel
theorem dX10_trim_0 : decode cX10_trim 0 = .ok (.iload_n 1, 1) := by decide +kernel
theorem dX10_trim_1 : decode cX10_trim 1 = .ok (.ifCond .lt 14, 3) := by decide +kernel
theorem dX10_trim_4 : decode cX10_trim 4 = .ok (.iload_n 1, 1) := by decide +kernel
theorem dX10_trim_5 : decode cX10_trim 5 = .ok (.aload_n 0, 1) := by decide +kernel
theorem dX10_trim_6 : decode cX10_trim 6 = .ok (.getfield 33, 3) := by decide +kernel
theorem dX10_trim_9 : decode cX10_trim 9 = .ok (.getfield 234, 3) := by decide +kernel
theorem dX10_trim_12 : decode cX10_trim 12 = .ok (.if_icmp .le 6, 3) := by decide +kernel
theorem dX10_trim_15 : decode cX10_trim 15 = .ok (.ldc 84, 2) := by decide +kernel
theorem dX10_trim_17 : decode cX10_trim 17 = .ok (.ireturn, 1) := by decide +kernel
theorem dX10_trim_18 : decode cX10_trim 18 = .ok (.aload_n 0, 1) := by decide +kernel
theorem dX10_trim_19 : decode cX10_trim 19 = .ok (.getfield 33, 3) := by decide +kernel
theorem dX10_trim_22 : decode cX10_trim 22 = .ok (.iload_n 1, 1) := by decide +kernel
theorem dX10_trim_23 : decode cX10_trim 23 = .ok (.putfield 234, 3) := by decide +kernel
theorem dX10_trim_26 : decode cX10_trim 26 = .ok (.iload_n 1, 1) := by decide +kernel
theorem dX10_trim_27 : decode cX10_trim 27 = .ok (.ireturn, 1) := by decide +kernel
theorem dX10_text_0 : decode cX10_text 0 = .ok (.aload_n 0, 1) := by decide +kernel
theorem dX10_text_1 : decode cX10_text 1 = .ok (.getfield 40, 3) := by decide +kernel
theorem dX10_text_4 : decode cX10_text 4 = .ok (.aload_n 0, 1) := by decide +kernel
theorem dX10_text_5 : decode cX10_text 5 = .ok (.getfield 33, 3) := by decide +kernel
theorem dX10_text_8 : decode cX10_text 8 = .ok (.invokevirtual 241, 3) := by decide +kernel
theorem dX10_text_11 : decode cX10_text 11 = .ok (.istore_n 1, 1) := by decide +kernel
theorem dX10_text_12 : decode cX10_text 12 = .ok (.aload_n 0, 1) := by decide +kernel
theorem dX10_text_13 : decode cX10_text 13 = .ok (.getfield 33, 3) := by decide +kernel
theorem dX10_text_16 : decode cX10_text 16 = .ok (.iconst 0, 1) := by decide +kernel
theorem dX10_text_17 : decode cX10_text 17 = .ok (.putfield 234, 3) := by decide +kernel
theorem dX10_text_20 : decode cX10_text 20 = .ok (.iload_n 1, 1) := by decide +kernel
theorem dX10_text_21 : decode cX10_text 21 = .ok (.ifCond .lt 8, 3) := by decide +kernel
theorem dX10_text_24 : decode cX10_text 24 = .ok (.bipush (-100), 2) := by decide +kernel
theorem dX10_text_26 : decode cX10_text 26 = .ok (.iload_n 1, 1) := by decide +kernel
theorem dX10_text_27 : decode cX10_text 27 = .ok (.isub, 1) := by decide +kernel
theorem dX10_text_28 : decode cX10_text 28 = .ok (.ireturn, 1) := by decide +kernel
theorem dX10_text_29 : decode cX10_text 29 = .ok (.aload_n 0, 1) := by decide +kernel
theorem dX10_text_30 : decode cX10_text 30 = .ok (.getfield 10, 3) := by decide +kernel
theorem dX10_text_33 : decode cX10_text 33 = .ok (.getfield 245, 3) := by decide +kernel
theorem dX10_text_36 : decode cX10_text 36 = .ok (.bipush 14, 2) := by decide +kernel
theorem dX10_text_38 : decode cX10_text 38 = .ok (.if_icmp .lt 6, 3) := by decide +kernel
theorem dX10_text_41 : decode cX10_text 41 = .ok (.ldc 94, 2) := by decide +kernel
theorem dX10_text_43 : decode cX10_text 43 = .ok (.ireturn, 1) := by decide +kernel
theorem dX10_text_44 : decode cX10_text 44 = .ok (.aload_n 0, 1) := by decide +kernel
theorem dX10_text_45 : decode cX10_text 45 = .ok (.getfield 10, 3) := by decide +kernel
theorem dX10_text_48 : decode cX10_text 48 = .ok (.getfield 245, 3) := by decide +kernel
theorem dX10_text_51 : decode cX10_text 51 = .ok (.istore_n 2, 1) := by decide +kernel
theorem dX10_text_52 : decode cX10_text 52 = .ok (.aload_n 0, 1) := by decide +kernel
theorem dX10_text_53 : decode cX10_text 53 = .ok (.getfield 46, 3) := by decide +kernel
theorem dX10_text_56 : decode cX10_text 56 = .ok (.iload_n 2, 1) := by decide +kernel
theorem dX10_text_57 : decode cX10_text 57 = .ok (.aload_n 0, 1) := by decide +kernel
theorem dX10_text_58 : decode cX10_text 58 = .ok (.getfield 40, 3) := by decide +kernel
theorem dX10_text_61 : decode cX10_text 61 = .ok (.iload_n 2, 1) := by decide +kernel
theorem dX10_text_62 : decode cX10_text 62 = .ok (.invokevirtual 248, 3) := by decide +kernel
theorem dX10_text_65 : decode cX10_text 65 = .ok (.aastore, 1) := by decide +kernel
theorem dX10_text_66 : decode cX10_text 66 = .ok (.aload_n 0, 1) := by decide +kernel
theorem dX10_text_67 : decode cX10_text 67 = .ok (.getfield 10, 3) := by decide +kernel
theorem dX10_text_70 : decode cX10_text 70 = .ok (.aload_n 0, 1) := by decide +kernel
theorem dX10_text_71 : decode cX10_text 71 = .ok (.getfield 46, 3) := by decide +kernel
theorem dX10_text_74 : decode cX10_text 74 = .ok (.iload_n 2, 1) := by decide +kernel
theorem dX10_text_75 : decode cX10_text 75 = .ok (.aaload, 1) := by decide +kernel
theorem dX10_text_76 : decode cX10_text 76 = .ok (.invokevirtual 252, 3) := by decide +kernel
theorem dX10_text_79 : decode cX10_text 79 = .ok (.iload_n 2, 1) := by decide +kernel
theorem dX10_text_80 : decode cX10_text 80 = .ok (.ireturn, 1) := by decide +kernel
theorem dX10_textTold_0 : decode cX10_textTold 0 = .ok (.iload_n 1, 1) := by decide +kernel
theorem dX10_textTold_1 : decode cX10_textTold 1 = .ok (.ifCond .lt 23, 3) := by decide +kernel
theorem dX10_textTold_4 : decode cX10_textTold 4 = .ok (.iload_n 1, 1) := by decide +kernel
theorem dX10_textTold_5 : decode cX10_textTold 5 = .ok (.aload_n 0, 1) := by decide +kernel
theorem dX10_textTold_6 : decode cX10_textTold 6 = .ok (.getfield 10, 3) := by decide +kernel
theorem dX10_textTold_9 : decode cX10_textTold 9 = .ok (.getfield 245, 3) := by decide +kernel
theorem dX10_textTold_12 : decode cX10_textTold 12 = .ok (.if_icmp .ge 12, 3) := by decide +kernel
theorem dX10_textTold_15 : decode cX10_textTold 15 = .ok (.iload_n 2, 1) := by decide +kernel
theorem dX10_textTold_16 : decode cX10_textTold 16 = .ok (.ifCond .lt 8, 3) := by decide +kernel
theorem dX10_textTold_19 : decode cX10_textTold 19 = .ok (.iload_n 2, 1) := by decide +kernel
theorem dX10_textTold_20 : decode cX10_textTold 20 = .ok (.iconst 1, 1) := by decide +kernel
theorem dX10_textTold_21 : decode cX10_textTold 21 = .ok (.if_icmp .le 6, 3) := by decide +kernel
theorem dX10_textTold_24 : decode cX10_textTold 24 = .ok (.ldc 84, 2) := by decide +kernel
theorem dX10_textTold_26 : decode cX10_textTold 26 = .ok (.ireturn, 1) := by decide +kernel
theorem dX10_textTold_27 : decode cX10_textTold 27 = .ok (.aload_n 0, 1) := by decide +kernel
theorem dX10_textTold_28 : decode cX10_textTold 28 = .ok (.getfield 46, 3) := by decide +kernel
theorem dX10_textTold_31 : decode cX10_textTold 31 = .ok (.iload_n 1, 1) := by decide +kernel
theorem dX10_textTold_32 : decode cX10_textTold 32 = .ok (.aaload, 1) := by decide +kernel
theorem dX10_textTold_33 : decode cX10_textTold 33 = .ok (.astore_n 3, 1) := by decide +kernel
theorem dX10_textTold_34 : decode cX10_textTold 34 = .ok (.aload_n 3, 1) := by decide +kernel
theorem dX10_textTold_35 : decode cX10_textTold 35 = .ok (.ifnonnull 6, 3) := by decide +kernel
theorem dX10_textTold_38 : decode cX10_textTold 38 = .ok (.ldc 84, 2) := by decide +kernel
theorem dX10_textTold_40 : decode cX10_textTold 40 = .ok (.ireturn, 1) := by decide +kernel
theorem dX10_textTold_41 : decode cX10_textTold 41 = .ok (.iload_n 2, 1) := by decide +kernel
theorem dX10_textTold_42 : decode cX10_textTold 42 = .ok (.ifCond .ne 10, 3) := by decide +kernel
theorem dX10_textTold_45 : decode cX10_textTold 45 = .ok (.aload_n 3, 1) := by decide +kernel
theorem dX10_textTold_46 : decode cX10_textTold 46 = .ok (.getfield 256, 3) := by decide +kernel
theorem dX10_textTold_49 : decode cX10_textTold 49 = .ok (.goto 7, 3) := by decide +kernel
theorem dX10_textTold_52 : decode cX10_textTold 52 = .ok (.aload_n 3, 1) := by decide +kernel
theorem dX10_textTold_53 : decode cX10_textTold 53 = .ok (.getfield 259, 3) := by decide +kernel
theorem dX10_textTold_56 : decode cX10_textTold 56 = .ok (.ireturn, 1) := by decide +kernel
theorem dX10_why_0 : decode cX10_why 0 = .ok (.iload_n 1, 1) := by decide +kernel
theorem dX10_why_1 : decode cX10_why 1 = .ok (.ifCond .lt 8, 3) := by decide +kernel
theorem dX10_why_4 : decode cX10_why 4 = .ok (.iload_n 1, 1) := by decide +kernel
theorem dX10_why_5 : decode cX10_why 5 = .ok (.iconst 3, 1) := by decide +kernel
theorem dX10_why_6 : decode cX10_why 6 = .ok (.if_icmp .lt 6, 3) := by decide +kernel
theorem dX10_why_9 : decode cX10_why 9 = .ok (.ldc 84, 2) := by decide +kernel
theorem dX10_why_11 : decode cX10_why 11 = .ok (.ireturn, 1) := by decide +kernel
theorem dX10_why_12 : decode cX10_why 12 = .ok (.aload_n 0, 1) := by decide +kernel
theorem dX10_why_13 : decode cX10_why 13 = .ok (.getfield 10, 3) := by decide +kernel
theorem dX10_why_16 : decode cX10_why 16 = .ok (.getfield 262, 3) := by decide +kernel
theorem dX10_why_19 : decode cX10_why 19 = .ok (.iload_n 1, 1) := by decide +kernel
theorem dX10_why_20 : decode cX10_why 20 = .ok (.aaload, 1) := by decide +kernel
theorem dX10_why_21 : decode cX10_why 21 = .ok (.astore_n 2, 1) := by decide +kernel
theorem dX10_why_22 : decode cX10_why 22 = .ok (.aload_n 2, 1) := by decide +kernel
theorem dX10_why_23 : decode cX10_why 23 = .ok (.ifnonnull 8, 3) := by decide +kernel
theorem dX10_why_26 : decode cX10_why 26 = .ok (.ldc 193, 2) := by decide +kernel
theorem dX10_why_28 : decode cX10_why 28 = .ok (.goto 7, 3) := by decide +kernel
theorem dX10_why_31 : decode cX10_why 31 = .ok (.aload_n 2, 1) := by decide +kernel
theorem dX10_why_32 : decode cX10_why 32 = .ok (.getfield 265, 3) := by decide +kernel
theorem dX10_why_35 : decode cX10_why 35 = .ok (.ireturn, 1) := by decide +kernel
theorem dX10_sheet_0 : decode cX10_sheet 0 = .ok (.iload_n 1, 1) := by decide +kernel
theorem dX10_sheet_1 : decode cX10_sheet 1 = .ok (.invokestatic 220, 3) := by decide +kernel
theorem dX10_sheet_4 : decode cX10_sheet 4 = .ok (.ifCond .eq 13, 3) := by decide +kernel
theorem dX10_sheet_7 : decode cX10_sheet 7 = .ok (.iload_n 2, 1) := by decide +kernel
theorem dX10_sheet_8 : decode cX10_sheet 8 = .ok (.iconst (-1), 1) := by decide +kernel
theorem dX10_sheet_9 : decode cX10_sheet 9 = .ok (.if_icmp .lt 8, 3) := by decide +kernel
theorem dX10_sheet_12 : decode cX10_sheet 12 = .ok (.iload_n 2, 1) := by decide +kernel
theorem dX10_sheet_13 : decode cX10_sheet 13 = .ok (.iconst 1, 1) := by decide +kernel
theorem dX10_sheet_14 : decode cX10_sheet 14 = .ok (.if_icmp .le 6, 3) := by decide +kernel
theorem dX10_sheet_17 : decode cX10_sheet 17 = .ok (.ldc 84, 2) := by decide +kernel
theorem dX10_sheet_19 : decode cX10_sheet 19 = .ok (.ireturn, 1) := by decide +kernel
theorem dX10_sheet_20 : decode cX10_sheet 20 = .ok (.iload_n 2, 1) := by decide +kernel
theorem dX10_sheet_21 : decode cX10_sheet 21 = .ok (.iconst (-1), 1) := by decide +kernel
theorem dX10_sheet_22 : decode cX10_sheet 22 = .ok (.if_icmp .ne 16, 3) := by decide +kernel
theorem dX10_sheet_25 : decode cX10_sheet 25 = .ok (.aload_n 0, 1) := by decide +kernel
theorem dX10_sheet_26 : decode cX10_sheet 26 = .ok (.getfield 52, 3) := by decide +kernel
theorem dX10_sheet_29 : decode cX10_sheet 29 = .ok (.iload_n 1, 1) := by decide +kernel
theorem dX10_sheet_30 : decode cX10_sheet 30 = .ok (.aaload, 1) := by decide +kernel
theorem dX10_sheet_31 : decode cX10_sheet 31 = .ok (.iconst (-1), 1) := by decide +kernel
theorem dX10_sheet_32 : decode cX10_sheet 32 = .ok (.iconst 0, 1) := by decide +kernel
theorem dX10_sheet_33 : decode cX10_sheet 33 = .ok (.invokevirtual 268, 3) := by decide +kernel
theorem dX10_sheet_36 : decode cX10_sheet 36 = .ok (.iconst 0, 1) := by decide +kernel
theorem dX10_sheet_37 : decode cX10_sheet 37 = .ok (.ireturn, 1) := by decide +kernel
theorem dX10_sheet_38 : decode cX10_sheet 38 = .ok (.iload_n 3, 1) := by decide +kernel
theorem dX10_sheet_39 : decode cX10_sheet 39 = .ok (.bipush 24, 2) := by decide +kernel
theorem dX10_sheet_41 : decode cX10_sheet 41 = .ok (.if_icmp .le 6, 3) := by decide +kernel
theorem dX10_sheet_44 : decode cX10_sheet 44 = .ok (.ldc 84, 2) := by decide +kernel
theorem dX10_sheet_46 : decode cX10_sheet 46 = .ok (.ireturn, 1) := by decide +kernel
theorem dX10_sheet_47 : decode cX10_sheet 47 = .ok (.iload_n 3, 1) := by decide +kernel
theorem dX10_sheet_48 : decode cX10_sheet 48 = .ok (.ifCond .ge 7, 3) := by decide +kernel
theorem dX10_sheet_51 : decode cX10_sheet 51 = .ok (.ldc_w 271, 3) := by decide +kernel
theorem dX10_sheet_54 : decode cX10_sheet 54 = .ok (.ireturn, 1) := by decide +kernel
theorem dX10_sheet_55 : decode cX10_sheet 55 = .ok (.aload_n 0, 1) := by decide +kernel
theorem dX10_sheet_56 : decode cX10_sheet 56 = .ok (.getfield 52, 3) := by decide +kernel
theorem dX10_sheet_59 : decode cX10_sheet 59 = .ok (.iload_n 1, 1) := by decide +kernel
theorem dX10_sheet_60 : decode cX10_sheet 60 = .ok (.aaload, 1) := by decide +kernel
theorem dX10_sheet_61 : decode cX10_sheet 61 = .ok (.iload_n 2, 1) := by decide +kernel
theorem dX10_sheet_62 : decode cX10_sheet 62 = .ok (.iload_n 3, 1) := by decide +kernel
theorem dX10_sheet_63 : decode cX10_sheet 63 = .ok (.invokevirtual 268, 3) := by decide +kernel
theorem dX10_sheet_66 : decode cX10_sheet 66 = .ok (.iload_n 3, 1) := by decide +kernel
theorem dX10_sheet_67 : decode cX10_sheet 67 = .ok (.ireturn, 1) := by decide +kernel
theorem dX10_mark_0 : decode cX10_mark 0 = .ok (.iload_n 1, 1) := by decide +kernel
theorem dX10_mark_1 : decode cX10_mark 1 = .ok (.invokestatic 220, 3) := by decide +kernel
theorem dX10_mark_4 : decode cX10_mark 4 = .ok (.ifCond .ne 6, 3) := by decide +kernel
theorem dX10_mark_7 : decode cX10_mark 7 = .ok (.ldc 84, 2) := by decide +kernel
theorem dX10_mark_9 : decode cX10_mark 9 = .ok (.ireturn, 1) := by decide +kernel
theorem dX10_mark_10 : decode cX10_mark 10 = .ok (.aload_n 0, 1) := by decide +kernel
theorem dX10_mark_11 : decode cX10_mark 11 = .ok (.getfield 52, 3) := by decide +kernel
theorem dX10_mark_14 : decode cX10_mark 14 = .ok (.iload_n 1, 1) := by decide +kernel
theorem dX10_mark_15 : decode cX10_mark 15 = .ok (.aaload, 1) := by decide +kernel
theorem dX10_mark_16 : decode cX10_mark 16 = .ok (.astore 4, 2) := by decide +kernel
theorem dX10_mark_18 : decode cX10_mark 18 = .ok (.aload 4, 2) := by decide +kernel
theorem dX10_mark_20 : decode cX10_mark 20 = .ok (.getfield 223, 3) := by decide +kernel
theorem dX10_mark_23 : decode cX10_mark 23 = .ok (.iconst (-1), 1) := by decide +kernel
theorem dX10_mark_24 : decode cX10_mark 24 = .ok (.if_icmp .ne 6, 3) := by decide +kernel
theorem dX10_mark_27 : decode cX10_mark 27 = .ok (.ldc 226, 2) := by decide +kernel
theorem dX10_mark_29 : decode cX10_mark 29 = .ok (.ireturn, 1) := by decide +kernel
theorem dX10_mark_30 : decode cX10_mark 30 = .ok (.aload 4, 2) := by decide +kernel
theorem dX10_mark_32 : decode cX10_mark 32 = .ok (.iload_n 2, 1) := by decide +kernel
theorem dX10_mark_33 : decode cX10_mark 33 = .ok (.invokevirtual 272, 3) := by decide +kernel
theorem dX10_mark_36 : decode cX10_mark 36 = .ok (.ifCond .ne 7, 3) := by decide +kernel
theorem dX10_mark_39 : decode cX10_mark 39 = .ok (.ldc_w 273, 3) := by decide +kernel
theorem dX10_mark_42 : decode cX10_mark 42 = .ok (.ireturn, 1) := by decide +kernel
theorem dX10_mark_43 : decode cX10_mark 43 = .ok (.aload 4, 2) := by decide +kernel
theorem dX10_mark_45 : decode cX10_mark 45 = .ok (.getfield 223, 3) := by decide +kernel
theorem dX10_mark_48 : decode cX10_mark 48 = .ok (.ifCond .ne 23, 3) := by decide +kernel
theorem dX10_mark_51 : decode cX10_mark 51 = .ok (.iload_n 3, 1) := by decide +kernel
theorem dX10_mark_52 : decode cX10_mark 52 = .ok (.ldc 193, 2) := by decide +kernel
theorem dX10_mark_54 : decode cX10_mark 54 = .ok (.if_icmp .ne 6, 3) := by decide +kernel
theorem dX10_mark_57 : decode cX10_mark 57 = .ok (.ldc 139, 2) := by decide +kernel
theorem dX10_mark_59 : decode cX10_mark 59 = .ok (.ireturn, 1) := by decide +kernel
theorem dX10_mark_60 : decode cX10_mark 60 = .ok (.aload 4, 2) := by decide +kernel
theorem dX10_mark_62 : decode cX10_mark 62 = .ok (.getfield 274, 3) := by decide +kernel
theorem dX10_mark_65 : decode cX10_mark 65 = .ok (.iload_n 2, 1) := by decide +kernel
theorem dX10_mark_66 : decode cX10_mark 66 = .ok (.iload_n 3, 1) := by decide +kernel
theorem dX10_mark_67 : decode cX10_mark 67 = .ok (.i2s, 1) := by decide +kernel
theorem dX10_mark_68 : decode cX10_mark 68 = .ok (.iastore, 1) := by decide +kernel
theorem dX10_mark_69 : decode cX10_mark 69 = .ok (.iconst 1, 1) := by decide +kernel
theorem dX10_mark_70 : decode cX10_mark 70 = .ok (.ireturn, 1) := by decide +kernel
theorem dX10_mark_71 : decode cX10_mark 71 = .ok (.iload_n 3, 1) := by decide +kernel
theorem dX10_mark_72 : decode cX10_mark 72 = .ok (.ldc 193, 2) := by decide +kernel
theorem dX10_mark_74 : decode cX10_mark 74 = .ok (.if_icmp .eq 20, 3) := by decide +kernel
theorem dX10_mark_77 : decode cX10_mark 77 = .ok (.iload_n 3, 1) := by decide +kernel
theorem dX10_mark_78 : decode cX10_mark 78 = .ok (.ldc_w 277, 3) := by decide +kernel
theorem dX10_mark_81 : decode cX10_mark 81 = .ok (.if_icmp .lt 10, 3) := by decide +kernel
theorem dX10_mark_84 : decode cX10_mark 84 = .ok (.iload_n 3, 1) := by decide +kernel
theorem dX10_mark_85 : decode cX10_mark 85 = .ok (.ldc_w 278, 3) := by decide +kernel
theorem dX10_mark_88 : decode cX10_mark 88 = .ok (.if_icmp .le 6, 3) := by decide +kernel
theorem dX10_mark_91 : decode cX10_mark 91 = .ok (.ldc 84, 2) := by decide +kernel
theorem dX10_mark_93 : decode cX10_mark 93 = .ok (.ireturn, 1) := by decide +kernel
theorem dX10_mark_94 : decode cX10_mark 94 = .ok (.aload 4, 2) := by decide +kernel
theorem dX10_mark_96 : decode cX10_mark 96 = .ok (.getfield 274, 3) := by decide +kernel
theorem dX10_mark_99 : decode cX10_mark 99 = .ok (.iload_n 2, 1) := by decide +kernel
theorem dX10_mark_100 : decode cX10_mark 100 = .ok (.iload_n 3, 1) := by decide +kernel
theorem dX10_mark_101 : decode cX10_mark 101 = .ok (.iastore, 1) := by decide +kernel
theorem dX10_mark_102 : decode cX10_mark 102 = .ok (.iconst 1, 1) := by decide +kernel
theorem dX10_mark_103 : decode cX10_mark 103 = .ok (.ireturn, 1) := by decide +kernel
theorem dX10_pour_0 : decode cX10_pour 0 = .ok (.iload_n 1, 1) := by decide +kernel
theorem dX10_pour_1 : decode cX10_pour 1 = .ok (.invokestatic 220, 3) := by decide +kernel
theorem dX10_pour_4 : decode cX10_pour 4 = .ok (.ifCond .ne 6, 3) := by decide +kernel
theorem dX10_pour_7 : decode cX10_pour 7 = .ok (.ldc 84, 2) := by decide +kernel
theorem dX10_pour_9 : decode cX10_pour 9 = .ok (.ireturn, 1) := by decide +kernel
theorem dX10_pour_10 : decode cX10_pour 10 = .ok (.aload_n 0, 1) := by decide +kernel
theorem dX10_pour_11 : decode cX10_pour 11 = .ok (.getfield 52, 3) := by decide +kernel
theorem dX10_pour_14 : decode cX10_pour 14 = .ok (.iload_n 1, 1) := by decide +kernel
theorem dX10_pour_15 : decode cX10_pour 15 = .ok (.aaload, 1) := by decide +kernel
theorem dX10_pour_16 : decode cX10_pour 16 = .ok (.astore_n 2, 1) := by decide +kernel
theorem dX10_pour_17 : decode cX10_pour 17 = .ok (.aload_n 2, 1) := by decide +kernel
theorem dX10_pour_18 : decode cX10_pour 18 = .ok (.getfield 223, 3) := by decide +kernel
theorem dX10_pour_21 : decode cX10_pour 21 = .ok (.iconst (-1), 1) := by decide +kernel
theorem dX10_pour_22 : decode cX10_pour 22 = .ok (.if_icmp .ne 6, 3) := by decide +kernel
theorem dX10_pour_25 : decode cX10_pour 25 = .ok (.ldc 226, 2) := by decide +kernel
theorem dX10_pour_27 : decode cX10_pour 27 = .ok (.ireturn, 1) := by decide +kernel
theorem dX10_pour_28 : decode cX10_pour 28 = .ok (.iconst 0, 1) := by decide +kernel
theorem dX10_pour_29 : decode cX10_pour 29 = .ok (.istore_n 3, 1) := by decide +kernel
theorem dX10_pour_30 : decode cX10_pour 30 = .ok (.iconst 0, 1) := by decide +kernel
theorem dX10_pour_31 : decode cX10_pour 31 = .ok (.istore 4, 2) := by decide +kernel
theorem dX10_pour_33 : decode cX10_pour 33 = .ok (.iload 4, 2) := by decide +kernel
theorem dX10_pour_35 : decode cX10_pour 35 = .ok (.aload_n 2, 1) := by decide +kernel
theorem dX10_pour_36 : decode cX10_pour 36 = .ok (.getfield 279, 3) := by decide +kernel
theorem dX10_pour_39 : decode cX10_pour 39 = .ok (.if_icmp .ge 87, 3) := by decide +kernel
theorem dX10_pour_42 : decode cX10_pour 42 = .ok (.iload 4, 2) := by decide +kernel
theorem dX10_pour_44 : decode cX10_pour 44 = .ok (.aload_n 0, 1) := by decide +kernel
theorem dX10_pour_45 : decode cX10_pour 45 = .ok (.getfield 10, 3) := by decide +kernel
theorem dX10_pour_48 : decode cX10_pour 48 = .ok (.getfield 85, 3) := by decide +kernel
theorem dX10_pour_51 : decode cX10_pour 51 = .ok (.getfield 89, 3) := by decide +kernel
theorem dX10_pour_54 : decode cX10_pour 54 = .ok (.if_icmp .ge 72, 3) := by decide +kernel
theorem dX10_pour_57 : decode cX10_pour 57 = .ok (.aload_n 2, 1) := by decide +kernel
theorem dX10_pour_58 : decode cX10_pour 58 = .ok (.getfield 274, 3) := by decide +kernel
theorem dX10_pour_61 : decode cX10_pour 61 = .ok (.iload 4, 2) := by decide +kernel
theorem dX10_pour_63 : decode cX10_pour 63 = .ok (.iaload, 1) := by decide +kernel
theorem dX10_pour_64 : decode cX10_pour 64 = .ok (.sipush 999, 3) := by decide +kernel
theorem dX10_pour_67 : decode cX10_pour 67 = .ok (.invokestatic 282, 3) := by decide +kernel
theorem dX10_pour_70 : decode cX10_pour 70 = .ok (.istore 5, 2) := by decide +kernel
theorem dX10_pour_72 : decode cX10_pour 72 = .ok (.aload_n 2, 1) := by decide +kernel
theorem dX10_pour_73 : decode cX10_pour 73 = .ok (.getfield 274, 3) := by decide +kernel
theorem dX10_pour_76 : decode cX10_pour 76 = .ok (.iload 4, 2) := by decide +kernel
theorem dX10_pour_78 : decode cX10_pour 78 = .ok (.iaload, 1) := by decide +kernel
theorem dX10_pour_79 : decode cX10_pour 79 = .ok (.ldc 193, 2) := by decide +kernel
theorem dX10_pour_81 : decode cX10_pour 81 = .ok (.if_icmp .eq 39, 3) := by decide +kernel
theorem dX10_pour_84 : decode cX10_pour 84 = .ok (.iload 5, 2) := by decide +kernel
theorem dX10_pour_86 : decode cX10_pour 86 = .ok (.aload_n 0, 1) := by decide +kernel
theorem dX10_pour_87 : decode cX10_pour 87 = .ok (.getfield 10, 3) := by decide +kernel
theorem dX10_pour_90 : decode cX10_pour 90 = .ok (.getfield 85, 3) := by decide +kernel
theorem dX10_pour_93 : decode cX10_pour 93 = .ok (.getfield 103, 3) := by decide +kernel
theorem dX10_pour_96 : decode cX10_pour 96 = .ok (.iload 4, 2) := by decide +kernel
theorem dX10_pour_98 : decode cX10_pour 98 = .ok (.iaload, 1) := by decide +kernel
theorem dX10_pour_99 : decode cX10_pour 99 = .ok (.if_icmp .eq 21, 3) := by decide +kernel
theorem dX10_pour_102 : decode cX10_pour 102 = .ok (.aload_n 0, 1) := by decide +kernel
theorem dX10_pour_103 : decode cX10_pour 103 = .ok (.getfield 10, 3) := by decide +kernel
theorem dX10_pour_106 : decode cX10_pour 106 = .ok (.getfield 85, 3) := by decide +kernel
theorem dX10_pour_109 : decode cX10_pour 109 = .ok (.getfield 103, 3) := by decide +kernel
theorem dX10_pour_112 : decode cX10_pour 112 = .ok (.iload 4, 2) := by decide +kernel
theorem dX10_pour_114 : decode cX10_pour 114 = .ok (.iload 5, 2) := by decide +kernel
theorem dX10_pour_116 : decode cX10_pour 116 = .ok (.iastore, 1) := by decide +kernel
theorem dX10_pour_117 : decode cX10_pour 117 = .ok (.iinc 3 1, 3) := by decide +kernel
theorem dX10_pour_120 : decode cX10_pour 120 = .ok (.iinc 4 1, 3) := by decide +kernel
theorem dX10_pour_123 : decode cX10_pour 123 = .ok (.goto (-90), 3) := by decide +kernel
theorem dX10_pour_126 : decode cX10_pour 126 = .ok (.iload_n 3, 1) := by decide +kernel
theorem dX10_pour_127 : decode cX10_pour 127 = .ok (.ireturn, 1) := by decide +kernel
theorem dX10_reads_0 : decode cX10_reads 0 = .ok (.iload_n 1, 1) := by decide +kernel
theorem dX10_reads_1 : decode cX10_reads 1 = .ok (.invokestatic 220, 3) := by decide +kernel
theorem dX10_reads_4 : decode cX10_reads 4 = .ok (.ifCond .ne 6, 3) := by decide +kernel
theorem dX10_reads_7 : decode cX10_reads 7 = .ok (.ldc 84, 2) := by decide +kernel
theorem dX10_reads_9 : decode cX10_reads 9 = .ok (.ireturn, 1) := by decide +kernel
theorem dX10_reads_10 : decode cX10_reads 10 = .ok (.aload_n 0, 1) := by decide +kernel
theorem dX10_reads_11 : decode cX10_reads 11 = .ok (.getfield 52, 3) := by decide +kernel
theorem dX10_reads_14 : decode cX10_reads 14 = .ok (.iload_n 1, 1) := by decide +kernel
theorem dX10_reads_15 : decode cX10_reads 15 = .ok (.aaload, 1) := by decide +kernel
theorem dX10_reads_16 : decode cX10_reads 16 = .ok (.astore_n 2, 1) := by decide +kernel
theorem dX10_reads_17 : decode cX10_reads 17 = .ok (.aload_n 2, 1) := by decide +kernel
theorem dX10_reads_18 : decode cX10_reads 18 = .ok (.getfield 223, 3) := by decide +kernel
theorem dX10_reads_21 : decode cX10_reads 21 = .ok (.iconst (-1), 1) := by decide +kernel
theorem dX10_reads_22 : decode cX10_reads 22 = .ok (.if_icmp .ne 6, 3) := by decide +kernel
theorem dX10_reads_25 : decode cX10_reads 25 = .ok (.ldc 226, 2) := by decide +kernel
theorem dX10_reads_27 : decode cX10_reads 27 = .ok (.ireturn, 1) := by decide +kernel
theorem dX10_reads_28 : decode cX10_reads 28 = .ok (.iconst 0, 1) := by decide +kernel
theorem dX10_reads_29 : decode cX10_reads 29 = .ok (.istore_n 3, 1) := by decide +kernel
theorem dX10_reads_30 : decode cX10_reads 30 = .ok (.iload_n 3, 1) := by decide +kernel
theorem dX10_reads_31 : decode cX10_reads 31 = .ok (.aload_n 2, 1) := by decide +kernel
theorem dX10_reads_32 : decode cX10_reads 32 = .ok (.getfield 279, 3) := by decide +kernel
theorem dX10_reads_35 : decode cX10_reads 35 = .ok (.if_icmp .ge 69, 3) := by decide +kernel
theorem dX10_reads_38 : decode cX10_reads 38 = .ok (.iload_n 3, 1) := by decide +kernel
theorem dX10_reads_39 : decode cX10_reads 39 = .ok (.aload_n 0, 1) := by decide +kernel
theorem dX10_reads_40 : decode cX10_reads 40 = .ok (.getfield 10, 3) := by decide +kernel
theorem dX10_reads_43 : decode cX10_reads 43 = .ok (.getfield 126, 3) := by decide +kernel
theorem dX10_reads_46 : decode cX10_reads 46 = .ok (.getfield 170, 3) := by decide +kernel
theorem dX10_reads_49 : decode cX10_reads 49 = .ok (.if_icmp .ge 28, 3) := by decide +kernel
theorem dX10_reads_52 : decode cX10_reads 52 = .ok (.aload_n 2, 1) := by decide +kernel
theorem dX10_reads_53 : decode cX10_reads 53 = .ok (.getfield 274, 3) := by decide +kernel
theorem dX10_reads_56 : decode cX10_reads 56 = .ok (.iload_n 3, 1) := by decide +kernel
theorem dX10_reads_57 : decode cX10_reads 57 = .ok (.iaload, 1) := by decide +kernel
theorem dX10_reads_58 : decode cX10_reads 58 = .ok (.aload_n 0, 1) := by decide +kernel
theorem dX10_reads_59 : decode cX10_reads 59 = .ok (.getfield 10, 3) := by decide +kernel
theorem dX10_reads_62 : decode cX10_reads 62 = .ok (.getfield 126, 3) := by decide +kernel
theorem dX10_reads_65 : decode cX10_reads 65 = .ok (.getfield 179, 3) := by decide +kernel
theorem dX10_reads_68 : decode cX10_reads 68 = .ok (.iload_n 3, 1) := by decide +kernel
theorem dX10_reads_69 : decode cX10_reads 69 = .ok (.iaload, 1) := by decide +kernel
theorem dX10_reads_70 : decode cX10_reads 70 = .ok (.if_icmp .ne 7, 3) := by decide +kernel
theorem dX10_reads_73 : decode cX10_reads 73 = .ok (.iconst 1, 1) := by decide +kernel
theorem dX10_reads_74 : decode cX10_reads 74 = .ok (.goto 4, 3) := by decide +kernel
theorem dX10_reads_77 : decode cX10_reads 77 = .ok (.iconst 0, 1) := by decide +kernel
theorem dX10_reads_78 : decode cX10_reads 78 = .ok (.istore 4, 2) := by decide +kernel
theorem dX10_reads_80 : decode cX10_reads 80 = .ok (.aload_n 2, 1) := by decide +kernel
theorem dX10_reads_81 : decode cX10_reads 81 = .ok (.getfield 274, 3) := by decide +kernel
theorem dX10_reads_84 : decode cX10_reads 84 = .ok (.iload_n 3, 1) := by decide +kernel
theorem dX10_reads_85 : decode cX10_reads 85 = .ok (.iaload, 1) := by decide +kernel
theorem dX10_reads_86 : decode cX10_reads 86 = .ok (.ldc 193, 2) := by decide +kernel
theorem dX10_reads_88 : decode cX10_reads 88 = .ok (.if_icmp .eq 10, 3) := by decide +kernel
theorem dX10_reads_91 : decode cX10_reads 91 = .ok (.iload 4, 2) := by decide +kernel
theorem dX10_reads_93 : decode cX10_reads 93 = .ok (.ifCond .ne 5, 3) := by decide +kernel
theorem dX10_reads_96 : decode cX10_reads 96 = .ok (.iload_n 3, 1) := by decide +kernel
theorem dX10_reads_97 : decode cX10_reads 97 = .ok (.ireturn, 1) := by decide +kernel
theorem dX10_reads_98 : decode cX10_reads 98 = .ok (.iinc 3 1, 3) := by decide +kernel
theorem dX10_reads_101 : decode cX10_reads 101 = .ok (.goto (-71), 3) := by decide +kernel
theorem dX10_reads_104 : decode cX10_reads 104 = .ok (.ldc 193, 2) := by decide +kernel
theorem dX10_reads_106 : decode cX10_reads 106 = .ok (.ireturn, 1) := by decide +kernel
theorem dX10_copy_0 : decode cX10_copy 0 = .ok (.iload_n 1, 1) := by decide +kernel
theorem dX10_copy_1 : decode cX10_copy 1 = .ok (.invokestatic 220, 3) := by decide +kernel
theorem dX10_copy_4 : decode cX10_copy 4 = .ok (.ifCond .eq 10, 3) := by decide +kernel
theorem dX10_copy_7 : decode cX10_copy 7 = .ok (.iload_n 3, 1) := by decide +kernel
theorem dX10_copy_8 : decode cX10_copy 8 = .ok (.invokestatic 220, 3) := by decide +kernel
theorem dX10_copy_11 : decode cX10_copy 11 = .ok (.ifCond .ne 6, 3) := by decide +kernel
theorem dX10_copy_14 : decode cX10_copy 14 = .ok (.ldc 84, 2) := by decide +kernel
theorem dX10_copy_16 : decode cX10_copy 16 = .ok (.ireturn, 1) := by decide +kernel
theorem dX10_copy_17 : decode cX10_copy 17 = .ok (.aload_n 0, 1) := by decide +kernel
theorem dX10_copy_18 : decode cX10_copy 18 = .ok (.getfield 52, 3) := by decide +kernel
theorem dX10_copy_21 : decode cX10_copy 21 = .ok (.iload_n 1, 1) := by decide +kernel
theorem dX10_copy_22 : decode cX10_copy 22 = .ok (.aaload, 1) := by decide +kernel
theorem dX10_copy_23 : decode cX10_copy 23 = .ok (.astore 6, 2) := by decide +kernel
theorem dX10_copy_25 : decode cX10_copy 25 = .ok (.aload_n 0, 1) := by decide +kernel
theorem dX10_copy_26 : decode cX10_copy 26 = .ok (.getfield 52, 3) := by decide +kernel
theorem dX10_copy_29 : decode cX10_copy 29 = .ok (.iload_n 3, 1) := by decide +kernel
theorem dX10_copy_30 : decode cX10_copy 30 = .ok (.aaload, 1) := by decide +kernel
theorem dX10_copy_31 : decode cX10_copy 31 = .ok (.astore 7, 2) := by decide +kernel
theorem dX10_copy_33 : decode cX10_copy 33 = .ok (.aload 6, 2) := by decide +kernel
theorem dX10_copy_35 : decode cX10_copy 35 = .ok (.getfield 223, 3) := by decide +kernel
theorem dX10_copy_38 : decode cX10_copy 38 = .ok (.iconst (-1), 1) := by decide +kernel
theorem dX10_copy_39 : decode cX10_copy 39 = .ok (.if_icmp .eq 12, 3) := by decide +kernel
theorem dX10_copy_42 : decode cX10_copy 42 = .ok (.aload 7, 2) := by decide +kernel
theorem dX10_copy_44 : decode cX10_copy 44 = .ok (.getfield 223, 3) := by decide +kernel
theorem dX10_copy_47 : decode cX10_copy 47 = .ok (.iconst (-1), 1) := by decide +kernel
theorem dX10_copy_48 : decode cX10_copy 48 = .ok (.if_icmp .ne 6, 3) := by decide +kernel
theorem dX10_copy_51 : decode cX10_copy 51 = .ok (.ldc 226, 2) := by decide +kernel
theorem dX10_copy_53 : decode cX10_copy 53 = .ok (.ireturn, 1) := by decide +kernel
theorem dX10_copy_54 : decode cX10_copy 54 = .ok (.aload 6, 2) := by decide +kernel
theorem dX10_copy_56 : decode cX10_copy 56 = .ok (.getfield 223, 3) := by decide +kernel
theorem dX10_copy_59 : decode cX10_copy 59 = .ok (.aload 7, 2) := by decide +kernel
theorem dX10_copy_61 : decode cX10_copy 61 = .ok (.getfield 223, 3) := by decide +kernel
theorem dX10_copy_64 : decode cX10_copy 64 = .ok (.if_icmp .eq 6, 3) := by decide +kernel
theorem dX10_copy_67 : decode cX10_copy 67 = .ok (.ldc 139, 2) := by decide +kernel
theorem dX10_copy_69 : decode cX10_copy 69 = .ok (.ireturn, 1) := by decide +kernel
theorem dX10_copy_70 : decode cX10_copy 70 = .ok (.aload 6, 2) := by decide +kernel
theorem dX10_copy_72 : decode cX10_copy 72 = .ok (.iload_n 2, 1) := by decide +kernel
theorem dX10_copy_73 : decode cX10_copy 73 = .ok (.iload 5, 2) := by decide +kernel
theorem dX10_copy_75 : decode cX10_copy 75 = .ok (.invokevirtual 285, 3) := by decide +kernel
theorem dX10_copy_78 : decode cX10_copy 78 = .ok (.ifCond .eq 15, 3) := by decide +kernel
theorem dX10_copy_81 : decode cX10_copy 81 = .ok (.aload 7, 2) := by decide +kernel
theorem dX10_copy_83 : decode cX10_copy 83 = .ok (.iload 4, 2) := by decide +kernel
theorem dX10_copy_85 : decode cX10_copy 85 = .ok (.iload 5, 2) := by decide +kernel
theorem dX10_copy_87 : decode cX10_copy 87 = .ok (.invokevirtual 285, 3) := by decide +kernel
theorem dX10_copy_90 : decode cX10_copy 90 = .ok (.ifCond .ne 7, 3) := by decide +kernel
theorem dX10_copy_93 : decode cX10_copy 93 = .ok (.ldc_w 273, 3) := by decide +kernel
theorem dX10_copy_96 : decode cX10_copy 96 = .ok (.ireturn, 1) := by decide +kernel
theorem dX10_copy_97 : decode cX10_copy 97 = .ok (.aload 6, 2) := by decide +kernel
theorem dX10_copy_99 : decode cX10_copy 99 = .ok (.getfield 274, 3) := by decide +kernel
theorem dX10_copy_102 : decode cX10_copy 102 = .ok (.iload_n 2, 1) := by decide +kernel
theorem dX10_copy_103 : decode cX10_copy 103 = .ok (.aload 7, 2) := by decide +kernel
theorem dX10_copy_105 : decode cX10_copy 105 = .ok (.getfield 274, 3) := by decide +kernel
theorem dX10_copy_108 : decode cX10_copy 108 = .ok (.iload 4, 2) := by decide +kernel
theorem dX10_copy_110 : decode cX10_copy 110 = .ok (.iload 5, 2) := by decide +kernel
theorem dX10_copy_112 : decode cX10_copy 112 = .ok (.invokestatic 288, 3) := by decide +kernel
theorem dX10_copy_115 : decode cX10_copy 115 = .ok (.iload 5, 2) := by decide +kernel
theorem dX10_copy_117 : decode cX10_copy 117 = .ok (.ireturn, 1) := by decide +kernel
theorem dX10_lay_0 : decode cX10_lay 0 = .ok (.iload_n 1, 1) := by decide +kernel
theorem dX10_lay_1 : decode cX10_lay 1 = .ok (.invokestatic 294, 3) := by decide +kernel
theorem dX10_lay_4 : decode cX10_lay 4 = .ok (.ifCond .eq 12, 3) := by decide +kernel
theorem dX10_lay_7 : decode cX10_lay 7 = .ok (.iload_n 2, 1) := by decide +kernel
theorem dX10_lay_8 : decode cX10_lay 8 = .ok (.ifCond .lt 8, 3) := by decide +kernel
theorem dX10_lay_11 : decode cX10_lay 11 = .ok (.iload_n 2, 1) := by decide +kernel
theorem dX10_lay_12 : decode cX10_lay 12 = .ok (.iconst 3, 1) := by decide +kernel
theorem dX10_lay_13 : decode cX10_lay 13 = .ok (.if_icmp .le 6, 3) := by decide +kernel
theorem dX10_lay_16 : decode cX10_lay 16 = .ok (.ldc 84, 2) := by decide +kernel
theorem dX10_lay_18 : decode cX10_lay 18 = .ok (.ireturn, 1) := by decide +kernel
theorem dX10_lay_19 : decode cX10_lay 19 = .ok (.aload_n 0, 1) := by decide +kernel
theorem dX10_lay_20 : decode cX10_lay 20 = .ok (.getfield 58, 3) := by decide +kernel
theorem dX10_lay_23 : decode cX10_lay 23 = .ok (.iload_n 1, 1) := by decide +kernel
theorem dX10_lay_24 : decode cX10_lay 24 = .ok (.aaload, 1) := by decide +kernel
theorem dX10_lay_25 : decode cX10_lay 25 = .ok (.astore 4, 2) := by decide +kernel
theorem dX10_lay_27 : decode cX10_lay 27 = .ok (.aload 4, 2) := by decide +kernel
theorem dX10_lay_29 : decode cX10_lay 29 = .ok (.getfield 297, 3) := by decide +kernel
theorem dX10_lay_32 : decode cX10_lay 32 = .ok (.istore 5, 2) := by decide +kernel
theorem dX10_lay_34 : decode cX10_lay 34 = .ok (.iload_n 2, 1) := by decide +kernel
theorem dX10_lay_35 : decode cX10_lay 35 = .ok (.iconst 1, 1) := by decide +kernel
theorem dX10_lay_36 : decode cX10_lay 36 = .ok (.if_icmp .ne 36, 3) := by decide +kernel
theorem dX10_lay_39 : decode cX10_lay 39 = .ok (.aload_n 0, 1) := by decide +kernel
theorem dX10_lay_40 : decode cX10_lay 40 = .ok (.getfield 10, 3) := by decide +kernel
theorem dX10_lay_43 : decode cX10_lay 43 = .ok (.getfield 85, 3) := by decide +kernel
theorem dX10_lay_46 : decode cX10_lay 46 = .ok (.iload_n 3, 1) := by decide +kernel
theorem dX10_lay_47 : decode cX10_lay 47 = .ok (.invokevirtual 99, 3) := by decide +kernel
theorem dX10_lay_50 : decode cX10_lay 50 = .ok (.ifCond .ne 6, 3) := by decide +kernel
theorem dX10_lay_53 : decode cX10_lay 53 = .ok (.ldc 84, 2) := by decide +kernel
theorem dX10_lay_55 : decode cX10_lay 55 = .ok (.ireturn, 1) := by decide +kernel
theorem dX10_lay_56 : decode cX10_lay 56 = .ok (.aload 4, 2) := by decide +kernel
theorem dX10_lay_58 : decode cX10_lay 58 = .ok (.aload_n 0, 1) := by decide +kernel
theorem dX10_lay_59 : decode cX10_lay 59 = .ok (.getfield 10, 3) := by decide +kernel
theorem dX10_lay_62 : decode cX10_lay 62 = .ok (.getfield 85, 3) := by decide +kernel
theorem dX10_lay_65 : decode cX10_lay 65 = .ok (.iload_n 3, 1) := by decide +kernel
theorem dX10_lay_66 : decode cX10_lay 66 = .ok (.invokevirtual 300, 3) := by decide +kernel
theorem dX10_lay_69 : decode cX10_lay 69 = .ok (.goto 57, 3) := by decide +kernel
theorem dX10_lay_72 : decode cX10_lay 72 = .ok (.iload_n 2, 1) := by decide +kernel
theorem dX10_lay_73 : decode cX10_lay 73 = .ok (.iconst 2, 1) := by decide +kernel
theorem dX10_lay_74 : decode cX10_lay 74 = .ok (.if_icmp .ne 46, 3) := by decide +kernel
theorem dX10_lay_77 : decode cX10_lay 77 = .ok (.iload_n 3, 1) := by decide +kernel
theorem dX10_lay_78 : decode cX10_lay 78 = .ok (.invokestatic 220, 3) := by decide +kernel
theorem dX10_lay_81 : decode cX10_lay 81 = .ok (.ifCond .ne 6, 3) := by decide +kernel
theorem dX10_lay_84 : decode cX10_lay 84 = .ok (.ldc 84, 2) := by decide +kernel
theorem dX10_lay_86 : decode cX10_lay 86 = .ok (.ireturn, 1) := by decide +kernel
theorem dX10_lay_87 : decode cX10_lay 87 = .ok (.aload_n 0, 1) := by decide +kernel
theorem dX10_lay_88 : decode cX10_lay 88 = .ok (.getfield 52, 3) := by decide +kernel
theorem dX10_lay_91 : decode cX10_lay 91 = .ok (.iload_n 3, 1) := by decide +kernel
theorem dX10_lay_92 : decode cX10_lay 92 = .ok (.aaload, 1) := by decide +kernel
theorem dX10_lay_93 : decode cX10_lay 93 = .ok (.getfield 223, 3) := by decide +kernel
theorem dX10_lay_96 : decode cX10_lay 96 = .ok (.iconst (-1), 1) := by decide +kernel
theorem dX10_lay_97 : decode cX10_lay 97 = .ok (.if_icmp .ne 6, 3) := by decide +kernel
theorem dX10_lay_100 : decode cX10_lay 100 = .ok (.ldc 226, 2) := by decide +kernel
theorem dX10_lay_102 : decode cX10_lay 102 = .ok (.ireturn, 1) := by decide +kernel
theorem dX10_lay_103 : decode cX10_lay 103 = .ok (.aload 4, 2) := by decide +kernel
theorem dX10_lay_105 : decode cX10_lay 105 = .ok (.getfield 304, 3) := by decide +kernel
theorem dX10_lay_108 : decode cX10_lay 108 = .ok (.aload_n 0, 1) := by decide +kernel
theorem dX10_lay_109 : decode cX10_lay 109 = .ok (.getfield 52, 3) := by decide +kernel
theorem dX10_lay_112 : decode cX10_lay 112 = .ok (.iload_n 3, 1) := by decide +kernel
theorem dX10_lay_113 : decode cX10_lay 113 = .ok (.aaload, 1) := by decide +kernel
theorem dX10_lay_114 : decode cX10_lay 114 = .ok (.invokevirtual 308, 3) := by decide +kernel
theorem dX10_lay_117 : decode cX10_lay 117 = .ok (.goto 9, 3) := by decide +kernel
theorem dX10_lay_120 : decode cX10_lay 120 = .ok (.aload 4, 2) := by decide +kernel
theorem dX10_lay_122 : decode cX10_lay 122 = .ok (.iload_n 3, 1) := by decide +kernel
theorem dX10_lay_123 : decode cX10_lay 123 = .ok (.putfield 312, 3) := by decide +kernel
theorem dX10_lay_126 : decode cX10_lay 126 = .ok (.aload 4, 2) := by decide +kernel
theorem dX10_lay_128 : decode cX10_lay 128 = .ok (.iload_n 2, 1) := by decide +kernel
theorem dX10_lay_129 : decode cX10_lay 129 = .ok (.putfield 297, 3) := by decide +kernel
theorem dX10_lay_132 : decode cX10_lay 132 = .ok (.iload 5, 2) := by decide +kernel
theorem dX10_lay_134 : decode cX10_lay 134 = .ok (.ireturn, 1) := by decide +kernel
theorem dX10_ask_0 : decode cX10_ask 0 = .ok (.iload_n 1, 1) := by decide +kernel
theorem dX10_ask_1 : decode cX10_ask 1 = .ok (.invokestatic 294, 3) := by decide +kernel
theorem dX10_ask_4 : decode cX10_ask 4 = .ok (.ifCond .eq 10, 3) := by decide +kernel
theorem dX10_ask_7 : decode cX10_ask 7 = .ok (.iload_n 2, 1) := by decide +kernel
theorem dX10_ask_8 : decode cX10_ask 8 = .ok (.invokestatic 72, 3) := by decide +kernel
theorem dX10_ask_11 : decode cX10_ask 11 = .ok (.ifCond .ne 6, 3) := by decide +kernel
theorem dX10_ask_14 : decode cX10_ask 14 = .ok (.ldc 84, 2) := by decide +kernel
theorem dX10_ask_16 : decode cX10_ask 16 = .ok (.ireturn, 1) := by decide +kernel
theorem dX10_ask_17 : decode cX10_ask 17 = .ok (.aload_n 0, 1) := by decide +kernel
theorem dX10_ask_18 : decode cX10_ask 18 = .ok (.getfield 58, 3) := by decide +kernel
theorem dX10_ask_21 : decode cX10_ask 21 = .ok (.iload_n 1, 1) := by decide +kernel
theorem dX10_ask_22 : decode cX10_ask 22 = .ok (.aaload, 1) := by decide +kernel
theorem dX10_ask_23 : decode cX10_ask 23 = .ok (.astore_n 3, 1) := by decide +kernel
theorem dX10_ask_24 : decode cX10_ask 24 = .ok (.aload_n 3, 1) := by decide +kernel
theorem dX10_ask_25 : decode cX10_ask 25 = .ok (.getfield 297, 3) := by decide +kernel
theorem dX10_ask_28 : decode cX10_ask 28 = .ok (.ifCond .ne 6, 3) := by decide +kernel
theorem dX10_ask_31 : decode cX10_ask 31 = .ok (.ldc 226, 2) := by decide +kernel
theorem dX10_ask_33 : decode cX10_ask 33 = .ok (.ireturn, 1) := by decide +kernel
theorem dX10_ask_34 : decode cX10_ask 34 = .ok (.aload_n 3, 1) := by decide +kernel
theorem dX10_ask_35 : decode cX10_ask 35 = .ok (.getfield 297, 3) := by decide +kernel
theorem dX10_ask_38 : decode cX10_ask 38 = .ok (.iconst 1, 1) := by decide +kernel
theorem dX10_ask_39 : decode cX10_ask 39 = .ok (.if_icmp .ne 14, 3) := by decide +kernel
theorem dX10_ask_42 : decode cX10_ask 42 = .ok (.aload_n 3, 1) := by decide +kernel
theorem dX10_ask_43 : decode cX10_ask 43 = .ok (.getfield 313, 3) := by decide +kernel
theorem dX10_ask_46 : decode cX10_ask 46 = .ok (.iload_n 2, 1) := by decide +kernel
theorem dX10_ask_47 : decode cX10_ask 47 = .ok (.invokestatic 135, 3) := by decide +kernel
theorem dX10_ask_50 : decode cX10_ask 50 = .ok (.ifCond .ne 6, 3) := by decide +kernel
theorem dX10_ask_53 : decode cX10_ask 53 = .ok (.ldc 139, 2) := by decide +kernel
theorem dX10_ask_55 : decode cX10_ask 55 = .ok (.ireturn, 1) := by decide +kernel
theorem dX10_ask_56 : decode cX10_ask 56 = .ok (.aload_n 3, 1) := by decide +kernel
theorem dX10_ask_57 : decode cX10_ask 57 = .ok (.getfield 313, 3) := by decide +kernel
theorem dX10_ask_60 : decode cX10_ask 60 = .ok (.aload_n 3, 1) := by decide +kernel
theorem dX10_ask_61 : decode cX10_ask 61 = .ok (.getfield 316, 3) := by decide +kernel
theorem dX10_ask_64 : decode cX10_ask 64 = .ok (.aload_n 3, 1) := by decide +kernel
theorem dX10_ask_65 : decode cX10_ask 65 = .ok (.getfield 318, 3) := by decide +kernel
theorem dX10_ask_68 : decode cX10_ask 68 = .ok (.invokestatic 123, 3) := by decide +kernel
theorem dX10_ask_71 : decode cX10_ask 71 = .ok (.ireturn, 1) := by decide +kernel
theorem dX10_item_0 : decode cX10_item 0 = .ok (.iload_n 1, 1) := by decide +kernel
theorem dX10_item_1 : decode cX10_item 1 = .ok (.invokestatic 294, 3) := by decide +kernel
theorem dX10_item_4 : decode cX10_item 4 = .ok (.ifCond .ne 6, 3) := by decide +kernel
theorem dX10_item_7 : decode cX10_item 7 = .ok (.ldc 84, 2) := by decide +kernel
theorem dX10_item_9 : decode cX10_item 9 = .ok (.ireturn, 1) := by decide +kernel
theorem dX10_item_10 : decode cX10_item 10 = .ok (.aload_n 0, 1) := by decide +kernel
theorem dX10_item_11 : decode cX10_item 11 = .ok (.getfield 58, 3) := by decide +kernel
theorem dX10_item_14 : decode cX10_item 14 = .ok (.iload_n 1, 1) := by decide +kernel
theorem dX10_item_15 : decode cX10_item 15 = .ok (.aaload, 1) := by decide +kernel
theorem dX10_item_16 : decode cX10_item 16 = .ok (.astore_n 3, 1) := by decide +kernel
theorem dX10_item_17 : decode cX10_item 17 = .ok (.aload_n 3, 1) := by decide +kernel
theorem dX10_item_18 : decode cX10_item 18 = .ok (.getfield 297, 3) := by decide +kernel
theorem dX10_item_21 : decode cX10_item 21 = .ok (.ifCond .ne 6, 3) := by decide +kernel
theorem dX10_item_24 : decode cX10_item 24 = .ok (.ldc 226, 2) := by decide +kernel
theorem dX10_item_26 : decode cX10_item 26 = .ok (.ireturn, 1) := by decide +kernel
theorem dX10_item_27 : decode cX10_item 27 = .ok (.aload_n 3, 1) := by decide +kernel
theorem dX10_item_28 : decode cX10_item 28 = .ok (.getfield 297, 3) := by decide +kernel
theorem dX10_item_31 : decode cX10_item 31 = .ok (.iconst 2, 1) := by decide +kernel
theorem dX10_item_32 : decode cX10_item 32 = .ok (.if_icmp .eq 6, 3) := by decide +kernel
theorem dX10_item_35 : decode cX10_item 35 = .ok (.ldc 139, 2) := by decide +kernel
theorem dX10_item_37 : decode cX10_item 37 = .ok (.ireturn, 1) := by decide +kernel
theorem dX10_item_38 : decode cX10_item 38 = .ok (.aload_n 3, 1) := by decide +kernel
theorem dX10_item_39 : decode cX10_item 39 = .ok (.getfield 304, 3) := by decide +kernel
theorem dX10_item_42 : decode cX10_item 42 = .ok (.iload_n 2, 1) := by decide +kernel
theorem dX10_item_43 : decode cX10_item 43 = .ok (.invokevirtual 272, 3) := by decide +kernel
theorem dX10_item_46 : decode cX10_item 46 = .ok (.ifCond .ne 7, 3) := by decide +kernel
theorem dX10_item_49 : decode cX10_item 49 = .ok (.ldc_w 273, 3) := by decide +kernel
theorem dX10_item_52 : decode cX10_item 52 = .ok (.ireturn, 1) := by decide +kernel
theorem dX10_item_53 : decode cX10_item 53 = .ok (.aload_n 3, 1) := by decide +kernel
theorem dX10_item_54 : decode cX10_item 54 = .ok (.getfield 304, 3) := by decide +kernel
theorem dX10_item_57 : decode cX10_item 57 = .ok (.getfield 274, 3) := by decide +kernel
theorem dX10_item_60 : decode cX10_item 60 = .ok (.iload_n 2, 1) := by decide +kernel
theorem dX10_item_61 : decode cX10_item 61 = .ok (.iaload, 1) := by decide +kernel
theorem dX10_item_62 : decode cX10_item 62 = .ok (.istore 4, 2) := by decide +kernel
theorem dX10_item_64 : decode cX10_item 64 = .ok (.iload 4, 2) := by decide +kernel
theorem dX10_item_66 : decode cX10_item 66 = .ok (.ldc 193, 2) := by decide +kernel
theorem dX10_item_68 : decode cX10_item 68 = .ok (.if_icmp .ne 8, 3) := by decide +kernel
theorem dX10_item_71 : decode cX10_item 71 = .ok (.ldc 139, 2) := by decide +kernel
theorem dX10_item_73 : decode cX10_item 73 = .ok (.goto 5, 3) := by decide +kernel
theorem dX10_item_76 : decode cX10_item 76 = .ok (.iload 4, 2) := by decide +kernel
theorem dX10_item_78 : decode cX10_item 78 = .ok (.ireturn, 1) := by decide +kernel
theorem dX10_rest_0 : decode cX10_rest 0 = .ok (.iload_n 1, 1) := by decide +kernel
theorem dX10_rest_1 : decode cX10_rest 1 = .ok (.invokestatic 294, 3) := by decide +kernel
theorem dX10_rest_4 : decode cX10_rest 4 = .ok (.ifCond .ne 6, 3) := by decide +kernel
theorem dX10_rest_7 : decode cX10_rest 7 = .ok (.ldc 84, 2) := by decide +kernel
theorem dX10_rest_9 : decode cX10_rest 9 = .ok (.ireturn, 1) := by decide +kernel
theorem dX10_rest_10 : decode cX10_rest 10 = .ok (.aload_n 0, 1) := by decide +kernel
theorem dX10_rest_11 : decode cX10_rest 11 = .ok (.getfield 58, 3) := by decide +kernel
theorem dX10_rest_14 : decode cX10_rest 14 = .ok (.iload_n 1, 1) := by decide +kernel
theorem dX10_rest_15 : decode cX10_rest 15 = .ok (.aaload, 1) := by decide +kernel
theorem dX10_rest_16 : decode cX10_rest 16 = .ok (.astore_n 3, 1) := by decide +kernel
theorem dX10_rest_17 : decode cX10_rest 17 = .ok (.aload_n 3, 1) := by decide +kernel
theorem dX10_rest_18 : decode cX10_rest 18 = .ok (.getfield 297, 3) := by decide +kernel
theorem dX10_rest_21 : decode cX10_rest 21 = .ok (.ifCond .ne 6, 3) := by decide +kernel
theorem dX10_rest_24 : decode cX10_rest 24 = .ok (.ldc 226, 2) := by decide +kernel
theorem dX10_rest_26 : decode cX10_rest 26 = .ok (.ireturn, 1) := by decide +kernel
theorem dX10_rest_27 : decode cX10_rest 27 = .ok (.aload_n 3, 1) := by decide +kernel
theorem dX10_rest_28 : decode cX10_rest 28 = .ok (.getfield 297, 3) := by decide +kernel
theorem dX10_rest_31 : decode cX10_rest 31 = .ok (.iconst 3, 1) := by decide +kernel
theorem dX10_rest_32 : decode cX10_rest 32 = .ok (.if_icmp .eq 6, 3) := by decide +kernel
theorem dX10_rest_35 : decode cX10_rest 35 = .ok (.ldc 139, 2) := by decide +kernel
theorem dX10_rest_37 : decode cX10_rest 37 = .ok (.ireturn, 1) := by decide +kernel
theorem dX10_rest_38 : decode cX10_rest 38 = .ok (.iload_n 2, 1) := by decide +kernel
theorem dX10_rest_39 : decode cX10_rest 39 = .ok (.ifCond .ne 8, 3) := by decide +kernel
theorem dX10_rest_42 : decode cX10_rest 42 = .ok (.ldc 189, 2) := by decide +kernel
theorem dX10_rest_44 : decode cX10_rest 44 = .ok (.goto 9, 3) := by decide +kernel
theorem dX10_rest_47 : decode cX10_rest 47 = .ok (.aload_n 3, 1) := by decide +kernel
theorem dX10_rest_48 : decode cX10_rest 48 = .ok (.getfield 312, 3) := by decide +kernel
theorem dX10_rest_51 : decode cX10_rest 51 = .ok (.iload_n 2, 1) := by decide +kernel
theorem dX10_rest_52 : decode cX10_rest 52 = .ok (.irem, 1) := by decide +kernel
theorem dX10_rest_53 : decode cX10_rest 53 = .ok (.ireturn, 1) := by decide +kernel
theorem dX10_tell_0 : decode cX10_tell 0 = .ok (.aload_n 0, 1) := by decide +kernel
theorem dX10_tell_1 : decode cX10_tell 1 = .ok (.getfield 66, 3) := by decide +kernel
theorem dX10_tell_4 : decode cX10_tell 4 = .ok (.bipush 60, 2) := by decide +kernel
theorem dX10_tell_6 : decode cX10_tell 6 = .ok (.if_icmp .lt 6, 3) := by decide +kernel
theorem dX10_tell_9 : decode cX10_tell 9 = .ok (.ldc 94, 2) := by decide +kernel
theorem dX10_tell_11 : decode cX10_tell 11 = .ok (.ireturn, 1) := by decide +kernel
theorem dX10_tell_12 : decode cX10_tell 12 = .ok (.aload_n 0, 1) := by decide +kernel
theorem dX10_tell_13 : decode cX10_tell 13 = .ok (.getfield 62, 3) := by decide +kernel
theorem dX10_tell_16 : decode cX10_tell 16 = .ok (.aload_n 0, 1) := by decide +kernel
theorem dX10_tell_17 : decode cX10_tell 17 = .ok (.getfield 66, 3) := by decide +kernel
theorem dX10_tell_20 : decode cX10_tell 20 = .ok (.iload_n 1, 1) := by decide +kernel
theorem dX10_tell_21 : decode cX10_tell 21 = .ok (.iastore, 1) := by decide +kernel
theorem dX10_tell_22 : decode cX10_tell 22 = .ok (.aload_n 0, 1) := by decide +kernel
theorem dX10_tell_23 : decode cX10_tell 23 = .ok (.dup, 1) := by decide +kernel
theorem dX10_tell_24 : decode cX10_tell 24 = .ok (.getfield 66, 3) := by decide +kernel
theorem dX10_tell_27 : decode cX10_tell 27 = .ok (.iconst 1, 1) := by decide +kernel
theorem dX10_tell_28 : decode cX10_tell 28 = .ok (.iadd, 1) := by decide +kernel
theorem dX10_tell_29 : decode cX10_tell 29 = .ok (.putfield 66, 3) := by decide +kernel
theorem dX10_tell_32 : decode cX10_tell 32 = .ok (.aload_n 0, 1) := by decide +kernel
theorem dX10_tell_33 : decode cX10_tell 33 = .ok (.getfield 66, 3) := by decide +kernel
theorem dX10_tell_36 : decode cX10_tell 36 = .ok (.ireturn, 1) := by decide +kernel
theorem dX10_check_0 : decode cX10_check 0 = .ok (.aload_n 0, 1) := by decide +kernel
theorem dX10_check_1 : decode cX10_check 1 = .ok (.getfield 66, 3) := by decide +kernel
theorem dX10_check_4 : decode cX10_check 4 = .ok (.istore_n 2, 1) := by decide +kernel
theorem dX10_check_5 : decode cX10_check 5 = .ok (.aload_n 0, 1) := by decide +kernel
theorem dX10_check_6 : decode cX10_check 6 = .ok (.iconst 0, 1) := by decide +kernel
theorem dX10_check_7 : decode cX10_check 7 = .ok (.putfield 66, 3) := by decide +kernel
theorem dX10_check_10 : decode cX10_check 10 = .ok (.iload_n 1, 1) := by decide +kernel
theorem dX10_check_11 : decode cX10_check 11 = .ok (.iconst 1, 1) := by decide +kernel
theorem dX10_check_12 : decode cX10_check 12 = .ok (.if_icmp .lt 9, 3) := by decide +kernel
theorem dX10_check_15 : decode cX10_check 15 = .ok (.iload_n 1, 1) := by decide +kernel
theorem dX10_check_16 : decode cX10_check 16 = .ok (.bipush 30, 2) := by decide +kernel
theorem dX10_check_18 : decode cX10_check 18 = .ok (.if_icmp .le 6, 3) := by decide +kernel
theorem dX10_check_21 : decode cX10_check 21 = .ok (.ldc 84, 2) := by decide +kernel
theorem dX10_check_23 : decode cX10_check 23 = .ok (.ireturn, 1) := by decide +kernel
theorem dX10_check_24 : decode cX10_check 24 = .ok (.aload_n 0, 1) := by decide +kernel
theorem dX10_check_25 : decode cX10_check 25 = .ok (.getfield 19, 3) := by decide +kernel
theorem dX10_check_28 : decode cX10_check 28 = .ok (.ifCond .ne 6, 3) := by decide +kernel
theorem dX10_check_31 : decode cX10_check 31 = .ok (.ldc 189, 2) := by decide +kernel
theorem dX10_check_33 : decode cX10_check 33 = .ok (.ireturn, 1) := by decide +kernel
theorem dX10_check_34 : decode cX10_check 34 = .ok (.aload_n 0, 1) := by decide +kernel
theorem dX10_check_35 : decode cX10_check 35 = .ok (.getfield 26, 3) := by decide +kernel
theorem dX10_check_38 : decode cX10_check 38 = .ok (.aload_n 0, 1) := by decide +kernel
theorem dX10_check_39 : decode cX10_check 39 = .ok (.getfield 16, 3) := by decide +kernel
theorem dX10_check_42 : decode cX10_check 42 = .ok (.invokevirtual 197, 3) := by decide +kernel
theorem dX10_check_45 : decode cX10_check 45 = .ok (.astore_n 3, 1) := by decide +kernel
theorem dX10_check_46 : decode cX10_check 46 = .ok (.iload_n 1, 1) := by decide +kernel
theorem dX10_check_47 : decode cX10_check 47 = .ok (.sipush 9999, 3) := by decide +kernel
theorem dX10_check_50 : decode cX10_check 50 = .ok (.aload_n 0, 1) := by decide +kernel
theorem dX10_check_51 : decode cX10_check 51 = .ok (.getfield 16, 3) := by decide +kernel
theorem dX10_check_54 : decode cX10_check 54 = .ok (.getfield 116, 3) := by decide +kernel
theorem dX10_check_57 : decode cX10_check 57 = .ok (.isub, 1) := by decide +kernel
theorem dX10_check_58 : decode cX10_check 58 = .ok (.invokestatic 140, 3) := by decide +kernel
theorem dX10_check_61 : decode cX10_check 61 = .ok (.istore 4, 2) := by decide +kernel
theorem dX10_check_63 : decode cX10_check 63 = .ok (.iconst 0, 1) := by decide +kernel
theorem dX10_check_64 : decode cX10_check 64 = .ok (.istore 5, 2) := by decide +kernel
theorem dX10_check_66 : decode cX10_check 66 = .ok (.iconst 0, 1) := by decide +kernel
theorem dX10_check_67 : decode cX10_check 67 = .ok (.istore 6, 2) := by decide +kernel
theorem dX10_check_69 : decode cX10_check 69 = .ok (.iload 6, 2) := by decide +kernel
theorem dX10_check_71 : decode cX10_check 71 = .ok (.iload 4, 2) := by decide +kernel
theorem dX10_check_73 : decode cX10_check 73 = .ok (.if_icmp .ge 64, 3) := by decide +kernel
theorem dX10_check_76 : decode cX10_check 76 = .ok (.aload_n 3, 1) := by decide +kernel
theorem dX10_check_77 : decode cX10_check 77 = .ok (.invokevirtual 204, 3) := by decide +kernel
theorem dX10_check_80 : decode cX10_check 80 = .ok (.pop, 1) := by decide +kernel
theorem dX10_check_81 : decode cX10_check 81 = .ok (.aload_n 0, 1) := by decide +kernel
theorem dX10_check_82 : decode cX10_check 82 = .ok (.iload 5, 2) := by decide +kernel
theorem dX10_check_84 : decode cX10_check 84 = .ok (.iload_n 2, 1) := by decide +kernel
theorem dX10_check_85 : decode cX10_check 85 = .ok (.aload_n 3, 1) := by decide +kernel
theorem dX10_check_86 : decode cX10_check 86 = .ok (.getfield 126, 3) := by decide +kernel
theorem dX10_check_89 : decode cX10_check 89 = .ok (.getfield 163, 3) := by decide +kernel
theorem dX10_check_92 : decode cX10_check 92 = .ok (.invokevirtual 321, 3) := by decide +kernel
theorem dX10_check_95 : decode cX10_check 95 = .ok (.ifCond .ne 8, 3) := by decide +kernel
theorem dX10_check_98 : decode cX10_check 98 = .ok (.iconst 1, 1) := by decide +kernel
theorem dX10_check_99 : decode cX10_check 99 = .ok (.iload 5, 2) := by decide +kernel
theorem dX10_check_101 : decode cX10_check 101 = .ok (.iadd, 1) := by decide +kernel
theorem dX10_check_102 : decode cX10_check 102 = .ok (.ireturn, 1) := by decide +kernel
theorem dX10_check_103 : decode cX10_check 103 = .ok (.iinc 5 1, 3) := by decide +kernel
theorem dX10_check_106 : decode cX10_check 106 = .ok (.aload_n 0, 1) := by decide +kernel
theorem dX10_check_107 : decode cX10_check 107 = .ok (.iload 5, 2) := by decide +kernel
theorem dX10_check_109 : decode cX10_check 109 = .ok (.iload_n 2, 1) := by decide +kernel
theorem dX10_check_110 : decode cX10_check 110 = .ok (.aload_n 3, 1) := by decide +kernel
theorem dX10_check_111 : decode cX10_check 111 = .ok (.getfield 126, 3) := by decide +kernel
theorem dX10_check_114 : decode cX10_check 114 = .ok (.getfield 160, 3) := by decide +kernel
theorem dX10_check_117 : decode cX10_check 117 = .ok (.invokevirtual 321, 3) := by decide +kernel
theorem dX10_check_120 : decode cX10_check 120 = .ok (.ifCond .ne 8, 3) := by decide +kernel
theorem dX10_check_123 : decode cX10_check 123 = .ok (.iconst 1, 1) := by decide +kernel
theorem dX10_check_124 : decode cX10_check 124 = .ok (.iload 5, 2) := by decide +kernel
theorem dX10_check_126 : decode cX10_check 126 = .ok (.iadd, 1) := by decide +kernel
theorem dX10_check_127 : decode cX10_check 127 = .ok (.ireturn, 1) := by decide +kernel
theorem dX10_check_128 : decode cX10_check 128 = .ok (.iinc 5 1, 3) := by decide +kernel
theorem dX10_check_131 : decode cX10_check 131 = .ok (.iinc 6 1, 3) := by decide +kernel
theorem dX10_check_134 : decode cX10_check 134 = .ok (.goto (-65), 3) := by decide +kernel
theorem dX10_check_137 : decode cX10_check 137 = .ok (.iload_n 2, 1) := by decide +kernel
theorem dX10_check_138 : decode cX10_check 138 = .ok (.iload 5, 2) := by decide +kernel
theorem dX10_check_140 : decode cX10_check 140 = .ok (.if_icmp .le 10, 3) := by decide +kernel
theorem dX10_check_143 : decode cX10_check 143 = .ok (.iconst 1, 1) := by decide +kernel
theorem dX10_check_144 : decode cX10_check 144 = .ok (.iload 5, 2) := by decide +kernel
theorem dX10_check_146 : decode cX10_check 146 = .ok (.iadd, 1) := by decide +kernel
theorem dX10_check_147 : decode cX10_check 147 = .ok (.goto 4, 3) := by decide +kernel
theorem dX10_check_150 : decode cX10_check 150 = .ok (.iconst 0, 1) := by decide +kernel
theorem dX10_check_151 : decode cX10_check 151 = .ok (.ireturn, 1) := by decide +kernel
theorem dX10_keep_0 : decode cX10_keep 0 = .ok (.aload_n 0, 1) := by decide +kernel
theorem dX10_keep_1 : decode cX10_keep 1 = .ok (.getfield 16, 3) := by decide +kernel
theorem dX10_keep_4 : decode cX10_keep 4 = .ok (.aload_n 0, 1) := by decide +kernel
theorem dX10_keep_5 : decode cX10_keep 5 = .ok (.getfield 10, 3) := by decide +kernel
theorem dX10_keep_8 : decode cX10_keep 8 = .ok (.invokevirtual 325, 3) := by decide +kernel
theorem dX10_keep_11 : decode cX10_keep 11 = .ok (.aload_n 0, 1) := by decide +kernel
theorem dX10_keep_12 : decode cX10_keep 12 = .ok (.iconst 1, 1) := by decide +kernel
theorem dX10_keep_13 : decode cX10_keep 13 = .ok (.putfield 19, 3) := by decide +kernel
theorem dX10_keep_16 : decode cX10_keep 16 = .ok (.aload_n 0, 1) := by decide +kernel
theorem dX10_keep_17 : decode cX10_keep 17 = .ok (.getfield 10, 3) := by decide +kernel
theorem dX10_keep_20 : decode cX10_keep 20 = .ok (.getfield 85, 3) := by decide +kernel
theorem dX10_keep_23 : decode cX10_keep 23 = .ok (.getfield 89, 3) := by decide +kernel
theorem dX10_keep_26 : decode cX10_keep 26 = .ok (.ireturn, 1) := by decide +kernel
theorem dX10_back_0 : decode cX10_back 0 = .ok (.aload_n 0, 1) := by decide +kernel
theorem dX10_back_1 : decode cX10_back 1 = .ok (.getfield 19, 3) := by decide +kernel
theorem dX10_back_4 : decode cX10_back 4 = .ok (.ifCond .ne 6, 3) := by decide +kernel
theorem dX10_back_7 : decode cX10_back 7 = .ok (.ldc 189, 2) := by decide +kernel
theorem dX10_back_9 : decode cX10_back 9 = .ok (.ireturn, 1) := by decide +kernel
theorem dX10_back_10 : decode cX10_back 10 = .ok (.aload_n 0, 1) := by decide +kernel
theorem dX10_back_11 : decode cX10_back 11 = .ok (.getfield 10, 3) := by decide +kernel
theorem dX10_back_14 : decode cX10_back 14 = .ok (.aload_n 0, 1) := by decide +kernel
theorem dX10_back_15 : decode cX10_back 15 = .ok (.getfield 16, 3) := by decide +kernel
theorem dX10_back_18 : decode cX10_back 18 = .ok (.invokevirtual 325, 3) := by decide +kernel
theorem dX10_back_21 : decode cX10_back 21 = .ok (.aload_n 0, 1) := by decide +kernel
theorem dX10_back_22 : decode cX10_back 22 = .ok (.getfield 10, 3) := by decide +kernel
theorem dX10_back_25 : decode cX10_back 25 = .ok (.getfield 85, 3) := by decide +kernel
theorem dX10_back_28 : decode cX10_back 28 = .ok (.getfield 89, 3) := by decide +kernel
theorem dX10_back_31 : decode cX10_back 31 = .ok (.ireturn, 1) := by decide +kernel
theorem dX10_count_0 : decode cX10_count 0 = .ok (.iload_n 1, 1) := by decide +kernel
theorem dX10_count_1 : decode cX10_count 1 = .ok (.tableswitch 153 0 10 #[59, 70, 78, 86, 94, 102, 113, 124, 132, 137, 145], 59) := by decide +kernel
theorem dX10_count_60 : decode cX10_count 60 = .ok (.aload_n 0, 1) := by decide +kernel
theorem dX10_count_61 : decode cX10_count 61 = .ok (.getfield 10, 3) := by decide +kernel
theorem dX10_count_64 : decode cX10_count 64 = .ok (.getfield 85, 3) := by decide +kernel
theorem dX10_count_67 : decode cX10_count 67 = .ok (.getfield 89, 3) := by decide +kernel
theorem dX10_count_70 : decode cX10_count 70 = .ok (.ireturn, 1) := by decide +kernel
theorem dX10_count_71 : decode cX10_count 71 = .ok (.aload_n 0, 1) := by decide +kernel
theorem dX10_count_72 : decode cX10_count 72 = .ok (.getfield 10, 3) := by decide +kernel
theorem dX10_count_75 : decode cX10_count 75 = .ok (.getfield 116, 3) := by decide +kernel
theorem dX10_count_78 : decode cX10_count 78 = .ok (.ireturn, 1) := by decide +kernel
theorem dX10_count_79 : decode cX10_count 79 = .ok (.aload_n 0, 1) := by decide +kernel
theorem dX10_count_80 : decode cX10_count 80 = .ok (.getfield 10, 3) := by decide +kernel
theorem dX10_count_83 : decode cX10_count 83 = .ok (.getfield 151, 3) := by decide +kernel
theorem dX10_count_86 : decode cX10_count 86 = .ok (.ireturn, 1) := by decide +kernel
theorem dX10_count_87 : decode cX10_count 87 = .ok (.aload_n 0, 1) := by decide +kernel
theorem dX10_count_88 : decode cX10_count 88 = .ok (.getfield 10, 3) := by decide +kernel
theorem dX10_count_91 : decode cX10_count 91 = .ok (.getfield 154, 3) := by decide +kernel
theorem dX10_count_94 : decode cX10_count 94 = .ok (.ireturn, 1) := by decide +kernel
theorem dX10_count_95 : decode cX10_count 95 = .ok (.aload_n 0, 1) := by decide +kernel
theorem dX10_count_96 : decode cX10_count 96 = .ok (.getfield 10, 3) := by decide +kernel
theorem dX10_count_99 : decode cX10_count 99 = .ok (.getfield 157, 3) := by decide +kernel
theorem dX10_count_102 : decode cX10_count 102 = .ok (.ireturn, 1) := by decide +kernel
theorem dX10_count_103 : decode cX10_count 103 = .ok (.aload_n 0, 1) := by decide +kernel
theorem dX10_count_104 : decode cX10_count 104 = .ok (.getfield 10, 3) := by decide +kernel
theorem dX10_count_107 : decode cX10_count 107 = .ok (.getfield 85, 3) := by decide +kernel
theorem dX10_count_110 : decode cX10_count 110 = .ok (.invokevirtual 201, 3) := by decide +kernel
theorem dX10_count_113 : decode cX10_count 113 = .ok (.ireturn, 1) := by decide +kernel
theorem dX10_count_114 : decode cX10_count 114 = .ok (.aload_n 0, 1) := by decide +kernel
theorem dX10_count_115 : decode cX10_count 115 = .ok (.getfield 10, 3) := by decide +kernel
theorem dX10_count_118 : decode cX10_count 118 = .ok (.getfield 85, 3) := by decide +kernel
theorem dX10_count_121 : decode cX10_count 121 = .ok (.invokevirtual 328, 3) := by decide +kernel
theorem dX10_count_124 : decode cX10_count 124 = .ok (.ireturn, 1) := by decide +kernel
theorem dX10_count_125 : decode cX10_count 125 = .ok (.aload_n 0, 1) := by decide +kernel
theorem dX10_count_126 : decode cX10_count 126 = .ok (.getfield 10, 3) := by decide +kernel
theorem dX10_count_129 : decode cX10_count 129 = .ok (.getfield 245, 3) := by decide +kernel
theorem dX10_count_132 : decode cX10_count 132 = .ok (.ireturn, 1) := by decide +kernel
theorem dX10_count_133 : decode cX10_count 133 = .ok (.aload_n 0, 1) := by decide +kernel
theorem dX10_count_134 : decode cX10_count 134 = .ok (.getfield 66, 3) := by decide +kernel
theorem dX10_count_137 : decode cX10_count 137 = .ok (.ireturn, 1) := by decide +kernel
theorem dX10_count_138 : decode cX10_count 138 = .ok (.aload_n 0, 1) := by decide +kernel
theorem dX10_count_139 : decode cX10_count 139 = .ok (.getfield 33, 3) := by decide +kernel
theorem dX10_count_142 : decode cX10_count 142 = .ok (.getfield 234, 3) := by decide +kernel
theorem dX10_count_145 : decode cX10_count 145 = .ok (.ireturn, 1) := by decide +kernel
theorem dX10_count_146 : decode cX10_count 146 = .ok (.aload_n 0, 1) := by decide +kernel
theorem dX10_count_147 : decode cX10_count 147 = .ok (.getfield 10, 3) := by decide +kernel
theorem dX10_count_150 : decode cX10_count 150 = .ok (.getfield 148, 3) := by decide +kernel
theorem dX10_count_153 : decode cX10_count 153 = .ok (.ireturn, 1) := by decide +kernel
theorem dX10_count_154 : decode cX10_count 154 = .ok (.ldc 84, 2) := by decide +kernel
theorem dX10_count_156 : decode cX10_count 156 = .ok (.ireturn, 1) := by decide +kernel
theorem dX10_isSnow_0 : decode cX10_isSnow 0 = .ok (.iload_n 0, 1) := by decide +kernel
theorem dX10_isSnow_1 : decode cX10_isSnow 1 = .ok (.ifCond .lt 14, 3) := by decide +kernel
theorem dX10_isSnow_4 : decode cX10_isSnow 4 = .ok (.iload_n 0, 1) := by decide +kernel
theorem dX10_isSnow_5 : decode cX10_isSnow 5 = .ok (.sipush 999, 3) := by decide +kernel
theorem dX10_isSnow_8 : decode cX10_isSnow 8 = .ok (.if_icmp .gt 7, 3) := by decide +kernel
theorem dX10_isSnow_11 : decode cX10_isSnow 11 = .ok (.iconst 1, 1) := by decide +kernel
theorem dX10_isSnow_12 : decode cX10_isSnow 12 = .ok (.goto 4, 3) := by decide +kernel
theorem dX10_isSnow_15 : decode cX10_isSnow 15 = .ok (.iconst 0, 1) := by decide +kernel
theorem dX10_isSnow_16 : decode cX10_isSnow 16 = .ok (.ireturn, 1) := by decide +kernel
theorem dX10_isGate_0 : decode cX10_isGate 0 = .ok (.iload_n 0, 1) := by decide +kernel
theorem dX10_isGate_1 : decode cX10_isGate 1 = .ok (.iconst 1, 1) := by decide +kernel
theorem dX10_isGate_2 : decode cX10_isGate 2 = .ok (.if_icmp .lt 14, 3) := by decide +kernel
theorem dX10_isGate_5 : decode cX10_isGate 5 = .ok (.iload_n 0, 1) := by decide +kernel
theorem dX10_isGate_6 : decode cX10_isGate 6 = .ok (.sipush 999, 3) := by decide +kernel
theorem dX10_isGate_9 : decode cX10_isGate 9 = .ok (.if_icmp .gt 7, 3) := by decide +kernel
theorem dX10_isGate_12 : decode cX10_isGate 12 = .ok (.iconst 1, 1) := by decide +kernel
theorem dX10_isGate_13 : decode cX10_isGate 13 = .ok (.goto 4, 3) := by decide +kernel
theorem dX10_isGate_16 : decode cX10_isGate 16 = .ok (.iconst 0, 1) := by decide +kernel
theorem dX10_isGate_17 : decode cX10_isGate 17 = .ok (.ireturn, 1) := by decide +kernel
theorem dX10_isThing_0 : decode cX10_isThing 0 = .ok (.iload_n 0, 1) := by decide +kernel
theorem dX10_isThing_1 : decode cX10_isThing 1 = .ok (.ifCond .lt 13, 3) := by decide +kernel
theorem dX10_isThing_4 : decode cX10_isThing 4 = .ok (.iload_n 0, 1) := by decide +kernel
theorem dX10_isThing_5 : decode cX10_isThing 5 = .ok (.bipush 6, 2) := by decide +kernel
theorem dX10_isThing_7 : decode cX10_isThing 7 = .ok (.if_icmp .ge 7, 3) := by decide +kernel
theorem dX10_isThing_10 : decode cX10_isThing 10 = .ok (.iconst 1, 1) := by decide +kernel
theorem dX10_isThing_11 : decode cX10_isThing 11 = .ok (.goto 4, 3) := by decide +kernel
theorem dX10_isThing_14 : decode cX10_isThing 14 = .ok (.iconst 0, 1) := by decide +kernel
theorem dX10_isThing_15 : decode cX10_isThing 15 = .ok (.ireturn, 1) := by decide +kernel
theorem dX10_isSheet_0 : decode cX10_isSheet 0 = .ok (.iload_n 0, 1) := by decide +kernel
theorem dX10_isSheet_1 : decode cX10_isSheet 1 = .ok (.ifCond .lt 12, 3) := by decide +kernel
theorem dX10_isSheet_4 : decode cX10_isSheet 4 = .ok (.iload_n 0, 1) := by decide +kernel
theorem dX10_isSheet_5 : decode cX10_isSheet 5 = .ok (.iconst 4, 1) := by decide +kernel
theorem dX10_isSheet_6 : decode cX10_isSheet 6 = .ok (.if_icmp .ge 7, 3) := by decide +kernel
theorem dX10_isSheet_9 : decode cX10_isSheet 9 = .ok (.iconst 1, 1) := by decide +kernel
theorem dX10_isSheet_10 : decode cX10_isSheet 10 = .ok (.goto 4, 3) := by decide +kernel
theorem dX10_isSheet_13 : decode cX10_isSheet 13 = .ok (.iconst 0, 1) := by decide +kernel
theorem dX10_isSheet_14 : decode cX10_isSheet 14 = .ok (.ireturn, 1) := by decide +kernel
theorem dX10_isSlot_0 : decode cX10_isSlot 0 = .ok (.iload_n 0, 1) := by decide +kernel
theorem dX10_isSlot_1 : decode cX10_isSlot 1 = .ok (.ifCond .lt 12, 3) := by decide +kernel
theorem dX10_isSlot_4 : decode cX10_isSlot 4 = .ok (.iload_n 0, 1) := by decide +kernel
theorem dX10_isSlot_5 : decode cX10_isSlot 5 = .ok (.iconst 5, 1) := by decide +kernel
theorem dX10_isSlot_6 : decode cX10_isSlot 6 = .ok (.if_icmp .ge 7, 3) := by decide +kernel
theorem dX10_isSlot_9 : decode cX10_isSlot 9 = .ok (.iconst 1, 1) := by decide +kernel
theorem dX10_isSlot_10 : decode cX10_isSlot 10 = .ok (.goto 4, 3) := by decide +kernel
theorem dX10_isSlot_13 : decode cX10_isSlot 13 = .ok (.iconst 0, 1) := by decide +kernel
theorem dX10_isSlot_14 : decode cX10_isSlot 14 = .ok (.ireturn, 1) := by decide +kernel
theorem dX10_held_0 : decode cX10_held 0 = .ok (.iconst 0, 1) := by decide +kernel
theorem dX10_held_1 : decode cX10_held 1 = .ok (.iload_n 1, 1) := by decide +kernel
theorem dX10_held_2 : decode cX10_held 2 = .ok (.iload_n 0, 1) := by decide +kernel
theorem dX10_held_3 : decode cX10_held 3 = .ok (.invokestatic 140, 3) := by decide +kernel
theorem dX10_held_6 : decode cX10_held 6 = .ok (.invokestatic 331, 3) := by decide +kernel
theorem dX10_held_9 : decode cX10_held 9 = .ok (.ireturn, 1) := by decide +kernel
theorem dX10_differences_0 : decode cX10_differences 0 = .ok (.aload_n 0, 1) := by decide +kernel
theorem dX10_differences_1 : decode cX10_differences 1 = .ok (.getfield 26, 3) := by decide +kernel
theorem dX10_differences_4 : decode cX10_differences 4 = .ok (.aload_n 0, 1) := by decide +kernel
theorem dX10_differences_5 : decode cX10_differences 5 = .ok (.getfield 10, 3) := by decide +kernel
theorem dX10_differences_8 : decode cX10_differences 8 = .ok (.invokevirtual 197, 3) := by decide +kernel
theorem dX10_differences_11 : decode cX10_differences 11 = .ok (.astore_n 3, 1) := by decide +kernel
theorem dX10_differences_12 : decode cX10_differences 12 = .ok (.aload_n 3, 1) := by decide +kernel
theorem dX10_differences_13 : decode cX10_differences 13 = .ok (.iload_n 2, 1) := by decide +kernel
theorem dX10_differences_14 : decode cX10_differences 14 = .ok (.putfield 151, 3) := by decide +kernel
theorem dX10_differences_17 : decode cX10_differences 17 = .ok (.iconst 0, 1) := by decide +kernel
theorem dX10_differences_18 : decode cX10_differences 18 = .ok (.istore 4, 2) := by decide +kernel
theorem dX10_differences_20 : decode cX10_differences 20 = .ok (.iconst 0, 1) := by decide +kernel
theorem dX10_differences_21 : decode cX10_differences 21 = .ok (.istore 5, 2) := by decide +kernel
theorem dX10_differences_23 : decode cX10_differences 23 = .ok (.iload 5, 2) := by decide +kernel
theorem dX10_differences_25 : decode cX10_differences 25 = .ok (.aload_n 1, 1) := by decide +kernel
theorem dX10_differences_26 : decode cX10_differences 26 = .ok (.getfield 279, 3) := by decide +kernel
theorem dX10_differences_29 : decode cX10_differences 29 = .ok (.if_icmp .ge 59, 3) := by decide +kernel
theorem dX10_differences_32 : decode cX10_differences 32 = .ok (.aload_n 3, 1) := by decide +kernel
theorem dX10_differences_33 : decode cX10_differences 33 = .ok (.iload 5, 2) := by decide +kernel
theorem dX10_differences_35 : decode cX10_differences 35 = .ok (.ifCond .ne 7, 3) := by decide +kernel
theorem dX10_differences_38 : decode cX10_differences 38 = .ok (.iconst 0, 1) := by decide +kernel
theorem dX10_differences_39 : decode cX10_differences 39 = .ok (.goto 4, 3) := by decide +kernel
theorem dX10_differences_42 : decode cX10_differences 42 = .ok (.iconst 1, 1) := by decide +kernel
theorem dX10_differences_43 : decode cX10_differences 43 = .ok (.invokevirtual 194, 3) := by decide +kernel
theorem dX10_differences_46 : decode cX10_differences 46 = .ok (.pop, 1) := by decide +kernel
theorem dX10_differences_47 : decode cX10_differences 47 = .ok (.aload_n 1, 1) := by decide +kernel
theorem dX10_differences_48 : decode cX10_differences 48 = .ok (.getfield 274, 3) := by decide +kernel
theorem dX10_differences_51 : decode cX10_differences 51 = .ok (.iload 5, 2) := by decide +kernel
theorem dX10_differences_53 : decode cX10_differences 53 = .ok (.iaload, 1) := by decide +kernel
theorem dX10_differences_54 : decode cX10_differences 54 = .ok (.ldc 193, 2) := by decide +kernel
theorem dX10_differences_56 : decode cX10_differences 56 = .ok (.if_icmp .eq 26, 3) := by decide +kernel
theorem dX10_differences_59 : decode cX10_differences 59 = .ok (.iload 4, 2) := by decide +kernel
theorem dX10_differences_61 : decode cX10_differences 61 = .ok (.aload_n 3, 1) := by decide +kernel
theorem dX10_differences_62 : decode cX10_differences 62 = .ok (.getfield 126, 3) := by decide +kernel
theorem dX10_differences_65 : decode cX10_differences 65 = .ok (.getfield 163, 3) := by decide +kernel
theorem dX10_differences_68 : decode cX10_differences 68 = .ok (.aload_n 1, 1) := by decide +kernel
theorem dX10_differences_69 : decode cX10_differences 69 = .ok (.getfield 274, 3) := by decide +kernel
theorem dX10_differences_72 : decode cX10_differences 72 = .ok (.iload 5, 2) := by decide +kernel
theorem dX10_differences_74 : decode cX10_differences 74 = .ok (.iaload, 1) := by decide +kernel
theorem dX10_differences_75 : decode cX10_differences 75 = .ok (.isub, 1) := by decide +kernel
theorem dX10_differences_76 : decode cX10_differences 76 = .ok (.invokestatic 334, 3) := by decide +kernel
theorem dX10_differences_79 : decode cX10_differences 79 = .ok (.iadd, 1) := by decide +kernel
theorem dX10_differences_80 : decode cX10_differences 80 = .ok (.istore 4, 2) := by decide +kernel
theorem dX10_differences_82 : decode cX10_differences 82 = .ok (.iinc 5 1, 3) := by decide +kernel
theorem dX10_differences_85 : decode cX10_differences 85 = .ok (.goto (-62), 3) := by decide +kernel
theorem dX10_differences_88 : decode cX10_differences 88 = .ok (.iload 4, 2) := by decide +kernel
theorem dX10_differences_90 : decode cX10_differences 90 = .ok (.ireturn, 1) := by decide +kernel
theorem dX10_waitsAt_0 : decode cX10_waitsAt 0 = .ok (.iload_n 1, 1) := by decide +kernel
theorem dX10_waitsAt_1 : decode cX10_waitsAt 1 = .ok (.iload_n 2, 1) := by decide +kernel
theorem dX10_waitsAt_2 : decode cX10_waitsAt 2 = .ok (.if_icmp .ge 23, 3) := by decide +kernel
theorem dX10_waitsAt_5 : decode cX10_waitsAt 5 = .ok (.iload_n 1, 1) := by decide +kernel
theorem dX10_waitsAt_6 : decode cX10_waitsAt 6 = .ok (.bipush 60, 2) := by decide +kernel
theorem dX10_waitsAt_8 : decode cX10_waitsAt 8 = .ok (.if_icmp .ge 17, 3) := by decide +kernel
theorem dX10_waitsAt_11 : decode cX10_waitsAt 11 = .ok (.aload_n 0, 1) := by decide +kernel
theorem dX10_waitsAt_12 : decode cX10_waitsAt 12 = .ok (.getfield 62, 3) := by decide +kernel
theorem dX10_waitsAt_15 : decode cX10_waitsAt 15 = .ok (.iload_n 1, 1) := by decide +kernel
theorem dX10_waitsAt_16 : decode cX10_waitsAt 16 = .ok (.iaload, 1) := by decide +kernel
theorem dX10_waitsAt_17 : decode cX10_waitsAt 17 = .ok (.iload_n 3, 1) := by decide +kernel
theorem dX10_waitsAt_18 : decode cX10_waitsAt 18 = .ok (.if_icmp .ne 7, 3) := by decide +kernel
theorem dX10_waitsAt_21 : decode cX10_waitsAt 21 = .ok (.iconst 1, 1) := by decide +kernel
theorem dX10_waitsAt_22 : decode cX10_waitsAt 22 = .ok (.goto 4, 3) := by decide +kernel
theorem dX10_waitsAt_25 : decode cX10_waitsAt 25 = .ok (.iconst 0, 1) := by decide +kernel
theorem dX10_waitsAt_26 : decode cX10_waitsAt 26 = .ok (.ireturn, 1) := by decide +kernel
theorem dX11_init_0 : decode cX11_init 0 = .ok (.aload_n 0, 1) := by decide +kernel
theorem dX11_init_1 : decode cX11_init 1 = .ok (.invokespecial 1, 3) := by decide +kernel
theorem dX11_init_4 : decode cX11_init 4 = .ok (.aload_n 0, 1) := by decide +kernel
theorem dX11_init_5 : decode cX11_init 5 = .ok (.sipush 1488, 3) := by decide +kernel
theorem dX11_init_8 : decode cX11_init 8 = .ok (.newarray .int, 2) := by decide +kernel
theorem dX11_init_10 : decode cX11_init 10 = .ok (.putfield 9, 3) := by decide +kernel
theorem dX11_init_13 : decode cX11_init 13 = .ok (.aload_n 0, 1) := by decide +kernel
theorem dX11_init_14 : decode cX11_init 14 = .ok (.sipush 1488, 3) := by decide +kernel
theorem dX11_init_17 : decode cX11_init 17 = .ok (.newarray .int, 2) := by decide +kernel
theorem dX11_init_19 : decode cX11_init 19 = .ok (.putfield 13, 3) := by decide +kernel
theorem dX11_init_22 : decode cX11_init 22 = .ok (.aload_n 0, 1) := by decide +kernel
theorem dX11_init_23 : decode cX11_init 23 = .ok (.sipush 1488, 3) := by decide +kernel
theorem dX11_init_26 : decode cX11_init 26 = .ok (.newarray .int, 2) := by decide +kernel
theorem dX11_init_28 : decode cX11_init 28 = .ok (.putfield 16, 3) := by decide +kernel
theorem dX11_init_31 : decode cX11_init 31 = .ok (.aload_n 0, 1) := by decide +kernel
theorem dX11_init_32 : decode cX11_init 32 = .ok (.bipush 116, 2) := by decide +kernel
theorem dX11_init_34 : decode cX11_init 34 = .ok (.newarray .int, 2) := by decide +kernel
theorem dX11_init_36 : decode cX11_init 36 = .ok (.putfield 19, 3) := by decide +kernel
theorem dX11_init_39 : decode cX11_init 39 = .ok (.aload_n 0, 1) := by decide +kernel
theorem dX11_init_40 : decode cX11_init 40 = .ok (.iconst 3, 1) := by decide +kernel
theorem dX11_init_41 : decode cX11_init 41 = .ok (.newarray .int, 2) := by decide +kernel
theorem dX11_init_43 : decode cX11_init 43 = .ok (.putfield 22, 3) := by decide +kernel
theorem dX11_init_46 : decode cX11_init 46 = .ok (.aload_n 0, 1) := by decide +kernel
theorem dX11_init_47 : decode cX11_init 47 = .ok (.bipush 96, 2) := by decide +kernel
theorem dX11_init_49 : decode cX11_init 49 = .ok (.newarray .int, 2) := by decide +kernel
theorem dX11_init_51 : decode cX11_init 51 = .ok (.putfield 25, 3) := by decide +kernel
theorem dX11_init_54 : decode cX11_init 54 = .ok (.aload_n 0, 1) := by decide +kernel
theorem dX11_init_55 : decode cX11_init 55 = .ok (.bipush 12, 2) := by decide +kernel
theorem dX11_init_57 : decode cX11_init 57 = .ok (.newarray .char, 2) := by decide +kernel
theorem dX11_init_59 : decode cX11_init 59 = .ok (.dup, 1) := by decide +kernel
theorem dX11_init_60 : decode cX11_init 60 = .ok (.iconst 0, 1) := by decide +kernel
theorem dX11_init_61 : decode cX11_init 61 = .ok (.bipush 115, 2) := by decide +kernel
theorem dX11_init_63 : decode cX11_init 63 = .ok (.castore, 1) := by decide +kernel
theorem dX11_init_64 : decode cX11_init 64 = .ok (.dup, 1) := by decide +kernel
theorem dX11_init_65 : decode cX11_init 65 = .ok (.iconst 1, 1) := by decide +kernel
theorem dX11_init_66 : decode cX11_init 66 = .ok (.bipush 105, 2) := by decide +kernel
theorem dX11_init_68 : decode cX11_init 68 = .ok (.castore, 1) := by decide +kernel
theorem dX11_init_69 : decode cX11_init 69 = .ok (.dup, 1) := by decide +kernel
theorem dX11_init_70 : decode cX11_init 70 = .ok (.iconst 2, 1) := by decide +kernel
theorem dX11_init_71 : decode cX11_init 71 = .ok (.bipush 122, 2) := by decide +kernel
theorem dX11_init_73 : decode cX11_init 73 = .ok (.castore, 1) := by decide +kernel
theorem dX11_init_74 : decode cX11_init 74 = .ok (.dup, 1) := by decide +kernel
theorem dX11_init_75 : decode cX11_init 75 = .ok (.iconst 3, 1) := by decide +kernel
theorem dX11_init_76 : decode cX11_init 76 = .ok (.bipush 101, 2) := by decide +kernel
theorem dX11_init_78 : decode cX11_init 78 = .ok (.castore, 1) := by decide +kernel
theorem dX11_init_79 : decode cX11_init 79 = .ok (.dup, 1) := by decide +kernel
theorem dX11_init_80 : decode cX11_init 80 = .ok (.iconst 4, 1) := by decide +kernel
theorem dX11_init_81 : decode cX11_init 81 = .ok (.bipush 103, 2) := by decide +kernel
theorem dX11_init_83 : decode cX11_init 83 = .ok (.castore, 1) := by decide +kernel
theorem dX11_init_84 : decode cX11_init 84 = .ok (.dup, 1) := by decide +kernel
theorem dX11_init_85 : decode cX11_init 85 = .ok (.iconst 5, 1) := by decide +kernel
theorem dX11_init_86 : decode cX11_init 86 = .ok (.bipush 105, 2) := by decide +kernel
theorem dX11_init_88 : decode cX11_init 88 = .ok (.castore, 1) := by decide +kernel
theorem dX11_init_89 : decode cX11_init 89 = .ok (.dup, 1) := by decide +kernel
theorem dX11_init_90 : decode cX11_init 90 = .ok (.bipush 6, 2) := by decide +kernel
theorem dX11_init_92 : decode cX11_init 92 = .ok (.bipush 118, 2) := by decide +kernel
theorem dX11_init_94 : decode cX11_init 94 = .ok (.castore, 1) := by decide +kernel
theorem dX11_init_95 : decode cX11_init 95 = .ok (.dup, 1) := by decide +kernel
theorem dX11_init_96 : decode cX11_init 96 = .ok (.bipush 7, 2) := by decide +kernel
theorem dX11_init_98 : decode cX11_init 98 = .ok (.bipush 101, 2) := by decide +kernel
theorem dX11_init_100 : decode cX11_init 100 = .ok (.castore, 1) := by decide +kernel
theorem dX11_init_101 : decode cX11_init 101 = .ok (.dup, 1) := by decide +kernel
theorem dX11_init_102 : decode cX11_init 102 = .ok (.bipush 8, 2) := by decide +kernel
theorem dX11_init_104 : decode cX11_init 104 = .ok (.bipush 102, 2) := by decide +kernel
theorem dX11_init_106 : decode cX11_init 106 = .ok (.castore, 1) := by decide +kernel
theorem dX11_init_107 : decode cX11_init 107 = .ok (.dup, 1) := by decide +kernel
theorem dX11_init_108 : decode cX11_init 108 = .ok (.bipush 9, 2) := by decide +kernel
theorem dX11_init_110 : decode cX11_init 110 = .ok (.bipush 105, 2) := by decide +kernel
theorem dX11_init_112 : decode cX11_init 112 = .ok (.castore, 1) := by decide +kernel
theorem dX11_init_113 : decode cX11_init 113 = .ok (.dup, 1) := by decide +kernel
theorem dX11_init_114 : decode cX11_init 114 = .ok (.bipush 10, 2) := by decide +kernel
theorem dX11_init_116 : decode cX11_init 116 = .ok (.bipush 110, 2) := by decide +kernel
theorem dX11_init_118 : decode cX11_init 118 = .ok (.castore, 1) := by decide +kernel
theorem dX11_init_119 : decode cX11_init 119 = .ok (.dup, 1) := by decide +kernel
theorem dX11_init_120 : decode cX11_init 120 = .ok (.bipush 11, 2) := by decide +kernel
theorem dX11_init_122 : decode cX11_init 122 = .ok (.bipush 101, 2) := by decide +kernel
theorem dX11_init_124 : decode cX11_init 124 = .ok (.castore, 1) := by decide +kernel
theorem dX11_init_125 : decode cX11_init 125 = .ok (.putfield 28, 3) := by decide +kernel
theorem dX11_init_128 : decode cX11_init 128 = .ok (.aload_n 0, 1) := by decide +kernel
theorem dX11_init_129 : decode cX11_init 129 = .ok (.iconst 4, 1) := by decide +kernel
theorem dX11_init_130 : decode cX11_init 130 = .ok (.newarray .int, 2) := by decide +kernel
theorem dX11_init_132 : decode cX11_init 132 = .ok (.dup, 1) := by decide +kernel
theorem dX11_init_133 : decode cX11_init 133 = .ok (.iconst 0, 1) := by decide +kernel
theorem dX11_init_134 : decode cX11_init 134 = .ok (.iconst 0, 1) := by decide +kernel
theorem dX11_init_135 : decode cX11_init 135 = .ok (.iastore, 1) := by decide +kernel
theorem dX11_init_136 : decode cX11_init 136 = .ok (.dup, 1) := by decide +kernel
theorem dX11_init_137 : decode cX11_init 137 = .ok (.iconst 1, 1) := by decide +kernel
theorem dX11_init_138 : decode cX11_init 138 = .ok (.iconst 4, 1) := by decide +kernel
theorem dX11_init_139 : decode cX11_init 139 = .ok (.iastore, 1) := by decide +kernel
theorem dX11_init_140 : decode cX11_init 140 = .ok (.dup, 1) := by decide +kernel
theorem dX11_init_141 : decode cX11_init 141 = .ok (.iconst 2, 1) := by decide +kernel
theorem dX11_init_142 : decode cX11_init 142 = .ok (.bipush 8, 2) := by decide +kernel
theorem dX11_init_144 : decode cX11_init 144 = .ok (.iastore, 1) := by decide +kernel
theorem dX11_init_145 : decode cX11_init 145 = .ok (.dup, 1) := by decide +kernel
theorem dX11_init_146 : decode cX11_init 146 = .ok (.iconst 3, 1) := by decide +kernel
theorem dX11_init_147 : decode cX11_init 147 = .ok (.bipush 12, 2) := by decide +kernel
theorem dX11_init_149 : decode cX11_init 149 = .ok (.iastore, 1) := by decide +kernel
theorem dX11_init_150 : decode cX11_init 150 = .ok (.putfield 32, 3) := by decide +kernel
theorem dX11_init_153 : decode cX11_init 153 = .ok (.aload_n 0, 1) := by decide +kernel
theorem dX11_init_154 : decode cX11_init 154 = .ok (.bipush 96, 2) := by decide +kernel
theorem dX11_init_156 : decode cX11_init 156 = .ok (.newarray .int, 2) := by decide +kernel
theorem dX11_init_158 : decode cX11_init 158 = .ok (.putfield 35, 3) := by decide +kernel
theorem dX11_init_161 : decode cX11_init 161 = .ok (.aload_n 0, 1) := by decide +kernel
theorem dX11_init_162 : decode cX11_init 162 = .ok (.bipush 96, 2) := by decide +kernel
theorem dX11_init_164 : decode cX11_init 164 = .ok (.newarray .int, 2) := by decide +kernel
theorem dX11_init_166 : decode cX11_init 166 = .ok (.putfield 38, 3) := by decide +kernel
theorem dX11_init_169 : decode cX11_init 169 = .ok (.aload_n 0, 1) := by decide +kernel
theorem dX11_init_170 : decode cX11_init 170 = .ok (.bipush 10, 2) := by decide +kernel
theorem dX11_init_172 : decode cX11_init 172 = .ok (.newarray .boolean, 2) := by decide +kernel
theorem dX11_init_174 : decode cX11_init 174 = .ok (.putfield 41, 3) := by decide +kernel
theorem dX11_init_177 : decode cX11_init 177 = .ok (.aload_n 0, 1) := by decide +kernel
theorem dX11_init_178 : decode cX11_init 178 = .ok (.bipush 96, 2) := by decide +kernel
theorem dX11_init_180 : decode cX11_init 180 = .ok (.newarray .int, 2) := by decide +kernel
theorem dX11_init_182 : decode cX11_init 182 = .ok (.putfield 45, 3) := by decide +kernel
theorem dX11_init_185 : decode cX11_init 185 = .ok (.aload_n 0, 1) := by decide +kernel
theorem dX11_init_186 : decode cX11_init 186 = .ok (.iconst 4, 1) := by decide +kernel
theorem dX11_init_187 : decode cX11_init 187 = .ok (.newarray .int, 2) := by decide +kernel
theorem dX11_init_189 : decode cX11_init 189 = .ok (.putfield 48, 3) := by decide +kernel
theorem dX11_init_192 : decode cX11_init 192 = .ok (.aload_n 0, 1) := by decide +kernel
theorem dX11_init_193 : decode cX11_init 193 = .ok (.iconst 4, 1) := by decide +kernel
theorem dX11_init_194 : decode cX11_init 194 = .ok (.newarray .int, 2) := by decide +kernel
theorem dX11_init_196 : decode cX11_init 196 = .ok (.dup, 1) := by decide +kernel
theorem dX11_init_197 : decode cX11_init 197 = .ok (.iconst 0, 1) := by decide +kernel
theorem dX11_init_198 : decode cX11_init 198 = .ok (.iconst (-1), 1) := by decide +kernel
theorem dX11_init_199 : decode cX11_init 199 = .ok (.iastore, 1) := by decide +kernel
theorem dX11_init_200 : decode cX11_init 200 = .ok (.dup, 1) := by decide +kernel
theorem dX11_init_201 : decode cX11_init 201 = .ok (.iconst 1, 1) := by decide +kernel
theorem dX11_init_202 : decode cX11_init 202 = .ok (.iconst (-1), 1) := by decide +kernel
theorem dX11_init_203 : decode cX11_init 203 = .ok (.iastore, 1) := by decide +kernel
theorem dX11_init_204 : decode cX11_init 204 = .ok (.dup, 1) := by decide +kernel
theorem dX11_init_205 : decode cX11_init 205 = .ok (.iconst 2, 1) := by decide +kernel
theorem dX11_init_206 : decode cX11_init 206 = .ok (.iconst (-1), 1) := by decide +kernel
theorem dX11_init_207 : decode cX11_init 207 = .ok (.iastore, 1) := by decide +kernel
theorem dX11_init_208 : decode cX11_init 208 = .ok (.dup, 1) := by decide +kernel
theorem dX11_init_209 : decode cX11_init 209 = .ok (.iconst 3, 1) := by decide +kernel
theorem dX11_init_210 : decode cX11_init 210 = .ok (.iconst (-1), 1) := by decide +kernel
theorem dX11_init_211 : decode cX11_init 211 = .ok (.iastore, 1) := by decide +kernel
theorem dX11_init_212 : decode cX11_init 212 = .ok (.putfield 51, 3) := by decide +kernel
theorem dX11_init_215 : decode cX11_init 215 = .ok (.aload_n 0, 1) := by decide +kernel
theorem dX11_init_216 : decode cX11_init 216 = .ok (.iconst 4, 1) := by decide +kernel
theorem dX11_init_217 : decode cX11_init 217 = .ok (.newarray .int, 2) := by decide +kernel
theorem dX11_init_219 : decode cX11_init 219 = .ok (.putfield 54, 3) := by decide +kernel
theorem dX11_init_222 : decode cX11_init 222 = .ok (.aload_n 0, 1) := by decide +kernel
theorem dX11_init_223 : decode cX11_init 223 = .ok (.bipush 96, 2) := by decide +kernel
theorem dX11_init_225 : decode cX11_init 225 = .ok (.newarray .int, 2) := by decide +kernel
theorem dX11_init_227 : decode cX11_init 227 = .ok (.putfield 57, 3) := by decide +kernel
theorem dX11_init_230 : decode cX11_init 230 = .ok (.aload_n 0, 1) := by decide +kernel
theorem dX11_init_231 : decode cX11_init 231 = .ok (.iconst 5, 1) := by decide +kernel
theorem dX11_init_232 : decode cX11_init 232 = .ok (.newarray .int, 2) := by decide +kernel
theorem dX11_init_234 : decode cX11_init 234 = .ok (.putfield 60, 3) := by decide +kernel
theorem dX11_init_237 : decode cX11_init 237 = .ok (.aload_n 0, 1) := by decide +kernel
theorem dX11_init_238 : decode cX11_init 238 = .ok (.iconst 5, 1) := by decide +kernel
theorem dX11_init_239 : decode cX11_init 239 = .ok (.newarray .int, 2) := by decide +kernel
theorem dX11_init_241 : decode cX11_init 241 = .ok (.putfield 63, 3) := by decide +kernel
theorem dX11_init_244 : decode cX11_init 244 = .ok (.aload_n 0, 1) := by decide +kernel
theorem dX11_init_245 : decode cX11_init 245 = .ok (.iconst 5, 1) := by decide +kernel
theorem dX11_init_246 : decode cX11_init 246 = .ok (.newarray .int, 2) := by decide +kernel
theorem dX11_init_248 : decode cX11_init 248 = .ok (.putfield 66, 3) := by decide +kernel
theorem dX11_init_251 : decode cX11_init 251 = .ok (.aload_n 0, 1) := by decide +kernel
theorem dX11_init_252 : decode cX11_init 252 = .ok (.bipush 120, 2) := by decide +kernel
theorem dX11_init_254 : decode cX11_init 254 = .ok (.newarray .int, 2) := by decide +kernel
theorem dX11_init_256 : decode cX11_init 256 = .ok (.putfield 69, 3) := by decide +kernel
theorem dX11_init_259 : decode cX11_init 259 = .ok (.aload_n 0, 1) := by decide +kernel
theorem dX11_init_260 : decode cX11_init 260 = .ok (.bipush 24, 2) := by decide +kernel
theorem dX11_init_262 : decode cX11_init 262 = .ok (.newarray .int, 2) := by decide +kernel
theorem dX11_init_264 : decode cX11_init 264 = .ok (.putfield 72, 3) := by decide +kernel
theorem dX11_init_267 : decode cX11_init 267 = .ok (.aload_n 0, 1) := by decide +kernel
theorem dX11_init_268 : decode cX11_init 268 = .ok (.bipush 60, 2) := by decide +kernel
theorem dX11_init_270 : decode cX11_init 270 = .ok (.newarray .int, 2) := by decide +kernel
theorem dX11_init_272 : decode cX11_init 272 = .ok (.putfield 75, 3) := by decide +kernel
theorem dX11_init_275 : decode cX11_init 275 = .ok (.aload_n 0, 1) := by decide +kernel
theorem dX11_init_276 : decode cX11_init 276 = .ok (.getfield 9, 3) := by decide +kernel
theorem dX11_init_279 : decode cX11_init 279 = .ok (.iconst 0, 1) := by decide +kernel
theorem dX11_init_280 : decode cX11_init 280 = .ok (.iconst 1, 1) := by decide +kernel
theorem dX11_init_281 : decode cX11_init 281 = .ok (.iastore, 1) := by decide +kernel
theorem dX11_init_282 : decode cX11_init 282 = .ok (.aload_n 0, 1) := by decide +kernel
theorem dX11_init_283 : decode cX11_init 283 = .ok (.getfield 9, 3) := by decide +kernel
theorem dX11_init_286 : decode cX11_init 286 = .ok (.iconst 3, 1) := by decide +kernel
theorem dX11_init_287 : decode cX11_init 287 = .ok (.iconst 5, 1) := by decide +kernel
theorem dX11_init_288 : decode cX11_init 288 = .ok (.iastore, 1) := by decide +kernel
theorem dX11_init_289 : decode cX11_init 289 = .ok (.aload_n 0, 1) := by decide +kernel
theorem dX11_init_290 : decode cX11_init 290 = .ok (.getfield 9, 3) := by decide +kernel
theorem dX11_init_293 : decode cX11_init 293 = .ok (.iconst 4, 1) := by decide +kernel
theorem dX11_init_294 : decode cX11_init 294 = .ok (.iconst 3, 1) := by decide +kernel
theorem dX11_init_295 : decode cX11_init 295 = .ok (.iastore, 1) := by decide +kernel
theorem dX11_init_296 : decode cX11_init 296 = .ok (.iconst 0, 1) := by decide +kernel
theorem dX11_init_297 : decode cX11_init 297 = .ok (.istore_n 1, 1) := by decide +kernel
theorem dX11_init_298 : decode cX11_init 298 = .ok (.iload_n 1, 1) := by decide +kernel
theorem dX11_init_299 : decode cX11_init 299 = .ok (.bipush 6, 2) := by decide +kernel
theorem dX11_init_301 : decode cX11_init 301 = .ok (.if_icmp .ge 19, 3) := by decide +kernel
theorem dX11_init_304 : decode cX11_init 304 = .ok (.aload_n 0, 1) := by decide +kernel
theorem dX11_init_305 : decode cX11_init 305 = .ok (.getfield 9, 3) := by decide +kernel
theorem dX11_init_308 : decode cX11_init 308 = .ok (.bipush 10, 2) := by decide +kernel
theorem dX11_init_310 : decode cX11_init 310 = .ok (.iload_n 1, 1) := by decide +kernel
theorem dX11_init_311 : decode cX11_init 311 = .ok (.iadd, 1) := by decide +kernel
theorem dX11_init_312 : decode cX11_init 312 = .ok (.iconst (-1), 1) := by decide +kernel
theorem dX11_init_313 : decode cX11_init 313 = .ok (.iastore, 1) := by decide +kernel
theorem dX11_init_314 : decode cX11_init 314 = .ok (.iinc 1 1, 3) := by decide +kernel
theorem dX11_init_317 : decode cX11_init 317 = .ok (.goto (-19), 3) := by decide +kernel
theorem dX11_init_320 : decode cX11_init 320 = .ok (.return_, 1) := by decide +kernel
theorem dX11_in_0 : decode cX11_in 0 = .ok (.iload_n 0, 1) := by decide +kernel
theorem dX11_in_1 : decode cX11_in 1 = .ok (.iload_n 1, 1) := by decide +kernel
theorem dX11_in_2 : decode cX11_in 2 = .ok (.if_icmp .lt 12, 3) := by decide +kernel
theorem dX11_in_5 : decode cX11_in 5 = .ok (.iload_n 0, 1) := by decide +kernel
theorem dX11_in_6 : decode cX11_in 6 = .ok (.iload_n 2, 1) := by decide +kernel
theorem dX11_in_7 : decode cX11_in 7 = .ok (.if_icmp .gt 7, 3) := by decide +kernel
theorem dX11_in_10 : decode cX11_in 10 = .ok (.iconst 1, 1) := by decide +kernel
theorem dX11_in_11 : decode cX11_in 11 = .ok (.goto 4, 3) := by decide +kernel
theorem dX11_in_14 : decode cX11_in 14 = .ok (.iconst 0, 1) := by decide +kernel
theorem dX11_in_15 : decode cX11_in 15 = .ok (.ireturn, 1) := by decide +kernel
theorem dX11_within_0 : decode cX11_within 0 = .ok (.iload_n 0, 1) := by decide +kernel
theorem dX11_within_1 : decode cX11_within 1 = .ok (.iload_n 1, 1) := by decide +kernel
theorem dX11_within_2 : decode cX11_within 2 = .ok (.if_icmp .ge 7, 3) := by decide +kernel
theorem dX11_within_5 : decode cX11_within 5 = .ok (.iload_n 1, 1) := by decide +kernel
theorem dX11_within_6 : decode cX11_within 6 = .ok (.goto 13, 3) := by decide +kernel
theorem dX11_within_9 : decode cX11_within 9 = .ok (.iload_n 0, 1) := by decide +kernel
theorem dX11_within_10 : decode cX11_within 10 = .ok (.iload_n 2, 1) := by decide +kernel
theorem dX11_within_11 : decode cX11_within 11 = .ok (.if_icmp .le 7, 3) := by decide +kernel
theorem dX11_within_14 : decode cX11_within 14 = .ok (.iload_n 2, 1) := by decide +kernel
theorem dX11_within_15 : decode cX11_within 15 = .ok (.goto 4, 3) := by decide +kernel
theorem dX11_within_18 : decode cX11_within 18 = .ok (.iload_n 0, 1) := by decide +kernel
theorem dX11_within_19 : decode cX11_within 19 = .ok (.ireturn, 1) := by decide +kernel
theorem dX11_copyAll_0 : decode cX11_copyAll 0 = .ok (.iconst 0, 1) := by decide +kernel
theorem dX11_copyAll_1 : decode cX11_copyAll 1 = .ok (.istore_n 2, 1) := by decide +kernel
theorem dX11_copyAll_2 : decode cX11_copyAll 2 = .ok (.iload_n 2, 1) := by decide +kernel
theorem dX11_copyAll_3 : decode cX11_copyAll 3 = .ok (.sipush 1488, 3) := by decide +kernel
theorem dX11_copyAll_6 : decode cX11_copyAll 6 = .ok (.if_icmp .ge 15, 3) := by decide +kernel
theorem dX11_copyAll_9 : decode cX11_copyAll 9 = .ok (.aload_n 1, 1) := by decide +kernel
theorem dX11_copyAll_10 : decode cX11_copyAll 10 = .ok (.iload_n 2, 1) := by decide +kernel
theorem dX11_copyAll_11 : decode cX11_copyAll 11 = .ok (.aload_n 0, 1) := by decide +kernel
theorem dX11_copyAll_12 : decode cX11_copyAll 12 = .ok (.iload_n 2, 1) := by decide +kernel
theorem dX11_copyAll_13 : decode cX11_copyAll 13 = .ok (.iaload, 1) := by decide +kernel
theorem dX11_copyAll_14 : decode cX11_copyAll 14 = .ok (.iastore, 1) := by decide +kernel
theorem dX11_copyAll_15 : decode cX11_copyAll 15 = .ok (.iinc 2 1, 3) := by decide +kernel
theorem dX11_copyAll_18 : decode cX11_copyAll 18 = .ok (.goto (-16), 3) := by decide +kernel
theorem dX11_copyAll_21 : decode cX11_copyAll 21 = .ok (.return_, 1) := by decide +kernel
theorem dX11_isYard_0 : decode cX11_isYard 0 = .ok (.iload_n 1, 1) := by decide +kernel
theorem dX11_isYard_1 : decode cX11_isYard 1 = .ok (.iconst 0, 1) := by decide +kernel
theorem dX11_isYard_2 : decode cX11_isYard 2 = .ok (.aload_n 0, 1) := by decide +kernel
theorem dX11_isYard_3 : decode cX11_isYard 3 = .ok (.getfield 9, 3) := by decide +kernel
theorem dX11_isYard_6 : decode cX11_isYard 6 = .ok (.iconst 1, 1) := by decide +kernel
theorem dX11_isYard_7 : decode cX11_isYard 7 = .ok (.iaload, 1) := by decide +kernel
theorem dX11_isYard_8 : decode cX11_isYard 8 = .ok (.iconst 1, 1) := by decide +kernel
theorem dX11_isYard_9 : decode cX11_isYard 9 = .ok (.isub, 1) := by decide +kernel
theorem dX11_isYard_10 : decode cX11_isYard 10 = .ok (.invokestatic 78, 3) := by decide +kernel
theorem dX11_isYard_13 : decode cX11_isYard 13 = .ok (.ireturn, 1) := by decide +kernel
theorem dX11_of_0 : decode cX11_of 0 = .ok (.aload_n 0, 1) := by decide +kernel
theorem dX11_of_1 : decode cX11_of 1 = .ok (.getfield 9, 3) := by decide +kernel
theorem dX11_of_4 : decode cX11_of 4 = .ok (.bipush 76, 2) := by decide +kernel
theorem dX11_of_6 : decode cX11_of 6 = .ok (.iconst 4, 1) := by decide +kernel
theorem dX11_of_7 : decode cX11_of 7 = .ok (.iload_n 1, 1) := by decide +kernel
theorem dX11_of_8 : decode cX11_of 8 = .ok (.imul, 1) := by decide +kernel
theorem dX11_of_9 : decode cX11_of 9 = .ok (.iadd, 1) := by decide +kernel
theorem dX11_of_10 : decode cX11_of 10 = .ok (.iload_n 2, 1) := by decide +kernel
theorem dX11_of_11 : decode cX11_of 11 = .ok (.iadd, 1) := by decide +kernel
theorem dX11_of_12 : decode cX11_of 12 = .ok (.iaload, 1) := by decide +kernel
theorem dX11_of_13 : decode cX11_of 13 = .ok (.ireturn, 1) := by decide +kernel
theorem dX11_put_0 : decode cX11_put 0 = .ok (.aload_n 0, 1) := by decide +kernel
theorem dX11_put_1 : decode cX11_put 1 = .ok (.getfield 9, 3) := by decide +kernel
theorem dX11_put_4 : decode cX11_put 4 = .ok (.bipush 76, 2) := by decide +kernel
theorem dX11_put_6 : decode cX11_put 6 = .ok (.iconst 4, 1) := by decide +kernel
theorem dX11_put_7 : decode cX11_put 7 = .ok (.iload_n 1, 1) := by decide +kernel
theorem dX11_put_8 : decode cX11_put 8 = .ok (.imul, 1) := by decide +kernel
theorem dX11_put_9 : decode cX11_put 9 = .ok (.iadd, 1) := by decide +kernel
theorem dX11_put_10 : decode cX11_put 10 = .ok (.iload_n 2, 1) := by decide +kernel
theorem dX11_put_11 : decode cX11_put 11 = .ok (.iadd, 1) := by decide +kernel
theorem dX11_put_12 : decode cX11_put 12 = .ok (.iload_n 3, 1) := by decide +kernel
theorem dX11_put_13 : decode cX11_put 13 = .ok (.iastore, 1) := by decide +kernel
theorem dX11_put_14 : decode cX11_put 14 = .ok (.return_, 1) := by decide +kernel
theorem dX11_becomes_0 : decode cX11_becomes 0 = .ok (.aload_n 0, 1) := by decide +kernel
theorem dX11_becomes_1 : decode cX11_becomes 1 = .ok (.getfield 9, 3) := by decide +kernel
theorem dX11_becomes_4 : decode cX11_becomes 4 = .ok (.iload_n 1, 1) := by decide +kernel
theorem dX11_becomes_5 : decode cX11_becomes 5 = .ok (.iaload, 1) := by decide +kernel
theorem dX11_becomes_6 : decode cX11_becomes 6 = .ok (.istore_n 3, 1) := by decide +kernel
theorem dX11_becomes_7 : decode cX11_becomes 7 = .ok (.aload_n 0, 1) := by decide +kernel
theorem dX11_becomes_8 : decode cX11_becomes 8 = .ok (.getfield 9, 3) := by decide +kernel
theorem dX11_becomes_11 : decode cX11_becomes 11 = .ok (.iload_n 1, 1) := by decide +kernel
theorem dX11_becomes_12 : decode cX11_becomes 12 = .ok (.iload_n 2, 1) := by decide +kernel
theorem dX11_becomes_13 : decode cX11_becomes 13 = .ok (.iastore, 1) := by decide +kernel
theorem dX11_becomes_14 : decode cX11_becomes 14 = .ok (.iload_n 3, 1) := by decide +kernel
theorem dX11_becomes_15 : decode cX11_becomes 15 = .ok (.ireturn, 1) := by decide +kernel
theorem dX11_comes_0 : decode cX11_comes 0 = .ok (.aload_n 0, 1) := by decide +kernel
theorem dX11_comes_1 : decode cX11_comes 1 = .ok (.getfield 9, 3) := by decide +kernel
theorem dX11_comes_4 : decode cX11_comes 4 = .ok (.iconst 1, 1) := by decide +kernel
theorem dX11_comes_5 : decode cX11_comes 5 = .ok (.iaload, 1) := by decide +kernel
theorem dX11_comes_6 : decode cX11_comes 6 = .ok (.istore 4, 2) := by decide +kernel
theorem dX11_comes_8 : decode cX11_comes 8 = .ok (.aload_n 0, 1) := by decide +kernel
theorem dX11_comes_9 : decode cX11_comes 9 = .ok (.iload 4, 2) := by decide +kernel
theorem dX11_comes_11 : decode cX11_comes 11 = .ok (.iconst 0, 1) := by decide +kernel
theorem dX11_comes_12 : decode cX11_comes 12 = .ok (.iload_n 1, 1) := by decide +kernel
theorem dX11_comes_13 : decode cX11_comes 13 = .ok (.invokevirtual 82, 3) := by decide +kernel
theorem dX11_comes_16 : decode cX11_comes 16 = .ok (.aload_n 0, 1) := by decide +kernel
theorem dX11_comes_17 : decode cX11_comes 17 = .ok (.iload 4, 2) := by decide +kernel
theorem dX11_comes_19 : decode cX11_comes 19 = .ok (.iconst 1, 1) := by decide +kernel
theorem dX11_comes_20 : decode cX11_comes 20 = .ok (.iload_n 2, 1) := by decide +kernel
theorem dX11_comes_21 : decode cX11_comes 21 = .ok (.invokevirtual 82, 3) := by decide +kernel
theorem dX11_comes_24 : decode cX11_comes 24 = .ok (.aload_n 0, 1) := by decide +kernel
theorem dX11_comes_25 : decode cX11_comes 25 = .ok (.iload 4, 2) := by decide +kernel
theorem dX11_comes_27 : decode cX11_comes 27 = .ok (.iconst 2, 1) := by decide +kernel
theorem dX11_comes_28 : decode cX11_comes 28 = .ok (.iload_n 3, 1) := by decide +kernel
theorem dX11_comes_29 : decode cX11_comes 29 = .ok (.invokevirtual 82, 3) := by decide +kernel
theorem dX11_comes_32 : decode cX11_comes 32 = .ok (.aload_n 0, 1) := by decide +kernel
theorem dX11_comes_33 : decode cX11_comes 33 = .ok (.iload 4, 2) := by decide +kernel
theorem dX11_comes_35 : decode cX11_comes 35 = .ok (.iconst 3, 1) := by decide +kernel
theorem dX11_comes_36 : decode cX11_comes 36 = .ok (.iconst 0, 1) := by decide +kernel
theorem dX11_comes_37 : decode cX11_comes 37 = .ok (.invokevirtual 82, 3) := by decide +kernel
theorem dX11_comes_40 : decode cX11_comes 40 = .ok (.aload_n 0, 1) := by decide +kernel
theorem dX11_comes_41 : decode cX11_comes 41 = .ok (.getfield 9, 3) := by decide +kernel
theorem dX11_comes_44 : decode cX11_comes 44 = .ok (.iconst 1, 1) := by decide +kernel
theorem dX11_comes_45 : decode cX11_comes 45 = .ok (.dup2, 1) := by decide +kernel
theorem dX11_comes_46 : decode cX11_comes 46 = .ok (.iaload, 1) := by decide +kernel
theorem dX11_comes_47 : decode cX11_comes 47 = .ok (.iconst 1, 1) := by decide +kernel
theorem dX11_comes_48 : decode cX11_comes 48 = .ok (.iadd, 1) := by decide +kernel
theorem dX11_comes_49 : decode cX11_comes 49 = .ok (.iastore, 1) := by decide +kernel
theorem dX11_comes_50 : decode cX11_comes 50 = .ok (.iload 4, 2) := by decide +kernel
theorem dX11_comes_52 : decode cX11_comes 52 = .ok (.ireturn, 1) := by decide +kernel
theorem dX11_isOf_0 : decode cX11_isOf 0 = .ok (.iload_n 1, 1) := by decide +kernel
theorem dX11_isOf_1 : decode cX11_isOf 1 = .ok (.iload_n 0, 1) := by decide +kernel
theorem dX11_isOf_2 : decode cX11_isOf 2 = .ok (.iconst 1, 1) := by decide +kernel
theorem dX11_isOf_3 : decode cX11_isOf 3 = .ok (.if_icmp .ne 7, 3) := by decide +kernel
theorem dX11_isOf_6 : decode cX11_isOf 6 = .ok (.iconst 0, 1) := by decide +kernel
theorem dX11_isOf_7 : decode cX11_isOf 7 = .ok (.goto 4, 3) := by decide +kernel
theorem dX11_isOf_10 : decode cX11_isOf 10 = .ok (.iconst 1, 1) := by decide +kernel
theorem dX11_isOf_11 : decode cX11_isOf 11 = .ok (.sipush 999, 3) := by decide +kernel
theorem dX11_isOf_14 : decode cX11_isOf 14 = .ok (.invokestatic 78, 3) := by decide +kernel
theorem dX11_isOf_17 : decode cX11_isOf 17 = .ok (.ireturn, 1) := by decide +kernel
theorem dX11_yard_0 : decode cX11_yard 0 = .ok (.iload_n 1, 1) := by decide +kernel
theorem dX11_yard_1 : decode cX11_yard 1 = .ok (.iconst 0, 1) := by decide +kernel
theorem dX11_yard_2 : decode cX11_yard 2 = .ok (.iconst 5, 1) := by decide +kernel
theorem dX11_yard_3 : decode cX11_yard 3 = .ok (.invokestatic 78, 3) := by decide +kernel
theorem dX11_yard_6 : decode cX11_yard 6 = .ok (.ifCond .eq 19, 3) := by decide +kernel
theorem dX11_yard_9 : decode cX11_yard 9 = .ok (.iconst 1, 1) := by decide +kernel
theorem dX11_yard_10 : decode cX11_yard 10 = .ok (.iload_n 2, 1) := by decide +kernel
theorem dX11_yard_11 : decode cX11_yard 11 = .ok (.invokestatic 86, 3) := by decide +kernel
theorem dX11_yard_14 : decode cX11_yard 14 = .ok (.ifCond .eq 11, 3) := by decide +kernel
theorem dX11_yard_17 : decode cX11_yard 17 = .ok (.iconst 2, 1) := by decide +kernel
theorem dX11_yard_18 : decode cX11_yard 18 = .ok (.iload_n 3, 1) := by decide +kernel
theorem dX11_yard_19 : decode cX11_yard 19 = .ok (.invokestatic 86, 3) := by decide +kernel
theorem dX11_yard_22 : decode cX11_yard 22 = .ok (.ifCond .ne 6, 3) := by decide +kernel
theorem dX11_yard_25 : decode cX11_yard 25 = .ok (.ldc 90, 2) := by decide +kernel
theorem dX11_yard_27 : decode cX11_yard 27 = .ok (.ireturn, 1) := by decide +kernel
theorem dX11_yard_28 : decode cX11_yard 28 = .ok (.aload_n 0, 1) := by decide +kernel
theorem dX11_yard_29 : decode cX11_yard 29 = .ok (.getfield 9, 3) := by decide +kernel
theorem dX11_yard_32 : decode cX11_yard 32 = .ok (.iconst 1, 1) := by decide +kernel
theorem dX11_yard_33 : decode cX11_yard 33 = .ok (.iaload, 1) := by decide +kernel
theorem dX11_yard_34 : decode cX11_yard 34 = .ok (.bipush 10, 2) := by decide +kernel
theorem dX11_yard_36 : decode cX11_yard 36 = .ok (.if_icmp .ne 8, 3) := by decide +kernel
theorem dX11_yard_39 : decode cX11_yard 39 = .ok (.ldc 91, 2) := by decide +kernel
theorem dX11_yard_41 : decode cX11_yard 41 = .ok (.goto 10, 3) := by decide +kernel
theorem dX11_yard_44 : decode cX11_yard 44 = .ok (.aload_n 0, 1) := by decide +kernel
theorem dX11_yard_45 : decode cX11_yard 45 = .ok (.iload_n 1, 1) := by decide +kernel
theorem dX11_yard_46 : decode cX11_yard 46 = .ok (.iload_n 2, 1) := by decide +kernel
theorem dX11_yard_47 : decode cX11_yard 47 = .ok (.iload_n 3, 1) := by decide +kernel
theorem dX11_yard_48 : decode cX11_yard 48 = .ok (.invokevirtual 92, 3) := by decide +kernel
theorem dX11_yard_51 : decode cX11_yard 51 = .ok (.ireturn, 1) := by decide +kernel
theorem dX11_weight_0 : decode cX11_weight 0 = .ok (.iconst 0, 1) := by decide +kernel
theorem dX11_weight_1 : decode cX11_weight 1 = .ok (.istore_n 1, 1) := by decide +kernel
theorem dX11_weight_2 : decode cX11_weight 2 = .ok (.iconst 0, 1) := by decide +kernel
theorem dX11_weight_3 : decode cX11_weight 3 = .ok (.istore_n 2, 1) := by decide +kernel
theorem dX11_weight_4 : decode cX11_weight 4 = .ok (.iload_n 2, 1) := by decide +kernel
theorem dX11_weight_5 : decode cX11_weight 5 = .ok (.aload_n 0, 1) := by decide +kernel
theorem dX11_weight_6 : decode cX11_weight 6 = .ok (.getfield 9, 3) := by decide +kernel
theorem dX11_weight_9 : decode cX11_weight 9 = .ok (.bipush 7, 2) := by decide +kernel
theorem dX11_weight_11 : decode cX11_weight 11 = .ok (.iaload, 1) := by decide +kernel
theorem dX11_weight_12 : decode cX11_weight 12 = .ok (.if_icmp .ge 25, 3) := by decide +kernel
theorem dX11_weight_15 : decode cX11_weight 15 = .ok (.iload_n 1, 1) := by decide +kernel
theorem dX11_weight_16 : decode cX11_weight 16 = .ok (.aload_n 0, 1) := by decide +kernel
theorem dX11_weight_17 : decode cX11_weight 17 = .ok (.getfield 9, 3) := by decide +kernel
theorem dX11_weight_20 : decode cX11_weight 20 = .ok (.bipush 16, 2) := by decide +kernel
theorem dX11_weight_22 : decode cX11_weight 22 = .ok (.iconst 2, 1) := by decide +kernel
theorem dX11_weight_23 : decode cX11_weight 23 = .ok (.iload_n 2, 1) := by decide +kernel
theorem dX11_weight_24 : decode cX11_weight 24 = .ok (.imul, 1) := by decide +kernel
theorem dX11_weight_25 : decode cX11_weight 25 = .ok (.iadd, 1) := by decide +kernel
theorem dX11_weight_26 : decode cX11_weight 26 = .ok (.iconst 1, 1) := by decide +kernel
theorem dX11_weight_27 : decode cX11_weight 27 = .ok (.iadd, 1) := by decide +kernel
theorem dX11_weight_28 : decode cX11_weight 28 = .ok (.iaload, 1) := by decide +kernel
theorem dX11_weight_29 : decode cX11_weight 29 = .ok (.iadd, 1) := by decide +kernel
theorem dX11_weight_30 : decode cX11_weight 30 = .ok (.istore_n 1, 1) := by decide +kernel
theorem dX11_weight_31 : decode cX11_weight 31 = .ok (.iinc 2 1, 3) := by decide +kernel
theorem dX11_weight_34 : decode cX11_weight 34 = .ok (.goto (-30), 3) := by decide +kernel
theorem dX11_weight_37 : decode cX11_weight 37 = .ok (.iload_n 1, 1) := by decide +kernel
theorem dX11_weight_38 : decode cX11_weight 38 = .ok (.ireturn, 1) := by decide +kernel
theorem dX11_wide_0 : decode cX11_wide 0 = .ok (.aload_n 0, 1) := by decide +kernel
theorem dX11_wide_1 : decode cX11_wide 1 = .ok (.iconst 0, 1) := by decide +kernel
theorem dX11_wide_2 : decode cX11_wide 2 = .ok (.invokevirtual 96, 3) := by decide +kernel
theorem dX11_wide_5 : decode cX11_wide 5 = .ok (.istore_n 1, 1) := by decide +kernel
theorem dX11_wide_6 : decode cX11_wide 6 = .ok (.aload_n 0, 1) := by decide +kernel
theorem dX11_wide_7 : decode cX11_wide 7 = .ok (.invokevirtual 100, 3) := by decide +kernel
theorem dX11_wide_10 : decode cX11_wide 10 = .ok (.istore_n 2, 1) := by decide +kernel
theorem dX11_wide_11 : decode cX11_wide 11 = .ok (.aload_n 0, 1) := by decide +kernel
theorem dX11_wide_12 : decode cX11_wide 12 = .ok (.getfield 48, 3) := by decide +kernel
theorem dX11_wide_15 : decode cX11_wide 15 = .ok (.iconst 0, 1) := by decide +kernel
theorem dX11_wide_16 : decode cX11_wide 16 = .ok (.iload_n 2, 1) := by decide +kernel
theorem dX11_wide_17 : decode cX11_wide 17 = .ok (.iastore, 1) := by decide +kernel
theorem dX11_wide_18 : decode cX11_wide 18 = .ok (.aload_n 0, 1) := by decide +kernel
theorem dX11_wide_19 : decode cX11_wide 19 = .ok (.getfield 48, 3) := by decide +kernel
theorem dX11_wide_22 : decode cX11_wide 22 = .ok (.iconst 1, 1) := by decide +kernel
theorem dX11_wide_23 : decode cX11_wide 23 = .ok (.aload_n 0, 1) := by decide +kernel
theorem dX11_wide_24 : decode cX11_wide 24 = .ok (.getfield 9, 3) := by decide +kernel
theorem dX11_wide_27 : decode cX11_wide 27 = .ok (.bipush 7, 2) := by decide +kernel
theorem dX11_wide_29 : decode cX11_wide 29 = .ok (.iaload, 1) := by decide +kernel
theorem dX11_wide_30 : decode cX11_wide 30 = .ok (.iastore, 1) := by decide +kernel
theorem dX11_wide_31 : decode cX11_wide 31 = .ok (.iload_n 1, 1) := by decide +kernel
theorem dX11_wide_32 : decode cX11_wide 32 = .ok (.ifCond .ge 10, 3) := by decide +kernel
theorem dX11_wide_35 : decode cX11_wide 35 = .ok (.iload_n 2, 1) := by decide +kernel
theorem dX11_wide_36 : decode cX11_wide 36 = .ok (.bipush 10, 2) := by decide +kernel
theorem dX11_wide_38 : decode cX11_wide 38 = .ok (.idiv, 1) := by decide +kernel
theorem dX11_wide_39 : decode cX11_wide 39 = .ok (.goto 8, 3) := by decide +kernel
theorem dX11_wide_42 : decode cX11_wide 42 = .ok (.aload_n 0, 1) := by decide +kernel
theorem dX11_wide_43 : decode cX11_wide 43 = .ok (.iload_n 1, 1) := by decide +kernel
theorem dX11_wide_44 : decode cX11_wide 44 = .ok (.invokevirtual 104, 3) := by decide +kernel
theorem dX11_wide_47 : decode cX11_wide 47 = .ok (.iconst 0, 1) := by decide +kernel
theorem dX11_wide_48 : decode cX11_wide 48 = .ok (.sipush 999, 3) := by decide +kernel
theorem dX11_wide_51 : decode cX11_wide 51 = .ok (.invokestatic 107, 3) := by decide +kernel
theorem dX11_wide_54 : decode cX11_wide 54 = .ok (.ireturn, 1) := by decide +kernel
theorem dX11_givesOf_0 : decode cX11_givesOf 0 = .ok (.aload_n 0, 1) := by decide +kernel
theorem dX11_givesOf_1 : decode cX11_givesOf 1 = .ok (.iload_n 1, 1) := by decide +kernel
theorem dX11_givesOf_2 : decode cX11_givesOf 2 = .ok (.iconst 1, 1) := by decide +kernel
theorem dX11_givesOf_3 : decode cX11_givesOf 3 = .ok (.invokevirtual 110, 3) := by decide +kernel
theorem dX11_givesOf_6 : decode cX11_givesOf 6 = .ok (.istore_n 2, 1) := by decide +kernel
theorem dX11_givesOf_7 : decode cX11_givesOf 7 = .ok (.aload_n 0, 1) := by decide +kernel
theorem dX11_givesOf_8 : decode cX11_givesOf 8 = .ok (.iconst 1, 1) := by decide +kernel
theorem dX11_givesOf_9 : decode cX11_givesOf 9 = .ok (.invokevirtual 96, 3) := by decide +kernel
theorem dX11_givesOf_12 : decode cX11_givesOf 12 = .ok (.istore_n 3, 1) := by decide +kernel
theorem dX11_givesOf_13 : decode cX11_givesOf 13 = .ok (.aload_n 0, 1) := by decide +kernel
theorem dX11_givesOf_14 : decode cX11_givesOf 14 = .ok (.getfield 48, 3) := by decide +kernel
theorem dX11_givesOf_17 : decode cX11_givesOf 17 = .ok (.iconst 0, 1) := by decide +kernel
theorem dX11_givesOf_18 : decode cX11_givesOf 18 = .ok (.iload_n 2, 1) := by decide +kernel
theorem dX11_givesOf_19 : decode cX11_givesOf 19 = .ok (.iastore, 1) := by decide +kernel
theorem dX11_givesOf_20 : decode cX11_givesOf 20 = .ok (.aload_n 0, 1) := by decide +kernel
theorem dX11_givesOf_21 : decode cX11_givesOf 21 = .ok (.getfield 48, 3) := by decide +kernel
theorem dX11_givesOf_24 : decode cX11_givesOf 24 = .ok (.iconst 1, 1) := by decide +kernel
theorem dX11_givesOf_25 : decode cX11_givesOf 25 = .ok (.aload_n 0, 1) := by decide +kernel
theorem dX11_givesOf_26 : decode cX11_givesOf 26 = .ok (.invokevirtual 100, 3) := by decide +kernel
theorem dX11_givesOf_29 : decode cX11_givesOf 29 = .ok (.iastore, 1) := by decide +kernel
theorem dX11_givesOf_30 : decode cX11_givesOf 30 = .ok (.aload_n 0, 1) := by decide +kernel
theorem dX11_givesOf_31 : decode cX11_givesOf 31 = .ok (.getfield 48, 3) := by decide +kernel
theorem dX11_givesOf_34 : decode cX11_givesOf 34 = .ok (.iconst 2, 1) := by decide +kernel
theorem dX11_givesOf_35 : decode cX11_givesOf 35 = .ok (.aload_n 0, 1) := by decide +kernel
theorem dX11_givesOf_36 : decode cX11_givesOf 36 = .ok (.getfield 9, 3) := by decide +kernel
theorem dX11_givesOf_39 : decode cX11_givesOf 39 = .ok (.iconst 2, 1) := by decide +kernel
theorem dX11_givesOf_40 : decode cX11_givesOf 40 = .ok (.iaload, 1) := by decide +kernel
theorem dX11_givesOf_41 : decode cX11_givesOf 41 = .ok (.iastore, 1) := by decide +kernel
theorem dX11_givesOf_42 : decode cX11_givesOf 42 = .ok (.iload_n 3, 1) := by decide +kernel
theorem dX11_givesOf_43 : decode cX11_givesOf 43 = .ok (.ifCond .ge 9, 3) := by decide +kernel
theorem dX11_givesOf_46 : decode cX11_givesOf 46 = .ok (.iload_n 2, 1) := by decide +kernel
theorem dX11_givesOf_47 : decode cX11_givesOf 47 = .ok (.iconst 2, 1) := by decide +kernel
theorem dX11_givesOf_48 : decode cX11_givesOf 48 = .ok (.idiv, 1) := by decide +kernel
theorem dX11_givesOf_49 : decode cX11_givesOf 49 = .ok (.goto 8, 3) := by decide +kernel
theorem dX11_givesOf_52 : decode cX11_givesOf 52 = .ok (.aload_n 0, 1) := by decide +kernel
theorem dX11_givesOf_53 : decode cX11_givesOf 53 = .ok (.iload_n 3, 1) := by decide +kernel
theorem dX11_givesOf_54 : decode cX11_givesOf 54 = .ok (.invokevirtual 104, 3) := by decide +kernel
theorem dX11_givesOf_57 : decode cX11_givesOf 57 = .ok (.iconst 0, 1) := by decide +kernel
theorem dX11_givesOf_58 : decode cX11_givesOf 58 = .ok (.iload_n 2, 1) := by decide +kernel
theorem dX11_givesOf_59 : decode cX11_givesOf 59 = .ok (.invokestatic 107, 3) := by decide +kernel
theorem dX11_givesOf_62 : decode cX11_givesOf 62 = .ok (.istore 4, 2) := by decide +kernel
theorem dX11_givesOf_64 : decode cX11_givesOf 64 = .ok (.iload 4, 2) := by decide +kernel
theorem dX11_givesOf_66 : decode cX11_givesOf 66 = .ok (.bipush 10, 2) := by decide +kernel
theorem dX11_givesOf_68 : decode cX11_givesOf 68 = .ok (.iadd, 1) := by decide +kernel
theorem dX11_givesOf_69 : decode cX11_givesOf 69 = .ok (.iconst 0, 1) := by decide +kernel
theorem dX11_givesOf_70 : decode cX11_givesOf 70 = .ok (.iload_n 2, 1) := by decide +kernel
theorem dX11_givesOf_71 : decode cX11_givesOf 71 = .ok (.invokestatic 107, 3) := by decide +kernel
theorem dX11_givesOf_74 : decode cX11_givesOf 74 = .ok (.istore 5, 2) := by decide +kernel
theorem dX11_givesOf_76 : decode cX11_givesOf 76 = .ok (.aload_n 0, 1) := by decide +kernel
theorem dX11_givesOf_77 : decode cX11_givesOf 77 = .ok (.iload_n 1, 1) := by decide +kernel
theorem dX11_givesOf_78 : decode cX11_givesOf 78 = .ok (.iconst 0, 1) := by decide +kernel
theorem dX11_givesOf_79 : decode cX11_givesOf 79 = .ok (.invokevirtual 110, 3) := by decide +kernel
theorem dX11_givesOf_82 : decode cX11_givesOf 82 = .ok (.tableswitch 54 1 5 #[34, 39, 34, 42, 52], 34) := by decide +kernel
theorem dX11_givesOf_116 : decode cX11_givesOf 116 = .ok (.iload 4, 2) := by decide +kernel
theorem dX11_givesOf_118 : decode cX11_givesOf 118 = .ok (.iconst 2, 1) := by decide +kernel
theorem dX11_givesOf_119 : decode cX11_givesOf 119 = .ok (.idiv, 1) := by decide +kernel
theorem dX11_givesOf_120 : decode cX11_givesOf 120 = .ok (.ireturn, 1) := by decide +kernel
theorem dX11_givesOf_121 : decode cX11_givesOf 121 = .ok (.iload 5, 2) := by decide +kernel
theorem dX11_givesOf_123 : decode cX11_givesOf 123 = .ok (.ireturn, 1) := by decide +kernel
theorem dX11_givesOf_124 : decode cX11_givesOf 124 = .ok (.iconst 2, 1) := by decide +kernel
theorem dX11_givesOf_125 : decode cX11_givesOf 125 = .ok (.iload 5, 2) := by decide +kernel
theorem dX11_givesOf_127 : decode cX11_givesOf 127 = .ok (.imul, 1) := by decide +kernel
theorem dX11_givesOf_128 : decode cX11_givesOf 128 = .ok (.iconst 0, 1) := by decide +kernel
theorem dX11_givesOf_129 : decode cX11_givesOf 129 = .ok (.iload_n 2, 1) := by decide +kernel
theorem dX11_givesOf_130 : decode cX11_givesOf 130 = .ok (.invokestatic 107, 3) := by decide +kernel
theorem dX11_givesOf_133 : decode cX11_givesOf 133 = .ok (.ireturn, 1) := by decide +kernel
theorem dX11_givesOf_134 : decode cX11_givesOf 134 = .ok (.iconst 0, 1) := by decide +kernel
theorem dX11_givesOf_135 : decode cX11_givesOf 135 = .ok (.ireturn, 1) := by decide +kernel
theorem dX11_givesOf_136 : decode cX11_givesOf 136 = .ok (.iload 4, 2) := by decide +kernel
theorem dX11_givesOf_138 : decode cX11_givesOf 138 = .ok (.ireturn, 1) := by decide +kernel
theorem dX11_goesOnBy_0 : decode cX11_goesOnBy 0 = .ok (.aload_n 0, 1) := by decide +kernel
theorem dX11_goesOnBy_1 : decode cX11_goesOnBy 1 = .ok (.iload_n 1, 1) := by decide +kernel
theorem dX11_goesOnBy_2 : decode cX11_goesOnBy 2 = .ok (.iconst 0, 1) := by decide +kernel
theorem dX11_goesOnBy_3 : decode cX11_goesOnBy 3 = .ok (.invokevirtual 110, 3) := by decide +kernel
theorem dX11_goesOnBy_6 : decode cX11_goesOnBy 6 = .ok (.istore_n 2, 1) := by decide +kernel
theorem dX11_goesOnBy_7 : decode cX11_goesOnBy 7 = .ok (.iload_n 2, 1) := by decide +kernel
theorem dX11_goesOnBy_8 : decode cX11_goesOnBy 8 = .ok (.iconst 3, 1) := by decide +kernel
theorem dX11_goesOnBy_9 : decode cX11_goesOnBy 9 = .ok (.if_icmp .ne 7, 3) := by decide +kernel
theorem dX11_goesOnBy_12 : decode cX11_goesOnBy 12 = .ok (.iconst 2, 1) := by decide +kernel
theorem dX11_goesOnBy_13 : decode cX11_goesOnBy 13 = .ok (.goto 24, 3) := by decide +kernel
theorem dX11_goesOnBy_16 : decode cX11_goesOnBy 16 = .ok (.iload_n 2, 1) := by decide +kernel
theorem dX11_goesOnBy_17 : decode cX11_goesOnBy 17 = .ok (.iconst 5, 1) := by decide +kernel
theorem dX11_goesOnBy_18 : decode cX11_goesOnBy 18 = .ok (.if_icmp .ne 18, 3) := by decide +kernel
theorem dX11_goesOnBy_21 : decode cX11_goesOnBy 21 = .ok (.aload_n 0, 1) := by decide +kernel
theorem dX11_goesOnBy_22 : decode cX11_goesOnBy 22 = .ok (.getfield 9, 3) := by decide +kernel
theorem dX11_goesOnBy_25 : decode cX11_goesOnBy 25 = .ok (.iconst 2, 1) := by decide +kernel
theorem dX11_goesOnBy_26 : decode cX11_goesOnBy 26 = .ok (.iaload, 1) := by decide +kernel
theorem dX11_goesOnBy_27 : decode cX11_goesOnBy 27 = .ok (.iconst 2, 1) := by decide +kernel
theorem dX11_goesOnBy_28 : decode cX11_goesOnBy 28 = .ok (.irem, 1) := by decide +kernel
theorem dX11_goesOnBy_29 : decode cX11_goesOnBy 29 = .ok (.ifCond .ne 7, 3) := by decide +kernel
theorem dX11_goesOnBy_32 : decode cX11_goesOnBy 32 = .ok (.iconst 0, 1) := by decide +kernel
theorem dX11_goesOnBy_33 : decode cX11_goesOnBy 33 = .ok (.goto 4, 3) := by decide +kernel
theorem dX11_goesOnBy_36 : decode cX11_goesOnBy 36 = .ok (.iconst 1, 1) := by decide +kernel
theorem dX11_goesOnBy_37 : decode cX11_goesOnBy 37 = .ok (.ireturn, 1) := by decide +kernel
theorem dX11_worthOf_0 : decode cX11_worthOf 0 = .ok (.aload_n 0, 1) := by decide +kernel
theorem dX11_worthOf_1 : decode cX11_worthOf 1 = .ok (.iload_n 1, 1) := by decide +kernel
theorem dX11_worthOf_2 : decode cX11_worthOf 2 = .ok (.iconst 1, 1) := by decide +kernel
theorem dX11_worthOf_3 : decode cX11_worthOf 3 = .ok (.invokevirtual 110, 3) := by decide +kernel
theorem dX11_worthOf_6 : decode cX11_worthOf 6 = .ok (.istore_n 2, 1) := by decide +kernel
theorem dX11_worthOf_7 : decode cX11_worthOf 7 = .ok (.aload_n 0, 1) := by decide +kernel
theorem dX11_worthOf_8 : decode cX11_worthOf 8 = .ok (.iload_n 1, 1) := by decide +kernel
theorem dX11_worthOf_9 : decode cX11_worthOf 9 = .ok (.iconst 0, 1) := by decide +kernel
theorem dX11_worthOf_10 : decode cX11_worthOf 10 = .ok (.invokevirtual 110, 3) := by decide +kernel
theorem dX11_worthOf_13 : decode cX11_worthOf 13 = .ok (.tableswitch 64 1 5 #[35, 39, 45, 51, 57], 35) := by decide +kernel
theorem dX11_worthOf_48 : decode cX11_worthOf 48 = .ok (.iload_n 2, 1) := by decide +kernel
theorem dX11_worthOf_49 : decode cX11_worthOf 49 = .ok (.iconst 5, 1) := by decide +kernel
theorem dX11_worthOf_50 : decode cX11_worthOf 50 = .ok (.iadd, 1) := by decide +kernel
theorem dX11_worthOf_51 : decode cX11_worthOf 51 = .ok (.ireturn, 1) := by decide +kernel
theorem dX11_worthOf_52 : decode cX11_worthOf 52 = .ok (.sipush 999, 3) := by decide +kernel
theorem dX11_worthOf_55 : decode cX11_worthOf 55 = .ok (.iload_n 2, 1) := by decide +kernel
theorem dX11_worthOf_56 : decode cX11_worthOf 56 = .ok (.isub, 1) := by decide +kernel
theorem dX11_worthOf_57 : decode cX11_worthOf 57 = .ok (.ireturn, 1) := by decide +kernel
theorem dX11_worthOf_58 : decode cX11_worthOf 58 = .ok (.iconst 2, 1) := by decide +kernel
theorem dX11_worthOf_59 : decode cX11_worthOf 59 = .ok (.iload_n 2, 1) := by decide +kernel
theorem dX11_worthOf_60 : decode cX11_worthOf 60 = .ok (.iconst 5, 1) := by decide +kernel
theorem dX11_worthOf_61 : decode cX11_worthOf 61 = .ok (.iadd, 1) := by decide +kernel
theorem dX11_worthOf_62 : decode cX11_worthOf 62 = .ok (.imul, 1) := by decide +kernel
theorem dX11_worthOf_63 : decode cX11_worthOf 63 = .ok (.ireturn, 1) := by decide +kernel
theorem dX11_worthOf_64 : decode cX11_worthOf 64 = .ok (.sipush 991, 3) := by decide +kernel
theorem dX11_worthOf_67 : decode cX11_worthOf 67 = .ok (.iload_n 2, 1) := by decide +kernel
theorem dX11_worthOf_68 : decode cX11_worthOf 68 = .ok (.isub, 1) := by decide +kernel
theorem dX11_worthOf_69 : decode cX11_worthOf 69 = .ok (.ireturn, 1) := by decide +kernel
theorem dX11_worthOf_70 : decode cX11_worthOf 70 = .ok (.aload_n 0, 1) := by decide +kernel
theorem dX11_worthOf_71 : decode cX11_worthOf 71 = .ok (.iload_n 1, 1) := by decide +kernel
theorem dX11_worthOf_72 : decode cX11_worthOf 72 = .ok (.iconst 2, 1) := by decide +kernel
theorem dX11_worthOf_73 : decode cX11_worthOf 73 = .ok (.invokevirtual 110, 3) := by decide +kernel
theorem dX11_worthOf_76 : decode cX11_worthOf 76 = .ok (.ireturn, 1) := by decide +kernel
theorem dX11_worthOf_77 : decode cX11_worthOf 77 = .ok (.iload_n 2, 1) := by decide +kernel
theorem dX11_worthOf_78 : decode cX11_worthOf 78 = .ok (.ireturn, 1) := by decide +kernel
theorem dX11_ledTo_0 : decode cX11_ledTo 0 = .ok (.iconst 0, 1) := by decide +kernel
theorem dX11_ledTo_1 : decode cX11_ledTo 1 = .ok (.istore_n 2, 1) := by decide +kernel
theorem dX11_ledTo_2 : decode cX11_ledTo 2 = .ok (.iconst 0, 1) := by decide +kernel
theorem dX11_ledTo_3 : decode cX11_ledTo 3 = .ok (.istore_n 3, 1) := by decide +kernel
theorem dX11_ledTo_4 : decode cX11_ledTo 4 = .ok (.iload_n 3, 1) := by decide +kernel
theorem dX11_ledTo_5 : decode cX11_ledTo 5 = .ok (.aload_n 0, 1) := by decide +kernel
theorem dX11_ledTo_6 : decode cX11_ledTo 6 = .ok (.getfield 9, 3) := by decide +kernel
theorem dX11_ledTo_9 : decode cX11_ledTo 9 = .ok (.bipush 7, 2) := by decide +kernel
theorem dX11_ledTo_11 : decode cX11_ledTo 11 = .ok (.iaload, 1) := by decide +kernel
theorem dX11_ledTo_12 : decode cX11_ledTo 12 = .ok (.if_icmp .ge 44, 3) := by decide +kernel
theorem dX11_ledTo_15 : decode cX11_ledTo 15 = .ok (.iload_n 2, 1) := by decide +kernel
theorem dX11_ledTo_16 : decode cX11_ledTo 16 = .ok (.aload_n 0, 1) := by decide +kernel
theorem dX11_ledTo_17 : decode cX11_ledTo 17 = .ok (.getfield 9, 3) := by decide +kernel
theorem dX11_ledTo_20 : decode cX11_ledTo 20 = .ok (.bipush 16, 2) := by decide +kernel
theorem dX11_ledTo_22 : decode cX11_ledTo 22 = .ok (.iconst 2, 1) := by decide +kernel
theorem dX11_ledTo_23 : decode cX11_ledTo 23 = .ok (.iload_n 3, 1) := by decide +kernel
theorem dX11_ledTo_24 : decode cX11_ledTo 24 = .ok (.imul, 1) := by decide +kernel
theorem dX11_ledTo_25 : decode cX11_ledTo 25 = .ok (.iadd, 1) := by decide +kernel
theorem dX11_ledTo_26 : decode cX11_ledTo 26 = .ok (.iaload, 1) := by decide +kernel
theorem dX11_ledTo_27 : decode cX11_ledTo 27 = .ok (.iload_n 1, 1) := by decide +kernel
theorem dX11_ledTo_28 : decode cX11_ledTo 28 = .ok (.if_icmp .ne 19, 3) := by decide +kernel
theorem dX11_ledTo_31 : decode cX11_ledTo 31 = .ok (.aload_n 0, 1) := by decide +kernel
theorem dX11_ledTo_32 : decode cX11_ledTo 32 = .ok (.getfield 9, 3) := by decide +kernel
theorem dX11_ledTo_35 : decode cX11_ledTo 35 = .ok (.bipush 16, 2) := by decide +kernel
theorem dX11_ledTo_37 : decode cX11_ledTo 37 = .ok (.iconst 2, 1) := by decide +kernel
theorem dX11_ledTo_38 : decode cX11_ledTo 38 = .ok (.iload_n 3, 1) := by decide +kernel
theorem dX11_ledTo_39 : decode cX11_ledTo 39 = .ok (.imul, 1) := by decide +kernel
theorem dX11_ledTo_40 : decode cX11_ledTo 40 = .ok (.iadd, 1) := by decide +kernel
theorem dX11_ledTo_41 : decode cX11_ledTo 41 = .ok (.iconst 1, 1) := by decide +kernel
theorem dX11_ledTo_42 : decode cX11_ledTo 42 = .ok (.iadd, 1) := by decide +kernel
theorem dX11_ledTo_43 : decode cX11_ledTo 43 = .ok (.iaload, 1) := by decide +kernel
theorem dX11_ledTo_44 : decode cX11_ledTo 44 = .ok (.goto 4, 3) := by decide +kernel
theorem dX11_ledTo_47 : decode cX11_ledTo 47 = .ok (.iconst 0, 1) := by decide +kernel
theorem dX11_ledTo_48 : decode cX11_ledTo 48 = .ok (.iadd, 1) := by decide +kernel
theorem dX11_ledTo_49 : decode cX11_ledTo 49 = .ok (.istore_n 2, 1) := by decide +kernel
theorem dX11_ledTo_50 : decode cX11_ledTo 50 = .ok (.iinc 3 1, 3) := by decide +kernel
theorem dX11_ledTo_53 : decode cX11_ledTo 53 = .ok (.goto (-49), 3) := by decide +kernel
theorem dX11_ledTo_56 : decode cX11_ledTo 56 = .ok (.iload_n 2, 1) := by decide +kernel
theorem dX11_ledTo_57 : decode cX11_ledTo 57 = .ok (.ireturn, 1) := by decide +kernel
theorem dX11_told_0 : decode cX11_told 0 = .ok (.aload_n 0, 1) := by decide +kernel
theorem dX11_told_1 : decode cX11_told 1 = .ok (.iload_n 1, 1) := by decide +kernel
theorem dX11_told_2 : decode cX11_told 2 = .ok (.invokevirtual 114, 3) := by decide +kernel
theorem dX11_told_5 : decode cX11_told 5 = .ok (.ifCond .ne 6, 3) := by decide +kernel
theorem dX11_told_8 : decode cX11_told 8 = .ok (.ldc 90, 2) := by decide +kernel
theorem dX11_told_10 : decode cX11_told 10 = .ok (.ireturn, 1) := by decide +kernel
theorem dX11_told_11 : decode cX11_told 11 = .ok (.iload_n 2, 1) := by decide +kernel
theorem dX11_told_12 : decode cX11_told 12 = .ok (.tableswitch 79 0 7 #[48, 48, 48, 48, 55, 61, 67, 73], 48) := by decide +kernel
theorem dX11_told_60 : decode cX11_told 60 = .ok (.aload_n 0, 1) := by decide +kernel
theorem dX11_told_61 : decode cX11_told 61 = .ok (.iload_n 1, 1) := by decide +kernel
theorem dX11_told_62 : decode cX11_told 62 = .ok (.iload_n 2, 1) := by decide +kernel
theorem dX11_told_63 : decode cX11_told 63 = .ok (.invokevirtual 110, 3) := by decide +kernel
theorem dX11_told_66 : decode cX11_told 66 = .ok (.ireturn, 1) := by decide +kernel
theorem dX11_told_67 : decode cX11_told 67 = .ok (.aload_n 0, 1) := by decide +kernel
theorem dX11_told_68 : decode cX11_told 68 = .ok (.iload_n 1, 1) := by decide +kernel
theorem dX11_told_69 : decode cX11_told 69 = .ok (.invokevirtual 118, 3) := by decide +kernel
theorem dX11_told_72 : decode cX11_told 72 = .ok (.ireturn, 1) := by decide +kernel
theorem dX11_told_73 : decode cX11_told 73 = .ok (.aload_n 0, 1) := by decide +kernel
theorem dX11_told_74 : decode cX11_told 74 = .ok (.iload_n 1, 1) := by decide +kernel
theorem dX11_told_75 : decode cX11_told 75 = .ok (.invokevirtual 121, 3) := by decide +kernel
theorem dX11_told_78 : decode cX11_told 78 = .ok (.ireturn, 1) := by decide +kernel
theorem dX11_told_79 : decode cX11_told 79 = .ok (.aload_n 0, 1) := by decide +kernel
theorem dX11_told_80 : decode cX11_told 80 = .ok (.iload_n 1, 1) := by decide +kernel
theorem dX11_told_81 : decode cX11_told 81 = .ok (.invokevirtual 124, 3) := by decide +kernel
theorem dX11_told_84 : decode cX11_told 84 = .ok (.ireturn, 1) := by decide +kernel
theorem dX11_told_85 : decode cX11_told 85 = .ok (.aload_n 0, 1) := by decide +kernel
theorem dX11_told_86 : decode cX11_told 86 = .ok (.iload_n 1, 1) := by decide +kernel
theorem dX11_told_87 : decode cX11_told 87 = .ok (.invokevirtual 127, 3) := by decide +kernel
theorem dX11_told_90 : decode cX11_told 90 = .ok (.ireturn, 1) := by decide +kernel
theorem dX11_told_91 : decode cX11_told 91 = .ok (.ldc 90, 2) := by decide +kernel
theorem dX11_told_93 : decode cX11_told 93 = .ok (.ireturn, 1) := by decide +kernel
theorem dX11_isUnder_0 : decode cX11_isUnder 0 = .ok (.iload_n 1, 1) := by decide +kernel
theorem dX11_isUnder_1 : decode cX11_isUnder 1 = .ok (.ifCond .eq 28, 3) := by decide +kernel
theorem dX11_isUnder_4 : decode cX11_isUnder 4 = .ok (.iload_n 0, 1) := by decide +kernel
theorem dX11_isUnder_5 : decode cX11_isUnder 5 = .ok (.iload_n 1, 1) := by decide +kernel
theorem dX11_isUnder_6 : decode cX11_isUnder 6 = .ok (.if_icmp .eq 23, 3) := by decide +kernel
theorem dX11_isUnder_9 : decode cX11_isUnder 9 = .ok (.iload_n 1, 1) := by decide +kernel
theorem dX11_isUnder_10 : decode cX11_isUnder 10 = .ok (.iconst 1, 1) := by decide +kernel
theorem dX11_isUnder_11 : decode cX11_isUnder 11 = .ok (.if_icmp .ne 8, 3) := by decide +kernel
theorem dX11_isUnder_14 : decode cX11_isUnder 14 = .ok (.iload_n 0, 1) := by decide +kernel
theorem dX11_isUnder_15 : decode cX11_isUnder 15 = .ok (.iconst 3, 1) := by decide +kernel
theorem dX11_isUnder_16 : decode cX11_isUnder 16 = .ok (.if_icmp .eq 13, 3) := by decide +kernel
theorem dX11_isUnder_19 : decode cX11_isUnder 19 = .ok (.iload_n 1, 1) := by decide +kernel
theorem dX11_isUnder_20 : decode cX11_isUnder 20 = .ok (.iconst 2, 1) := by decide +kernel
theorem dX11_isUnder_21 : decode cX11_isUnder 21 = .ok (.if_icmp .ne 12, 3) := by decide +kernel
theorem dX11_isUnder_24 : decode cX11_isUnder 24 = .ok (.iload_n 0, 1) := by decide +kernel
theorem dX11_isUnder_25 : decode cX11_isUnder 25 = .ok (.iconst 4, 1) := by decide +kernel
theorem dX11_isUnder_26 : decode cX11_isUnder 26 = .ok (.if_icmp .ne 7, 3) := by decide +kernel
theorem dX11_isUnder_29 : decode cX11_isUnder 29 = .ok (.iconst 1, 1) := by decide +kernel
theorem dX11_isUnder_30 : decode cX11_isUnder 30 = .ok (.goto 4, 3) := by decide +kernel
theorem dX11_isUnder_33 : decode cX11_isUnder 33 = .ok (.iconst 0, 1) := by decide +kernel
theorem dX11_isUnder_34 : decode cX11_isUnder 34 = .ok (.ireturn, 1) := by decide +kernel
theorem dX11_as_0 : decode cX11_as 0 = .ok (.aload_n 0, 1) := by decide +kernel
theorem dX11_as_1 : decode cX11_as 1 = .ok (.iload_n 1, 1) := by decide +kernel
theorem dX11_as_2 : decode cX11_as 2 = .ok (.invokevirtual 114, 3) := by decide +kernel
theorem dX11_as_5 : decode cX11_as 5 = .ok (.ifCond .eq 12, 3) := by decide +kernel
theorem dX11_as_8 : decode cX11_as 8 = .ok (.iload_n 2, 1) := by decide +kernel
theorem dX11_as_9 : decode cX11_as 9 = .ok (.iconst 0, 1) := by decide +kernel
theorem dX11_as_10 : decode cX11_as 10 = .ok (.iconst 5, 1) := by decide +kernel
theorem dX11_as_11 : decode cX11_as 11 = .ok (.invokestatic 78, 3) := by decide +kernel
theorem dX11_as_14 : decode cX11_as 14 = .ok (.ifCond .ne 6, 3) := by decide +kernel
theorem dX11_as_17 : decode cX11_as 17 = .ok (.ldc 90, 2) := by decide +kernel
theorem dX11_as_19 : decode cX11_as 19 = .ok (.ireturn, 1) := by decide +kernel
theorem dX11_as_20 : decode cX11_as 20 = .ok (.aload_n 0, 1) := by decide +kernel
theorem dX11_as_21 : decode cX11_as 21 = .ok (.iload_n 1, 1) := by decide +kernel
theorem dX11_as_22 : decode cX11_as 22 = .ok (.iconst 0, 1) := by decide +kernel
theorem dX11_as_23 : decode cX11_as 23 = .ok (.invokevirtual 110, 3) := by decide +kernel
theorem dX11_as_26 : decode cX11_as 26 = .ok (.iload_n 2, 1) := by decide +kernel
theorem dX11_as_27 : decode cX11_as 27 = .ok (.invokestatic 130, 3) := by decide +kernel
theorem dX11_as_30 : decode cX11_as 30 = .ok (.ifCond .eq 12, 3) := by decide +kernel
theorem dX11_as_33 : decode cX11_as 33 = .ok (.aload_n 0, 1) := by decide +kernel
theorem dX11_as_34 : decode cX11_as 34 = .ok (.iload_n 1, 1) := by decide +kernel
theorem dX11_as_35 : decode cX11_as 35 = .ok (.iconst 1, 1) := by decide +kernel
theorem dX11_as_36 : decode cX11_as 36 = .ok (.invokevirtual 110, 3) := by decide +kernel
theorem dX11_as_39 : decode cX11_as 39 = .ok (.goto 5, 3) := by decide +kernel
theorem dX11_as_42 : decode cX11_as 42 = .ok (.ldc 133, 2) := by decide +kernel
theorem dX11_as_44 : decode cX11_as 44 = .ok (.ireturn, 1) := by decide +kernel
theorem dX11_turns_0 : decode cX11_turns 0 = .ok (.aload_n 0, 1) := by decide +kernel
theorem dX11_turns_1 : decode cX11_turns 1 = .ok (.iload_n 1, 1) := by decide +kernel
theorem dX11_turns_2 : decode cX11_turns 2 = .ok (.invokevirtual 114, 3) := by decide +kernel
theorem dX11_turns_5 : decode cX11_turns 5 = .ok (.ifCond .eq 26, 3) := by decide +kernel
theorem dX11_turns_8 : decode cX11_turns 8 = .ok (.iload_n 2, 1) := by decide +kernel
theorem dX11_turns_9 : decode cX11_turns 9 = .ok (.iconst 0, 1) := by decide +kernel
theorem dX11_turns_10 : decode cX11_turns 10 = .ok (.iconst 5, 1) := by decide +kernel
theorem dX11_turns_11 : decode cX11_turns 11 = .ok (.invokestatic 78, 3) := by decide +kernel
theorem dX11_turns_14 : decode cX11_turns 14 = .ok (.ifCond .eq 17, 3) := by decide +kernel
theorem dX11_turns_17 : decode cX11_turns 17 = .ok (.aload_n 0, 1) := by decide +kernel
theorem dX11_turns_18 : decode cX11_turns 18 = .ok (.bipush 76, 2) := by decide +kernel
theorem dX11_turns_20 : decode cX11_turns 20 = .ok (.iconst 4, 1) := by decide +kernel
theorem dX11_turns_21 : decode cX11_turns 21 = .ok (.iload_n 1, 1) := by decide +kernel
theorem dX11_turns_22 : decode cX11_turns 22 = .ok (.imul, 1) := by decide +kernel
theorem dX11_turns_23 : decode cX11_turns 23 = .ok (.iadd, 1) := by decide +kernel
theorem dX11_turns_24 : decode cX11_turns 24 = .ok (.iload_n 2, 1) := by decide +kernel
theorem dX11_turns_25 : decode cX11_turns 25 = .ok (.invokevirtual 134, 3) := by decide +kernel
theorem dX11_turns_28 : decode cX11_turns 28 = .ok (.goto 5, 3) := by decide +kernel
theorem dX11_turns_31 : decode cX11_turns 31 = .ok (.ldc 90, 2) := by decide +kernel
theorem dX11_turns_33 : decode cX11_turns 33 = .ok (.ireturn, 1) := by decide +kernel
theorem dX11_set_0 : decode cX11_set 0 = .ok (.aload_n 0, 1) := by decide +kernel
theorem dX11_set_1 : decode cX11_set 1 = .ok (.iload_n 1, 1) := by decide +kernel
theorem dX11_set_2 : decode cX11_set 2 = .ok (.invokevirtual 114, 3) := by decide +kernel
theorem dX11_set_5 : decode cX11_set 5 = .ok (.ifCond .eq 36, 3) := by decide +kernel
theorem dX11_set_8 : decode cX11_set 8 = .ok (.iload_n 2, 1) := by decide +kernel
theorem dX11_set_9 : decode cX11_set 9 = .ok (.iconst 1, 1) := by decide +kernel
theorem dX11_set_10 : decode cX11_set 10 = .ok (.iconst 2, 1) := by decide +kernel
theorem dX11_set_11 : decode cX11_set 11 = .ok (.invokestatic 78, 3) := by decide +kernel
theorem dX11_set_14 : decode cX11_set 14 = .ok (.ifCond .eq 27, 3) := by decide +kernel
theorem dX11_set_17 : decode cX11_set 17 = .ok (.iload_n 2, 1) := by decide +kernel
theorem dX11_set_18 : decode cX11_set 18 = .ok (.iload_n 3, 1) := by decide +kernel
theorem dX11_set_19 : decode cX11_set 19 = .ok (.invokestatic 86, 3) := by decide +kernel
theorem dX11_set_22 : decode cX11_set 22 = .ok (.ifCond .eq 19, 3) := by decide +kernel
theorem dX11_set_25 : decode cX11_set 25 = .ok (.aload_n 0, 1) := by decide +kernel
theorem dX11_set_26 : decode cX11_set 26 = .ok (.bipush 76, 2) := by decide +kernel
theorem dX11_set_28 : decode cX11_set 28 = .ok (.iconst 4, 1) := by decide +kernel
theorem dX11_set_29 : decode cX11_set 29 = .ok (.iload_n 1, 1) := by decide +kernel
theorem dX11_set_30 : decode cX11_set 30 = .ok (.imul, 1) := by decide +kernel
theorem dX11_set_31 : decode cX11_set 31 = .ok (.iadd, 1) := by decide +kernel
theorem dX11_set_32 : decode cX11_set 32 = .ok (.iload_n 2, 1) := by decide +kernel
theorem dX11_set_33 : decode cX11_set 33 = .ok (.iadd, 1) := by decide +kernel
theorem dX11_set_34 : decode cX11_set 34 = .ok (.iload_n 3, 1) := by decide +kernel
theorem dX11_set_35 : decode cX11_set 35 = .ok (.invokevirtual 134, 3) := by decide +kernel
theorem dX11_set_38 : decode cX11_set 38 = .ok (.goto 5, 3) := by decide +kernel
theorem dX11_set_41 : decode cX11_set 41 = .ok (.ldc 90, 2) := by decide +kernel
theorem dX11_set_43 : decode cX11_set 43 = .ok (.ireturn, 1) := by decide +kernel
theorem dX11_draw_0 : decode cX11_draw 0 = .ok (.aload_n 0, 1) := by decide +kernel
theorem dX11_draw_1 : decode cX11_draw 1 = .ok (.getfield 9, 3) := by decide +kernel
theorem dX11_draw_4 : decode cX11_draw 4 = .ok (.iconst 0, 1) := by decide +kernel
theorem dX11_draw_5 : decode cX11_draw 5 = .ok (.aload_n 0, 1) := by decide +kernel
theorem dX11_draw_6 : decode cX11_draw 6 = .ok (.getfield 9, 3) := by decide +kernel
theorem dX11_draw_9 : decode cX11_draw 9 = .ok (.iconst 0, 1) := by decide +kernel
theorem dX11_draw_10 : decode cX11_draw 10 = .ok (.iaload, 1) := by decide +kernel
theorem dX11_draw_11 : decode cX11_draw 11 = .ok (.ldc 137, 2) := by decide +kernel
theorem dX11_draw_13 : decode cX11_draw 13 = .ok (.imul, 1) := by decide +kernel
theorem dX11_draw_14 : decode cX11_draw 14 = .ok (.sipush 12345, 3) := by decide +kernel
theorem dX11_draw_17 : decode cX11_draw 17 = .ok (.iadd, 1) := by decide +kernel
theorem dX11_draw_18 : decode cX11_draw 18 = .ok (.iastore, 1) := by decide +kernel
theorem dX11_draw_19 : decode cX11_draw 19 = .ok (.aload_n 0, 1) := by decide +kernel
theorem dX11_draw_20 : decode cX11_draw 20 = .ok (.getfield 9, 3) := by decide +kernel
theorem dX11_draw_23 : decode cX11_draw 23 = .ok (.iconst 0, 1) := by decide +kernel
theorem dX11_draw_24 : decode cX11_draw 24 = .ok (.iaload, 1) := by decide +kernel
theorem dX11_draw_25 : decode cX11_draw 25 = .ok (.bipush 8, 2) := by decide +kernel
theorem dX11_draw_27 : decode cX11_draw 27 = .ok (.iushr, 1) := by decide +kernel
theorem dX11_draw_28 : decode cX11_draw 28 = .ok (.ireturn, 1) := by decide +kernel
end
section
-- decode rows, by program
theorem dX11_deal_0 : decode cX11_deal 0 = .ok (.iload_n 1, 1) := by decide +kernel
theorem dX11_deal_1 : decode cX11_deal 1 = .ok (.iconst 1, 1) := by decide +kernel
theorem dX11_deal_2 : decode cX11_deal 2 = .ok (.bipush 10, 2) := by decide +kernel
theorem dX11_deal_4 : decode cX11_deal 4 = .ok (.invokestatic 78, 3) := by decide +kernel
theorem dX11_deal_7 : decode cX11_deal 7 = .ok (.ifCond .ne 6, 3) := by decide +kernel
theorem dX11_deal_10 : decode cX11_deal 10 = .ok (.ldc 90, 2) := by decide +kernel
theorem dX11_deal_12 : decode cX11_deal 12 = .ok (.ireturn, 1) := by decide +kernel
theorem dX11_deal_13 : decode cX11_deal 13 = .ok (.iconst 0, 1) := by decide +kernel
theorem dX11_deal_14 : decode cX11_deal 14 = .ok (.istore_n 2, 1) := by decide +kernel
theorem dX11_deal_15 : decode cX11_deal 15 = .ok (.iload_n 2, 1) := by decide +kernel
theorem dX11_deal_16 : decode cX11_deal 16 = .ok (.iload_n 1, 1) := by decide +kernel
theorem dX11_deal_17 : decode cX11_deal 17 = .ok (.if_icmp .ge 56, 3) := by decide +kernel
theorem dX11_deal_20 : decode cX11_deal 20 = .ok (.aload_n 0, 1) := by decide +kernel
theorem dX11_deal_21 : decode cX11_deal 21 = .ok (.getfield 9, 3) := by decide +kernel
theorem dX11_deal_24 : decode cX11_deal 24 = .ok (.iconst 1, 1) := by decide +kernel
theorem dX11_deal_25 : decode cX11_deal 25 = .ok (.iaload, 1) := by decide +kernel
theorem dX11_deal_26 : decode cX11_deal 26 = .ok (.bipush 10, 2) := by decide +kernel
theorem dX11_deal_28 : decode cX11_deal 28 = .ok (.if_icmp .ge 45, 3) := by decide +kernel
theorem dX11_deal_31 : decode cX11_deal 31 = .ok (.aload_n 0, 1) := by decide +kernel
theorem dX11_deal_32 : decode cX11_deal 32 = .ok (.invokevirtual 138, 3) := by decide +kernel
theorem dX11_deal_35 : decode cX11_deal 35 = .ok (.bipush 6, 2) := by decide +kernel
theorem dX11_deal_37 : decode cX11_deal 37 = .ok (.irem, 1) := by decide +kernel
theorem dX11_deal_38 : decode cX11_deal 38 = .ok (.istore_n 3, 1) := by decide +kernel
theorem dX11_deal_39 : decode cX11_deal 39 = .ok (.aload_n 0, 1) := by decide +kernel
theorem dX11_deal_40 : decode cX11_deal 40 = .ok (.invokevirtual 138, 3) := by decide +kernel
theorem dX11_deal_43 : decode cX11_deal 43 = .ok (.sipush 200, 3) := by decide +kernel
theorem dX11_deal_46 : decode cX11_deal 46 = .ok (.irem, 1) := by decide +kernel
theorem dX11_deal_47 : decode cX11_deal 47 = .ok (.istore 4, 2) := by decide +kernel
theorem dX11_deal_49 : decode cX11_deal 49 = .ok (.aload_n 0, 1) := by decide +kernel
theorem dX11_deal_50 : decode cX11_deal 50 = .ok (.iload_n 3, 1) := by decide +kernel
theorem dX11_deal_51 : decode cX11_deal 51 = .ok (.iload 4, 2) := by decide +kernel
theorem dX11_deal_53 : decode cX11_deal 53 = .ok (.iconst 1, 1) := by decide +kernel
theorem dX11_deal_54 : decode cX11_deal 54 = .ok (.aload_n 0, 1) := by decide +kernel
theorem dX11_deal_55 : decode cX11_deal 55 = .ok (.invokevirtual 138, 3) := by decide +kernel
theorem dX11_deal_58 : decode cX11_deal 58 = .ok (.bipush 100, 2) := by decide +kernel
theorem dX11_deal_60 : decode cX11_deal 60 = .ok (.irem, 1) := by decide +kernel
theorem dX11_deal_61 : decode cX11_deal 61 = .ok (.iadd, 1) := by decide +kernel
theorem dX11_deal_62 : decode cX11_deal 62 = .ok (.invokevirtual 92, 3) := by decide +kernel
theorem dX11_deal_65 : decode cX11_deal 65 = .ok (.istore 5, 2) := by decide +kernel
theorem dX11_deal_67 : decode cX11_deal 67 = .ok (.iinc 2 1, 3) := by decide +kernel
theorem dX11_deal_70 : decode cX11_deal 70 = .ok (.goto (-55), 3) := by decide +kernel
theorem dX11_deal_73 : decode cX11_deal 73 = .ok (.iload_n 2, 1) := by decide +kernel
theorem dX11_deal_74 : decode cX11_deal 74 = .ok (.ireturn, 1) := by decide +kernel
theorem dX11_seed_0 : decode cX11_seed 0 = .ok (.aload_n 0, 1) := by decide +kernel
theorem dX11_seed_1 : decode cX11_seed 1 = .ok (.iconst 0, 1) := by decide +kernel
theorem dX11_seed_2 : decode cX11_seed 2 = .ok (.iload_n 1, 1) := by decide +kernel
theorem dX11_seed_3 : decode cX11_seed 3 = .ok (.invokevirtual 134, 3) := by decide +kernel
theorem dX11_seed_6 : decode cX11_seed 6 = .ok (.ireturn, 1) := by decide +kernel
theorem dX11_rule_0 : decode cX11_rule 0 = .ok (.iload_n 1, 1) := by decide +kernel
theorem dX11_rule_1 : decode cX11_rule 1 = .ok (.iconst 0, 1) := by decide +kernel
theorem dX11_rule_2 : decode cX11_rule 2 = .ok (.iconst 2, 1) := by decide +kernel
theorem dX11_rule_3 : decode cX11_rule 3 = .ok (.invokestatic 78, 3) := by decide +kernel
theorem dX11_rule_6 : decode cX11_rule 6 = .ok (.ifCond .eq 44, 3) := by decide +kernel
theorem dX11_rule_9 : decode cX11_rule 9 = .ok (.iload_n 2, 1) := by decide +kernel
theorem dX11_rule_10 : decode cX11_rule 10 = .ok (.iload_n 1, 1) := by decide +kernel
theorem dX11_rule_11 : decode cX11_rule 11 = .ok (.iconst 2, 1) := by decide +kernel
theorem dX11_rule_12 : decode cX11_rule 12 = .ok (.if_icmp .ne 8, 3) := by decide +kernel
theorem dX11_rule_15 : decode cX11_rule 15 = .ok (.bipush (-9), 2) := by decide +kernel
theorem dX11_rule_17 : decode cX11_rule 17 = .ok (.goto 4, 3) := by decide +kernel
theorem dX11_rule_20 : decode cX11_rule 20 = .ok (.iconst 0, 1) := by decide +kernel
theorem dX11_rule_21 : decode cX11_rule 21 = .ok (.iload_n 1, 1) := by decide +kernel
theorem dX11_rule_22 : decode cX11_rule 22 = .ok (.iconst 2, 1) := by decide +kernel
theorem dX11_rule_23 : decode cX11_rule 23 = .ok (.if_icmp .ne 8, 3) := by decide +kernel
theorem dX11_rule_26 : decode cX11_rule 26 = .ok (.bipush 9, 2) := by decide +kernel
theorem dX11_rule_28 : decode cX11_rule 28 = .ok (.goto 5, 3) := by decide +kernel
theorem dX11_rule_31 : decode cX11_rule 31 = .ok (.bipush 99, 2) := by decide +kernel
theorem dX11_rule_33 : decode cX11_rule 33 = .ok (.invokestatic 78, 3) := by decide +kernel
theorem dX11_rule_36 : decode cX11_rule 36 = .ok (.ifCond .eq 14, 3) := by decide +kernel
theorem dX11_rule_39 : decode cX11_rule 39 = .ok (.aload_n 0, 1) := by decide +kernel
theorem dX11_rule_40 : decode cX11_rule 40 = .ok (.iconst 3, 1) := by decide +kernel
theorem dX11_rule_41 : decode cX11_rule 41 = .ok (.iload_n 1, 1) := by decide +kernel
theorem dX11_rule_42 : decode cX11_rule 42 = .ok (.iadd, 1) := by decide +kernel
theorem dX11_rule_43 : decode cX11_rule 43 = .ok (.iload_n 2, 1) := by decide +kernel
theorem dX11_rule_44 : decode cX11_rule 44 = .ok (.invokevirtual 134, 3) := by decide +kernel
theorem dX11_rule_47 : decode cX11_rule 47 = .ok (.goto 5, 3) := by decide +kernel
theorem dX11_rule_50 : decode cX11_rule 50 = .ok (.ldc 90, 2) := by decide +kernel
theorem dX11_rule_52 : decode cX11_rule 52 = .ok (.ireturn, 1) := by decide +kernel
theorem dX11_at_0 : decode cX11_at 0 = .ok (.aload_n 0, 1) := by decide +kernel
theorem dX11_at_1 : decode cX11_at 1 = .ok (.iload_n 1, 1) := by decide +kernel
theorem dX11_at_2 : decode cX11_at 2 = .ok (.invokevirtual 114, 3) := by decide +kernel
theorem dX11_at_5 : decode cX11_at 5 = .ok (.ifCond .eq 13, 3) := by decide +kernel
theorem dX11_at_8 : decode cX11_at 8 = .ok (.aload_n 0, 1) := by decide +kernel
theorem dX11_at_9 : decode cX11_at 9 = .ok (.bipush 6, 2) := by decide +kernel
theorem dX11_at_11 : decode cX11_at 11 = .ok (.iload_n 1, 1) := by decide +kernel
theorem dX11_at_12 : decode cX11_at 12 = .ok (.invokevirtual 134, 3) := by decide +kernel
theorem dX11_at_15 : decode cX11_at 15 = .ok (.goto 5, 3) := by decide +kernel
theorem dX11_at_18 : decode cX11_at 18 = .ok (.ldc 90, 2) := by decide +kernel
theorem dX11_at_20 : decode cX11_at 20 = .ok (.ireturn, 1) := by decide +kernel
theorem dX11_ball_0 : decode cX11_ball 0 = .ok (.iload_n 1, 1) := by decide +kernel
theorem dX11_ball_1 : decode cX11_ball 1 = .ok (.tableswitch 69 0 4 #[35, 40, 45, 53, 61], 35) := by decide +kernel
theorem dX11_ball_36 : decode cX11_ball 36 = .ok (.aload_n 0, 1) := by decide +kernel
theorem dX11_ball_37 : decode cX11_ball 37 = .ok (.invokevirtual 100, 3) := by decide +kernel
theorem dX11_ball_40 : decode cX11_ball 40 = .ok (.ireturn, 1) := by decide +kernel
theorem dX11_ball_41 : decode cX11_ball 41 = .ok (.aload_n 0, 1) := by decide +kernel
theorem dX11_ball_42 : decode cX11_ball 42 = .ok (.invokevirtual 141, 3) := by decide +kernel
theorem dX11_ball_45 : decode cX11_ball 45 = .ok (.ireturn, 1) := by decide +kernel
theorem dX11_ball_46 : decode cX11_ball 46 = .ok (.aload_n 0, 1) := by decide +kernel
theorem dX11_ball_47 : decode cX11_ball 47 = .ok (.getfield 9, 3) := by decide +kernel
theorem dX11_ball_50 : decode cX11_ball 50 = .ok (.bipush 6, 2) := by decide +kernel
theorem dX11_ball_52 : decode cX11_ball 52 = .ok (.iaload, 1) := by decide +kernel
theorem dX11_ball_53 : decode cX11_ball 53 = .ok (.ireturn, 1) := by decide +kernel
theorem dX11_ball_54 : decode cX11_ball 54 = .ok (.aload_n 0, 1) := by decide +kernel
theorem dX11_ball_55 : decode cX11_ball 55 = .ok (.getfield 9, 3) := by decide +kernel
theorem dX11_ball_58 : decode cX11_ball 58 = .ok (.bipush 7, 2) := by decide +kernel
theorem dX11_ball_60 : decode cX11_ball 60 = .ok (.iaload, 1) := by decide +kernel
theorem dX11_ball_61 : decode cX11_ball 61 = .ok (.ireturn, 1) := by decide +kernel
theorem dX11_ball_62 : decode cX11_ball 62 = .ok (.aload_n 0, 1) := by decide +kernel
theorem dX11_ball_63 : decode cX11_ball 63 = .ok (.getfield 9, 3) := by decide +kernel
theorem dX11_ball_66 : decode cX11_ball 66 = .ok (.bipush 8, 2) := by decide +kernel
theorem dX11_ball_68 : decode cX11_ball 68 = .ok (.iaload, 1) := by decide +kernel
theorem dX11_ball_69 : decode cX11_ball 69 = .ok (.ireturn, 1) := by decide +kernel
theorem dX11_ball_70 : decode cX11_ball 70 = .ok (.ldc 90, 2) := by decide +kernel
theorem dX11_ball_72 : decode cX11_ball 72 = .ok (.ireturn, 1) := by decide +kernel
theorem dX11_layer_0 : decode cX11_layer 0 = .ok (.iload_n 1, 1) := by decide +kernel
theorem dX11_layer_1 : decode cX11_layer 1 = .ok (.iconst 0, 1) := by decide +kernel
theorem dX11_layer_2 : decode cX11_layer 2 = .ok (.aload_n 0, 1) := by decide +kernel
theorem dX11_layer_3 : decode cX11_layer 3 = .ok (.getfield 9, 3) := by decide +kernel
theorem dX11_layer_6 : decode cX11_layer 6 = .ok (.bipush 7, 2) := by decide +kernel
theorem dX11_layer_8 : decode cX11_layer 8 = .ok (.iaload, 1) := by decide +kernel
theorem dX11_layer_9 : decode cX11_layer 9 = .ok (.iconst 1, 1) := by decide +kernel
theorem dX11_layer_10 : decode cX11_layer 10 = .ok (.isub, 1) := by decide +kernel
theorem dX11_layer_11 : decode cX11_layer 11 = .ok (.invokestatic 78, 3) := by decide +kernel
theorem dX11_layer_14 : decode cX11_layer 14 = .ok (.ifCond .eq 28, 3) := by decide +kernel
theorem dX11_layer_17 : decode cX11_layer 17 = .ok (.iload_n 2, 1) := by decide +kernel
theorem dX11_layer_18 : decode cX11_layer 18 = .ok (.iconst 0, 1) := by decide +kernel
theorem dX11_layer_19 : decode cX11_layer 19 = .ok (.iconst 1, 1) := by decide +kernel
theorem dX11_layer_20 : decode cX11_layer 20 = .ok (.invokestatic 78, 3) := by decide +kernel
theorem dX11_layer_23 : decode cX11_layer 23 = .ok (.ifCond .eq 19, 3) := by decide +kernel
theorem dX11_layer_26 : decode cX11_layer 26 = .ok (.aload_n 0, 1) := by decide +kernel
theorem dX11_layer_27 : decode cX11_layer 27 = .ok (.getfield 9, 3) := by decide +kernel
theorem dX11_layer_30 : decode cX11_layer 30 = .ok (.bipush 16, 2) := by decide +kernel
theorem dX11_layer_32 : decode cX11_layer 32 = .ok (.iconst 2, 1) := by decide +kernel
theorem dX11_layer_33 : decode cX11_layer 33 = .ok (.iload_n 1, 1) := by decide +kernel
theorem dX11_layer_34 : decode cX11_layer 34 = .ok (.imul, 1) := by decide +kernel
theorem dX11_layer_35 : decode cX11_layer 35 = .ok (.iadd, 1) := by decide +kernel
theorem dX11_layer_36 : decode cX11_layer 36 = .ok (.iload_n 2, 1) := by decide +kernel
theorem dX11_layer_37 : decode cX11_layer 37 = .ok (.iadd, 1) := by decide +kernel
theorem dX11_layer_38 : decode cX11_layer 38 = .ok (.iaload, 1) := by decide +kernel
theorem dX11_layer_39 : decode cX11_layer 39 = .ok (.goto 5, 3) := by decide +kernel
theorem dX11_layer_42 : decode cX11_layer 42 = .ok (.ldc 90, 2) := by decide +kernel
theorem dX11_layer_44 : decode cX11_layer 44 = .ok (.ireturn, 1) := by decide +kernel
theorem dX11_packs_0 : decode cX11_packs 0 = .ok (.aload_n 0, 1) := by decide +kernel
theorem dX11_packs_1 : decode cX11_packs 1 = .ok (.getfield 9, 3) := by decide +kernel
theorem dX11_packs_4 : decode cX11_packs 4 = .ok (.bipush 7, 2) := by decide +kernel
theorem dX11_packs_6 : decode cX11_packs 6 = .ok (.iaload, 1) := by decide +kernel
theorem dX11_packs_7 : decode cX11_packs 7 = .ok (.iconst 1, 1) := by decide +kernel
theorem dX11_packs_8 : decode cX11_packs 8 = .ok (.isub, 1) := by decide +kernel
theorem dX11_packs_9 : decode cX11_packs 9 = .ok (.istore_n 3, 1) := by decide +kernel
theorem dX11_packs_10 : decode cX11_packs 10 = .ok (.iload_n 3, 1) := by decide +kernel
theorem dX11_packs_11 : decode cX11_packs 11 = .ok (.ifCond .lt 24, 3) := by decide +kernel
theorem dX11_packs_14 : decode cX11_packs 14 = .ok (.iload_n 3, 1) := by decide +kernel
theorem dX11_packs_15 : decode cX11_packs 15 = .ok (.bipush 29, 2) := by decide +kernel
theorem dX11_packs_17 : decode cX11_packs 17 = .ok (.if_icmp .ge 58, 3) := by decide +kernel
theorem dX11_packs_20 : decode cX11_packs 20 = .ok (.aload_n 0, 1) := by decide +kernel
theorem dX11_packs_21 : decode cX11_packs 21 = .ok (.getfield 9, 3) := by decide +kernel
theorem dX11_packs_24 : decode cX11_packs 24 = .ok (.bipush 16, 2) := by decide +kernel
theorem dX11_packs_26 : decode cX11_packs 26 = .ok (.iconst 2, 1) := by decide +kernel
theorem dX11_packs_27 : decode cX11_packs 27 = .ok (.iload_n 3, 1) := by decide +kernel
theorem dX11_packs_28 : decode cX11_packs 28 = .ok (.imul, 1) := by decide +kernel
theorem dX11_packs_29 : decode cX11_packs 29 = .ok (.iadd, 1) := by decide +kernel
theorem dX11_packs_30 : decode cX11_packs 30 = .ok (.iaload, 1) := by decide +kernel
theorem dX11_packs_31 : decode cX11_packs 31 = .ok (.iload_n 1, 1) := by decide +kernel
theorem dX11_packs_32 : decode cX11_packs 32 = .ok (.if_icmp .eq 43, 3) := by decide +kernel
theorem dX11_packs_35 : decode cX11_packs 35 = .ok (.iinc 3 1, 3) := by decide +kernel
theorem dX11_packs_38 : decode cX11_packs 38 = .ok (.aload_n 0, 1) := by decide +kernel
theorem dX11_packs_39 : decode cX11_packs 39 = .ok (.getfield 9, 3) := by decide +kernel
theorem dX11_packs_42 : decode cX11_packs 42 = .ok (.bipush 16, 2) := by decide +kernel
theorem dX11_packs_44 : decode cX11_packs 44 = .ok (.iconst 2, 1) := by decide +kernel
theorem dX11_packs_45 : decode cX11_packs 45 = .ok (.iload_n 3, 1) := by decide +kernel
theorem dX11_packs_46 : decode cX11_packs 46 = .ok (.imul, 1) := by decide +kernel
theorem dX11_packs_47 : decode cX11_packs 47 = .ok (.iadd, 1) := by decide +kernel
theorem dX11_packs_48 : decode cX11_packs 48 = .ok (.iload_n 1, 1) := by decide +kernel
theorem dX11_packs_49 : decode cX11_packs 49 = .ok (.iastore, 1) := by decide +kernel
theorem dX11_packs_50 : decode cX11_packs 50 = .ok (.aload_n 0, 1) := by decide +kernel
theorem dX11_packs_51 : decode cX11_packs 51 = .ok (.getfield 9, 3) := by decide +kernel
theorem dX11_packs_54 : decode cX11_packs 54 = .ok (.bipush 16, 2) := by decide +kernel
theorem dX11_packs_56 : decode cX11_packs 56 = .ok (.iconst 2, 1) := by decide +kernel
theorem dX11_packs_57 : decode cX11_packs 57 = .ok (.iload_n 3, 1) := by decide +kernel
theorem dX11_packs_58 : decode cX11_packs 58 = .ok (.imul, 1) := by decide +kernel
theorem dX11_packs_59 : decode cX11_packs 59 = .ok (.iadd, 1) := by decide +kernel
theorem dX11_packs_60 : decode cX11_packs 60 = .ok (.iconst 1, 1) := by decide +kernel
theorem dX11_packs_61 : decode cX11_packs 61 = .ok (.iadd, 1) := by decide +kernel
theorem dX11_packs_62 : decode cX11_packs 62 = .ok (.iconst 0, 1) := by decide +kernel
theorem dX11_packs_63 : decode cX11_packs 63 = .ok (.iastore, 1) := by decide +kernel
theorem dX11_packs_64 : decode cX11_packs 64 = .ok (.aload_n 0, 1) := by decide +kernel
theorem dX11_packs_65 : decode cX11_packs 65 = .ok (.getfield 9, 3) := by decide +kernel
theorem dX11_packs_68 : decode cX11_packs 68 = .ok (.bipush 7, 2) := by decide +kernel
theorem dX11_packs_70 : decode cX11_packs 70 = .ok (.dup2, 1) := by decide +kernel
theorem dX11_packs_71 : decode cX11_packs 71 = .ok (.iaload, 1) := by decide +kernel
theorem dX11_packs_72 : decode cX11_packs 72 = .ok (.iconst 1, 1) := by decide +kernel
theorem dX11_packs_73 : decode cX11_packs 73 = .ok (.iadd, 1) := by decide +kernel
theorem dX11_packs_74 : decode cX11_packs 74 = .ok (.iastore, 1) := by decide +kernel
theorem dX11_packs_75 : decode cX11_packs 75 = .ok (.aload_n 0, 1) := by decide +kernel
theorem dX11_packs_76 : decode cX11_packs 76 = .ok (.getfield 9, 3) := by decide +kernel
theorem dX11_packs_79 : decode cX11_packs 79 = .ok (.bipush 16, 2) := by decide +kernel
theorem dX11_packs_81 : decode cX11_packs 81 = .ok (.iconst 2, 1) := by decide +kernel
theorem dX11_packs_82 : decode cX11_packs 82 = .ok (.iload_n 3, 1) := by decide +kernel
theorem dX11_packs_83 : decode cX11_packs 83 = .ok (.imul, 1) := by decide +kernel
theorem dX11_packs_84 : decode cX11_packs 84 = .ok (.iadd, 1) := by decide +kernel
theorem dX11_packs_85 : decode cX11_packs 85 = .ok (.iconst 1, 1) := by decide +kernel
theorem dX11_packs_86 : decode cX11_packs 86 = .ok (.iadd, 1) := by decide +kernel
theorem dX11_packs_87 : decode cX11_packs 87 = .ok (.dup2, 1) := by decide +kernel
theorem dX11_packs_88 : decode cX11_packs 88 = .ok (.iaload, 1) := by decide +kernel
theorem dX11_packs_89 : decode cX11_packs 89 = .ok (.iload_n 2, 1) := by decide +kernel
theorem dX11_packs_90 : decode cX11_packs 90 = .ok (.iadd, 1) := by decide +kernel
theorem dX11_packs_91 : decode cX11_packs 91 = .ok (.iastore, 1) := by decide +kernel
theorem dX11_packs_92 : decode cX11_packs 92 = .ok (.return_, 1) := by decide +kernel
theorem dX11_pack_0 : decode cX11_pack 0 = .ok (.aload_n 0, 1) := by decide +kernel
theorem dX11_pack_1 : decode cX11_pack 1 = .ok (.iload_n 1, 1) := by decide +kernel
theorem dX11_pack_2 : decode cX11_pack 2 = .ok (.invokevirtual 114, 3) := by decide +kernel
theorem dX11_pack_5 : decode cX11_pack 5 = .ok (.ifCond .eq 14, 3) := by decide +kernel
theorem dX11_pack_8 : decode cX11_pack 8 = .ok (.iload_n 2, 1) := by decide +kernel
theorem dX11_pack_9 : decode cX11_pack 9 = .ok (.iconst 1, 1) := by decide +kernel
theorem dX11_pack_10 : decode cX11_pack 10 = .ok (.sipush 999, 3) := by decide +kernel
theorem dX11_pack_13 : decode cX11_pack 13 = .ok (.invokestatic 78, 3) := by decide +kernel
theorem dX11_pack_16 : decode cX11_pack 16 = .ok (.ifCond .ne 6, 3) := by decide +kernel
theorem dX11_pack_19 : decode cX11_pack 19 = .ok (.ldc 90, 2) := by decide +kernel
theorem dX11_pack_21 : decode cX11_pack 21 = .ok (.ireturn, 1) := by decide +kernel
theorem dX11_pack_22 : decode cX11_pack 22 = .ok (.aload_n 0, 1) := by decide +kernel
theorem dX11_pack_23 : decode cX11_pack 23 = .ok (.iload_n 1, 1) := by decide +kernel
theorem dX11_pack_24 : decode cX11_pack 24 = .ok (.iload_n 2, 1) := by decide +kernel
theorem dX11_pack_25 : decode cX11_pack 25 = .ok (.invokevirtual 144, 3) := by decide +kernel
theorem dX11_pack_28 : decode cX11_pack 28 = .ok (.aload_n 0, 1) := by decide +kernel
theorem dX11_pack_29 : decode cX11_pack 29 = .ok (.invokevirtual 100, 3) := by decide +kernel
theorem dX11_pack_32 : decode cX11_pack 32 = .ok (.ireturn, 1) := by decide +kernel
theorem dX11_isThing_0 : decode cX11_isThing 0 = .ok (.iload_n 0, 1) := by decide +kernel
theorem dX11_isThing_1 : decode cX11_isThing 1 = .ok (.iconst 0, 1) := by decide +kernel
theorem dX11_isThing_2 : decode cX11_isThing 2 = .ok (.iconst 5, 1) := by decide +kernel
theorem dX11_isThing_3 : decode cX11_isThing 3 = .ok (.invokestatic 78, 3) := by decide +kernel
theorem dX11_isThing_6 : decode cX11_isThing 6 = .ok (.ireturn, 1) := by decide +kernel
theorem dX11_lose_0 : decode cX11_lose 0 = .ok (.iload_n 1, 1) := by decide +kernel
theorem dX11_lose_1 : decode cX11_lose 1 = .ok (.invokestatic 148, 3) := by decide +kernel
theorem dX11_lose_4 : decode cX11_lose 4 = .ok (.ifCond .ne 6, 3) := by decide +kernel
theorem dX11_lose_7 : decode cX11_lose 7 = .ok (.ldc 90, 2) := by decide +kernel
theorem dX11_lose_9 : decode cX11_lose 9 = .ok (.ireturn, 1) := by decide +kernel
theorem dX11_lose_10 : decode cX11_lose 10 = .ok (.aload_n 0, 1) := by decide +kernel
theorem dX11_lose_11 : decode cX11_lose 11 = .ok (.getfield 9, 3) := by decide +kernel
theorem dX11_lose_14 : decode cX11_lose 14 = .ok (.bipush 7, 2) := by decide +kernel
theorem dX11_lose_16 : decode cX11_lose 16 = .ok (.iaload, 1) := by decide +kernel
theorem dX11_lose_17 : decode cX11_lose 17 = .ok (.ifCond .ne 6, 3) := by decide +kernel
theorem dX11_lose_20 : decode cX11_lose 20 = .ok (.ldc 151, 2) := by decide +kernel
theorem dX11_lose_22 : decode cX11_lose 22 = .ok (.ireturn, 1) := by decide +kernel
theorem dX11_lose_23 : decode cX11_lose 23 = .ok (.aload_n 0, 1) := by decide +kernel
theorem dX11_lose_24 : decode cX11_lose 24 = .ok (.getfield 9, 3) := by decide +kernel
theorem dX11_lose_27 : decode cX11_lose 27 = .ok (.bipush 10, 2) := by decide +kernel
theorem dX11_lose_29 : decode cX11_lose 29 = .ok (.iload_n 1, 1) := by decide +kernel
theorem dX11_lose_30 : decode cX11_lose 30 = .ok (.iadd, 1) := by decide +kernel
theorem dX11_lose_31 : decode cX11_lose 31 = .ok (.aload_n 0, 1) := by decide +kernel
theorem dX11_lose_32 : decode cX11_lose 32 = .ok (.getfield 9, 3) := by decide +kernel
theorem dX11_lose_35 : decode cX11_lose 35 = .ok (.bipush 7, 2) := by decide +kernel
theorem dX11_lose_37 : decode cX11_lose 37 = .ok (.iaload, 1) := by decide +kernel
theorem dX11_lose_38 : decode cX11_lose 38 = .ok (.iconst 1, 1) := by decide +kernel
theorem dX11_lose_39 : decode cX11_lose 39 = .ok (.isub, 1) := by decide +kernel
theorem dX11_lose_40 : decode cX11_lose 40 = .ok (.iastore, 1) := by decide +kernel
theorem dX11_lose_41 : decode cX11_lose 41 = .ok (.aload_n 0, 1) := by decide +kernel
theorem dX11_lose_42 : decode cX11_lose 42 = .ok (.getfield 9, 3) := by decide +kernel
theorem dX11_lose_45 : decode cX11_lose 45 = .ok (.bipush 7, 2) := by decide +kernel
theorem dX11_lose_47 : decode cX11_lose 47 = .ok (.iaload, 1) := by decide +kernel
theorem dX11_lose_48 : decode cX11_lose 48 = .ok (.iconst 1, 1) := by decide +kernel
theorem dX11_lose_49 : decode cX11_lose 49 = .ok (.isub, 1) := by decide +kernel
theorem dX11_lose_50 : decode cX11_lose 50 = .ok (.ireturn, 1) := by decide +kernel
theorem dX11_find_0 : decode cX11_find 0 = .ok (.iload_n 1, 1) := by decide +kernel
theorem dX11_find_1 : decode cX11_find 1 = .ok (.invokestatic 148, 3) := by decide +kernel
theorem dX11_find_4 : decode cX11_find 4 = .ok (.ifCond .ne 6, 3) := by decide +kernel
theorem dX11_find_7 : decode cX11_find 7 = .ok (.ldc 90, 2) := by decide +kernel
theorem dX11_find_9 : decode cX11_find 9 = .ok (.ireturn, 1) := by decide +kernel
theorem dX11_find_10 : decode cX11_find 10 = .ok (.aload_n 0, 1) := by decide +kernel
theorem dX11_find_11 : decode cX11_find 11 = .ok (.bipush 10, 2) := by decide +kernel
theorem dX11_find_13 : decode cX11_find 13 = .ok (.iload_n 1, 1) := by decide +kernel
theorem dX11_find_14 : decode cX11_find 14 = .ok (.iadd, 1) := by decide +kernel
theorem dX11_find_15 : decode cX11_find 15 = .ok (.iconst (-1), 1) := by decide +kernel
theorem dX11_find_16 : decode cX11_find 16 = .ok (.invokevirtual 134, 3) := by decide +kernel
theorem dX11_find_19 : decode cX11_find 19 = .ok (.ifCond .ge 7, 3) := by decide +kernel
theorem dX11_find_22 : decode cX11_find 22 = .ok (.iconst 0, 1) := by decide +kernel
theorem dX11_find_23 : decode cX11_find 23 = .ok (.goto 4, 3) := by decide +kernel
theorem dX11_find_26 : decode cX11_find 26 = .ok (.iconst 1, 1) := by decide +kernel
theorem dX11_find_27 : decode cX11_find 27 = .ok (.ireturn, 1) := by decide +kernel
theorem dX11_thing_0 : decode cX11_thing 0 = .ok (.iload_n 1, 1) := by decide +kernel
theorem dX11_thing_1 : decode cX11_thing 1 = .ok (.invokestatic 148, 3) := by decide +kernel
theorem dX11_thing_4 : decode cX11_thing 4 = .ok (.ifCond .ne 8, 3) := by decide +kernel
theorem dX11_thing_7 : decode cX11_thing 7 = .ok (.ldc 90, 2) := by decide +kernel
theorem dX11_thing_9 : decode cX11_thing 9 = .ok (.goto 29, 3) := by decide +kernel
theorem dX11_thing_12 : decode cX11_thing 12 = .ok (.aload_n 0, 1) := by decide +kernel
theorem dX11_thing_13 : decode cX11_thing 13 = .ok (.getfield 9, 3) := by decide +kernel
theorem dX11_thing_16 : decode cX11_thing 16 = .ok (.bipush 10, 2) := by decide +kernel
theorem dX11_thing_18 : decode cX11_thing 18 = .ok (.iload_n 1, 1) := by decide +kernel
theorem dX11_thing_19 : decode cX11_thing 19 = .ok (.iadd, 1) := by decide +kernel
theorem dX11_thing_20 : decode cX11_thing 20 = .ok (.iaload, 1) := by decide +kernel
theorem dX11_thing_21 : decode cX11_thing 21 = .ok (.ifCond .ge 8, 3) := by decide +kernel
theorem dX11_thing_24 : decode cX11_thing 24 = .ok (.ldc 152, 2) := by decide +kernel
theorem dX11_thing_26 : decode cX11_thing 26 = .ok (.goto 12, 3) := by decide +kernel
theorem dX11_thing_29 : decode cX11_thing 29 = .ok (.aload_n 0, 1) := by decide +kernel
theorem dX11_thing_30 : decode cX11_thing 30 = .ok (.getfield 9, 3) := by decide +kernel
theorem dX11_thing_33 : decode cX11_thing 33 = .ok (.bipush 10, 2) := by decide +kernel
theorem dX11_thing_35 : decode cX11_thing 35 = .ok (.iload_n 1, 1) := by decide +kernel
theorem dX11_thing_36 : decode cX11_thing 36 = .ok (.iadd, 1) := by decide +kernel
theorem dX11_thing_37 : decode cX11_thing 37 = .ok (.iaload, 1) := by decide +kernel
theorem dX11_thing_38 : decode cX11_thing 38 = .ok (.ireturn, 1) := by decide +kernel
theorem dX11_thaws_0 : decode cX11_thaws 0 = .ok (.iload_n 1, 1) := by decide +kernel
theorem dX11_thaws_1 : decode cX11_thaws 1 = .ok (.istore_n 2, 1) := by decide +kernel
theorem dX11_thaws_2 : decode cX11_thaws 2 = .ok (.iload_n 2, 1) := by decide +kernel
theorem dX11_thaws_3 : decode cX11_thaws 3 = .ok (.ifCond .le 171, 3) := by decide +kernel
theorem dX11_thaws_6 : decode cX11_thaws 6 = .ok (.aload_n 0, 1) := by decide +kernel
theorem dX11_thaws_7 : decode cX11_thaws 7 = .ok (.getfield 9, 3) := by decide +kernel
theorem dX11_thaws_10 : decode cX11_thaws 10 = .ok (.bipush 7, 2) := by decide +kernel
theorem dX11_thaws_12 : decode cX11_thaws 12 = .ok (.iaload, 1) := by decide +kernel
theorem dX11_thaws_13 : decode cX11_thaws 13 = .ok (.ifCond .le 161, 3) := by decide +kernel
theorem dX11_thaws_16 : decode cX11_thaws 16 = .ok (.aload_n 0, 1) := by decide +kernel
theorem dX11_thaws_17 : decode cX11_thaws 17 = .ok (.getfield 9, 3) := by decide +kernel
theorem dX11_thaws_20 : decode cX11_thaws 20 = .ok (.bipush 7, 2) := by decide +kernel
theorem dX11_thaws_22 : decode cX11_thaws 22 = .ok (.iaload, 1) := by decide +kernel
theorem dX11_thaws_23 : decode cX11_thaws 23 = .ok (.iconst 1, 1) := by decide +kernel
theorem dX11_thaws_24 : decode cX11_thaws 24 = .ok (.isub, 1) := by decide +kernel
theorem dX11_thaws_25 : decode cX11_thaws 25 = .ok (.istore_n 3, 1) := by decide +kernel
theorem dX11_thaws_26 : decode cX11_thaws 26 = .ok (.iload_n 2, 1) := by decide +kernel
theorem dX11_thaws_27 : decode cX11_thaws 27 = .ok (.iconst 0, 1) := by decide +kernel
theorem dX11_thaws_28 : decode cX11_thaws 28 = .ok (.aload_n 0, 1) := by decide +kernel
theorem dX11_thaws_29 : decode cX11_thaws 29 = .ok (.getfield 9, 3) := by decide +kernel
theorem dX11_thaws_32 : decode cX11_thaws 32 = .ok (.bipush 16, 2) := by decide +kernel
theorem dX11_thaws_34 : decode cX11_thaws 34 = .ok (.iconst 2, 1) := by decide +kernel
theorem dX11_thaws_35 : decode cX11_thaws 35 = .ok (.iload_n 3, 1) := by decide +kernel
theorem dX11_thaws_36 : decode cX11_thaws 36 = .ok (.imul, 1) := by decide +kernel
theorem dX11_thaws_37 : decode cX11_thaws 37 = .ok (.iadd, 1) := by decide +kernel
theorem dX11_thaws_38 : decode cX11_thaws 38 = .ok (.iconst 1, 1) := by decide +kernel
theorem dX11_thaws_39 : decode cX11_thaws 39 = .ok (.iadd, 1) := by decide +kernel
theorem dX11_thaws_40 : decode cX11_thaws 40 = .ok (.iaload, 1) := by decide +kernel
theorem dX11_thaws_41 : decode cX11_thaws 41 = .ok (.invokestatic 107, 3) := by decide +kernel
theorem dX11_thaws_44 : decode cX11_thaws 44 = .ok (.istore 4, 2) := by decide +kernel
theorem dX11_thaws_46 : decode cX11_thaws 46 = .ok (.aload_n 0, 1) := by decide +kernel
theorem dX11_thaws_47 : decode cX11_thaws 47 = .ok (.getfield 9, 3) := by decide +kernel
theorem dX11_thaws_50 : decode cX11_thaws 50 = .ok (.bipush 16, 2) := by decide +kernel
theorem dX11_thaws_52 : decode cX11_thaws 52 = .ok (.iconst 2, 1) := by decide +kernel
theorem dX11_thaws_53 : decode cX11_thaws 53 = .ok (.iload_n 3, 1) := by decide +kernel
theorem dX11_thaws_54 : decode cX11_thaws 54 = .ok (.imul, 1) := by decide +kernel
theorem dX11_thaws_55 : decode cX11_thaws 55 = .ok (.iadd, 1) := by decide +kernel
theorem dX11_thaws_56 : decode cX11_thaws 56 = .ok (.iconst 1, 1) := by decide +kernel
theorem dX11_thaws_57 : decode cX11_thaws 57 = .ok (.iadd, 1) := by decide +kernel
theorem dX11_thaws_58 : decode cX11_thaws 58 = .ok (.dup2, 1) := by decide +kernel
theorem dX11_thaws_59 : decode cX11_thaws 59 = .ok (.iaload, 1) := by decide +kernel
theorem dX11_thaws_60 : decode cX11_thaws 60 = .ok (.iload 4, 2) := by decide +kernel
theorem dX11_thaws_62 : decode cX11_thaws 62 = .ok (.isub, 1) := by decide +kernel
theorem dX11_thaws_63 : decode cX11_thaws 63 = .ok (.iastore, 1) := by decide +kernel
theorem dX11_thaws_64 : decode cX11_thaws 64 = .ok (.aload_n 0, 1) := by decide +kernel
theorem dX11_thaws_65 : decode cX11_thaws 65 = .ok (.getfield 9, 3) := by decide +kernel
theorem dX11_thaws_68 : decode cX11_thaws 68 = .ok (.bipush 8, 2) := by decide +kernel
theorem dX11_thaws_70 : decode cX11_thaws 70 = .ok (.dup2, 1) := by decide +kernel
theorem dX11_thaws_71 : decode cX11_thaws 71 = .ok (.iaload, 1) := by decide +kernel
theorem dX11_thaws_72 : decode cX11_thaws 72 = .ok (.iload 4, 2) := by decide +kernel
theorem dX11_thaws_74 : decode cX11_thaws 74 = .ok (.iadd, 1) := by decide +kernel
theorem dX11_thaws_75 : decode cX11_thaws 75 = .ok (.iastore, 1) := by decide +kernel
theorem dX11_thaws_76 : decode cX11_thaws 76 = .ok (.iload_n 2, 1) := by decide +kernel
theorem dX11_thaws_77 : decode cX11_thaws 77 = .ok (.iload 4, 2) := by decide +kernel
theorem dX11_thaws_79 : decode cX11_thaws 79 = .ok (.isub, 1) := by decide +kernel
theorem dX11_thaws_80 : decode cX11_thaws 80 = .ok (.istore_n 2, 1) := by decide +kernel
theorem dX11_thaws_81 : decode cX11_thaws 81 = .ok (.aload_n 0, 1) := by decide +kernel
theorem dX11_thaws_82 : decode cX11_thaws 82 = .ok (.getfield 9, 3) := by decide +kernel
theorem dX11_thaws_85 : decode cX11_thaws 85 = .ok (.bipush 16, 2) := by decide +kernel
theorem dX11_thaws_87 : decode cX11_thaws 87 = .ok (.iconst 2, 1) := by decide +kernel
theorem dX11_thaws_88 : decode cX11_thaws 88 = .ok (.iload_n 3, 1) := by decide +kernel
theorem dX11_thaws_89 : decode cX11_thaws 89 = .ok (.imul, 1) := by decide +kernel
theorem dX11_thaws_90 : decode cX11_thaws 90 = .ok (.iadd, 1) := by decide +kernel
theorem dX11_thaws_91 : decode cX11_thaws 91 = .ok (.iconst 1, 1) := by decide +kernel
theorem dX11_thaws_92 : decode cX11_thaws 92 = .ok (.iadd, 1) := by decide +kernel
theorem dX11_thaws_93 : decode cX11_thaws 93 = .ok (.iaload, 1) := by decide +kernel
theorem dX11_thaws_94 : decode cX11_thaws 94 = .ok (.ifCond .ne 77, 3) := by decide +kernel
theorem dX11_thaws_97 : decode cX11_thaws 97 = .ok (.aload_n 0, 1) := by decide +kernel
theorem dX11_thaws_98 : decode cX11_thaws 98 = .ok (.getfield 9, 3) := by decide +kernel
theorem dX11_thaws_101 : decode cX11_thaws 101 = .ok (.bipush 7, 2) := by decide +kernel
theorem dX11_thaws_103 : decode cX11_thaws 103 = .ok (.dup2, 1) := by decide +kernel
theorem dX11_thaws_104 : decode cX11_thaws 104 = .ok (.iaload, 1) := by decide +kernel
theorem dX11_thaws_105 : decode cX11_thaws 105 = .ok (.iconst 1, 1) := by decide +kernel
theorem dX11_thaws_106 : decode cX11_thaws 106 = .ok (.isub, 1) := by decide +kernel
theorem dX11_thaws_107 : decode cX11_thaws 107 = .ok (.iastore, 1) := by decide +kernel
theorem dX11_thaws_108 : decode cX11_thaws 108 = .ok (.iconst 0, 1) := by decide +kernel
theorem dX11_thaws_109 : decode cX11_thaws 109 = .ok (.istore 5, 2) := by decide +kernel
theorem dX11_thaws_111 : decode cX11_thaws 111 = .ok (.iload 5, 2) := by decide +kernel
theorem dX11_thaws_113 : decode cX11_thaws 113 = .ok (.bipush 6, 2) := by decide +kernel
theorem dX11_thaws_115 : decode cX11_thaws 115 = .ok (.if_icmp .ge 56, 3) := by decide +kernel
theorem dX11_thaws_118 : decode cX11_thaws 118 = .ok (.aload_n 0, 1) := by decide +kernel
theorem dX11_thaws_119 : decode cX11_thaws 119 = .ok (.getfield 9, 3) := by decide +kernel
theorem dX11_thaws_122 : decode cX11_thaws 122 = .ok (.bipush 10, 2) := by decide +kernel
theorem dX11_thaws_124 : decode cX11_thaws 124 = .ok (.iload 5, 2) := by decide +kernel
theorem dX11_thaws_126 : decode cX11_thaws 126 = .ok (.iadd, 1) := by decide +kernel
theorem dX11_thaws_127 : decode cX11_thaws 127 = .ok (.aload_n 0, 1) := by decide +kernel
theorem dX11_thaws_128 : decode cX11_thaws 128 = .ok (.getfield 9, 3) := by decide +kernel
theorem dX11_thaws_131 : decode cX11_thaws 131 = .ok (.bipush 10, 2) := by decide +kernel
theorem dX11_thaws_133 : decode cX11_thaws 133 = .ok (.iload 5, 2) := by decide +kernel
theorem dX11_thaws_135 : decode cX11_thaws 135 = .ok (.iadd, 1) := by decide +kernel
theorem dX11_thaws_136 : decode cX11_thaws 136 = .ok (.iaload, 1) := by decide +kernel
theorem dX11_thaws_137 : decode cX11_thaws 137 = .ok (.iload_n 3, 1) := by decide +kernel
theorem dX11_thaws_138 : decode cX11_thaws 138 = .ok (.if_icmp .ne 16, 3) := by decide +kernel
theorem dX11_thaws_141 : decode cX11_thaws 141 = .ok (.bipush 100, 2) := by decide +kernel
theorem dX11_thaws_143 : decode cX11_thaws 143 = .ok (.aload_n 0, 1) := by decide +kernel
theorem dX11_thaws_144 : decode cX11_thaws 144 = .ok (.getfield 9, 3) := by decide +kernel
theorem dX11_thaws_147 : decode cX11_thaws 147 = .ok (.bipush 6, 2) := by decide +kernel
theorem dX11_thaws_149 : decode cX11_thaws 149 = .ok (.iaload, 1) := by decide +kernel
theorem dX11_thaws_150 : decode cX11_thaws 150 = .ok (.iadd, 1) := by decide +kernel
theorem dX11_thaws_151 : decode cX11_thaws 151 = .ok (.goto 13, 3) := by decide +kernel
theorem dX11_thaws_154 : decode cX11_thaws 154 = .ok (.aload_n 0, 1) := by decide +kernel
theorem dX11_thaws_155 : decode cX11_thaws 155 = .ok (.getfield 9, 3) := by decide +kernel
theorem dX11_thaws_158 : decode cX11_thaws 158 = .ok (.bipush 10, 2) := by decide +kernel
theorem dX11_thaws_160 : decode cX11_thaws 160 = .ok (.iload 5, 2) := by decide +kernel
theorem dX11_thaws_162 : decode cX11_thaws 162 = .ok (.iadd, 1) := by decide +kernel
theorem dX11_thaws_163 : decode cX11_thaws 163 = .ok (.iaload, 1) := by decide +kernel
theorem dX11_thaws_164 : decode cX11_thaws 164 = .ok (.iastore, 1) := by decide +kernel
theorem dX11_thaws_165 : decode cX11_thaws 165 = .ok (.iinc 5 1, 3) := by decide +kernel
theorem dX11_thaws_168 : decode cX11_thaws 168 = .ok (.goto (-57), 3) := by decide +kernel
theorem dX11_thaws_171 : decode cX11_thaws 171 = .ok (.goto (-169), 3) := by decide +kernel
theorem dX11_thaws_174 : decode cX11_thaws 174 = .ok (.return_, 1) := by decide +kernel
theorem dX11_passes_0 : decode cX11_passes 0 = .ok (.aload_n 0, 1) := by decide +kernel
theorem dX11_passes_1 : decode cX11_passes 1 = .ok (.invokevirtual 141, 3) := by decide +kernel
theorem dX11_passes_4 : decode cX11_passes 4 = .ok (.istore_n 2, 1) := by decide +kernel
theorem dX11_passes_5 : decode cX11_passes 5 = .ok (.iload_n 2, 1) := by decide +kernel
theorem dX11_passes_6 : decode cX11_passes 6 = .ok (.aload_n 0, 1) := by decide +kernel
theorem dX11_passes_7 : decode cX11_passes 7 = .ok (.iload_n 1, 1) := by decide +kernel
theorem dX11_passes_8 : decode cX11_passes 8 = .ok (.iconst 2, 1) := by decide +kernel
theorem dX11_passes_9 : decode cX11_passes 9 = .ok (.invokevirtual 110, 3) := by decide +kernel
theorem dX11_passes_12 : decode cX11_passes 12 = .ok (.if_icmp .gt 5, 3) := by decide +kernel
theorem dX11_passes_15 : decode cX11_passes 15 = .ok (.iconst 0, 1) := by decide +kernel
theorem dX11_passes_16 : decode cX11_passes 16 = .ok (.ireturn, 1) := by decide +kernel
theorem dX11_passes_17 : decode cX11_passes 17 = .ok (.aload_n 0, 1) := by decide +kernel
theorem dX11_passes_18 : decode cX11_passes 18 = .ok (.iload_n 1, 1) := by decide +kernel
theorem dX11_passes_19 : decode cX11_passes 19 = .ok (.iconst 2, 1) := by decide +kernel
theorem dX11_passes_20 : decode cX11_passes 20 = .ok (.iload_n 2, 1) := by decide +kernel
theorem dX11_passes_21 : decode cX11_passes 21 = .ok (.invokevirtual 82, 3) := by decide +kernel
theorem dX11_passes_24 : decode cX11_passes 24 = .ok (.aload_n 0, 1) := by decide +kernel
theorem dX11_passes_25 : decode cX11_passes 25 = .ok (.iload_n 1, 1) := by decide +kernel
theorem dX11_passes_26 : decode cX11_passes 26 = .ok (.iconst 3, 1) := by decide +kernel
theorem dX11_passes_27 : decode cX11_passes 27 = .ok (.aload_n 0, 1) := by decide +kernel
theorem dX11_passes_28 : decode cX11_passes 28 = .ok (.iload_n 1, 1) := by decide +kernel
theorem dX11_passes_29 : decode cX11_passes 29 = .ok (.iconst 3, 1) := by decide +kernel
theorem dX11_passes_30 : decode cX11_passes 30 = .ok (.invokevirtual 110, 3) := by decide +kernel
theorem dX11_passes_33 : decode cX11_passes 33 = .ok (.iconst 1, 1) := by decide +kernel
theorem dX11_passes_34 : decode cX11_passes 34 = .ok (.iadd, 1) := by decide +kernel
theorem dX11_passes_35 : decode cX11_passes 35 = .ok (.invokevirtual 82, 3) := by decide +kernel
theorem dX11_passes_38 : decode cX11_passes 38 = .ok (.iconst 1, 1) := by decide +kernel
theorem dX11_passes_39 : decode cX11_passes 39 = .ok (.ireturn, 1) := by decide +kernel
theorem dX11_day_0 : decode cX11_day 0 = .ok (.iconst 0, 1) := by decide +kernel
theorem dX11_day_1 : decode cX11_day 1 = .ok (.istore_n 2, 1) := by decide +kernel
theorem dX11_day_2 : decode cX11_day 2 = .ok (.aload_n 0, 1) := by decide +kernel
theorem dX11_day_3 : decode cX11_day 3 = .ok (.getfield 9, 3) := by decide +kernel
theorem dX11_day_6 : decode cX11_day 6 = .ok (.iconst 1, 1) := by decide +kernel
theorem dX11_day_7 : decode cX11_day 7 = .ok (.iaload, 1) := by decide +kernel
theorem dX11_day_8 : decode cX11_day 8 = .ok (.ifCond .le 278, 3) := by decide +kernel
theorem dX11_day_11 : decode cX11_day 11 = .ok (.aload_n 0, 1) := by decide +kernel
theorem dX11_day_12 : decode cX11_day 12 = .ok (.invokevirtual 138, 3) := by decide +kernel
theorem dX11_day_15 : decode cX11_day 15 = .ok (.aload_n 0, 1) := by decide +kernel
theorem dX11_day_16 : decode cX11_day 16 = .ok (.getfield 9, 3) := by decide +kernel
theorem dX11_day_19 : decode cX11_day 19 = .ok (.iconst 3, 1) := by decide +kernel
theorem dX11_day_20 : decode cX11_day 20 = .ok (.iaload, 1) := by decide +kernel
theorem dX11_day_21 : decode cX11_day 21 = .ok (.iconst 1, 1) := by decide +kernel
theorem dX11_day_22 : decode cX11_day 22 = .ok (.iadd, 1) := by decide +kernel
theorem dX11_day_23 : decode cX11_day 23 = .ok (.irem, 1) := by decide +kernel
theorem dX11_day_24 : decode cX11_day 24 = .ok (.istore_n 3, 1) := by decide +kernel
theorem dX11_day_25 : decode cX11_day 25 = .ok (.aload_n 0, 1) := by decide +kernel
theorem dX11_day_26 : decode cX11_day 26 = .ok (.aload_n 0, 1) := by decide +kernel
theorem dX11_day_27 : decode cX11_day 27 = .ok (.aload_n 0, 1) := by decide +kernel
theorem dX11_day_28 : decode cX11_day 28 = .ok (.getfield 9, 3) := by decide +kernel
theorem dX11_day_31 : decode cX11_day 31 = .ok (.bipush 6, 2) := by decide +kernel
theorem dX11_day_33 : decode cX11_day 33 = .ok (.iaload, 1) := by decide +kernel
theorem dX11_day_34 : decode cX11_day 34 = .ok (.iconst 0, 1) := by decide +kernel
theorem dX11_day_35 : decode cX11_day 35 = .ok (.invokevirtual 110, 3) := by decide +kernel
theorem dX11_day_38 : decode cX11_day 38 = .ok (.iconst 5, 1) := by decide +kernel
theorem dX11_day_39 : decode cX11_day 39 = .ok (.if_icmp .ne 9, 3) := by decide +kernel
theorem dX11_day_42 : decode cX11_day 42 = .ok (.iload_n 3, 1) := by decide +kernel
theorem dX11_day_43 : decode cX11_day 43 = .ok (.iconst 2, 1) := by decide +kernel
theorem dX11_day_44 : decode cX11_day 44 = .ok (.idiv, 1) := by decide +kernel
theorem dX11_day_45 : decode cX11_day 45 = .ok (.goto 4, 3) := by decide +kernel
theorem dX11_day_48 : decode cX11_day 48 = .ok (.iload_n 3, 1) := by decide +kernel
theorem dX11_day_49 : decode cX11_day 49 = .ok (.invokevirtual 153, 3) := by decide +kernel
theorem dX11_day_52 : decode cX11_day 52 = .ok (.aload_n 0, 1) := by decide +kernel
theorem dX11_day_53 : decode cX11_day 53 = .ok (.aload_n 0, 1) := by decide +kernel
theorem dX11_day_54 : decode cX11_day 54 = .ok (.getfield 9, 3) := by decide +kernel
theorem dX11_day_57 : decode cX11_day 57 = .ok (.bipush 6, 2) := by decide +kernel
theorem dX11_day_59 : decode cX11_day 59 = .ok (.iaload, 1) := by decide +kernel
theorem dX11_day_60 : decode cX11_day 60 = .ok (.invokevirtual 118, 3) := by decide +kernel
theorem dX11_day_63 : decode cX11_day 63 = .ok (.istore 4, 2) := by decide +kernel
theorem dX11_day_65 : decode cX11_day 65 = .ok (.aload_n 0, 1) := by decide +kernel
theorem dX11_day_66 : decode cX11_day 66 = .ok (.aload_n 0, 1) := by decide +kernel
theorem dX11_day_67 : decode cX11_day 67 = .ok (.getfield 9, 3) := by decide +kernel
theorem dX11_day_70 : decode cX11_day 70 = .ok (.bipush 6, 2) := by decide +kernel
theorem dX11_day_72 : decode cX11_day 72 = .ok (.iaload, 1) := by decide +kernel
theorem dX11_day_73 : decode cX11_day 73 = .ok (.iconst 1, 1) := by decide +kernel
theorem dX11_day_74 : decode cX11_day 74 = .ok (.aload_n 0, 1) := by decide +kernel
theorem dX11_day_75 : decode cX11_day 75 = .ok (.aload_n 0, 1) := by decide +kernel
theorem dX11_day_76 : decode cX11_day 76 = .ok (.getfield 9, 3) := by decide +kernel
theorem dX11_day_79 : decode cX11_day 79 = .ok (.bipush 6, 2) := by decide +kernel
theorem dX11_day_81 : decode cX11_day 81 = .ok (.iaload, 1) := by decide +kernel
theorem dX11_day_82 : decode cX11_day 82 = .ok (.iconst 1, 1) := by decide +kernel
theorem dX11_day_83 : decode cX11_day 83 = .ok (.invokevirtual 110, 3) := by decide +kernel
theorem dX11_day_86 : decode cX11_day 86 = .ok (.iload 4, 2) := by decide +kernel
theorem dX11_day_88 : decode cX11_day 88 = .ok (.isub, 1) := by decide +kernel
theorem dX11_day_89 : decode cX11_day 89 = .ok (.invokevirtual 82, 3) := by decide +kernel
theorem dX11_day_92 : decode cX11_day 92 = .ok (.iload 4, 2) := by decide +kernel
theorem dX11_day_94 : decode cX11_day 94 = .ok (.ifCond .le 16, 3) := by decide +kernel
theorem dX11_day_97 : decode cX11_day 97 = .ok (.aload_n 0, 1) := by decide +kernel
theorem dX11_day_98 : decode cX11_day 98 = .ok (.aload_n 0, 1) := by decide +kernel
theorem dX11_day_99 : decode cX11_day 99 = .ok (.getfield 9, 3) := by decide +kernel
theorem dX11_day_102 : decode cX11_day 102 = .ok (.bipush 6, 2) := by decide +kernel
theorem dX11_day_104 : decode cX11_day 104 = .ok (.iaload, 1) := by decide +kernel
theorem dX11_day_105 : decode cX11_day 105 = .ok (.iload 4, 2) := by decide +kernel
theorem dX11_day_107 : decode cX11_day 107 = .ok (.invokevirtual 144, 3) := by decide +kernel
theorem dX11_day_110 : decode cX11_day 110 = .ok (.aload_n 0, 1) := by decide +kernel
theorem dX11_day_111 : decode cX11_day 111 = .ok (.aload_n 0, 1) := by decide +kernel
theorem dX11_day_112 : decode cX11_day 112 = .ok (.getfield 9, 3) := by decide +kernel
theorem dX11_day_115 : decode cX11_day 115 = .ok (.bipush 6, 2) := by decide +kernel
theorem dX11_day_117 : decode cX11_day 117 = .ok (.iaload, 1) := by decide +kernel
theorem dX11_day_118 : decode cX11_day 118 = .ok (.invokevirtual 121, 3) := by decide +kernel
theorem dX11_day_121 : decode cX11_day 121 = .ok (.iload_n 1, 1) := by decide +kernel
theorem dX11_day_122 : decode cX11_day 122 = .ok (.iadd, 1) := by decide +kernel
theorem dX11_day_123 : decode cX11_day 123 = .ok (.istore 5, 2) := by decide +kernel
theorem dX11_day_125 : decode cX11_day 125 = .ok (.iconst 0, 1) := by decide +kernel
theorem dX11_day_126 : decode cX11_day 126 = .ok (.istore 6, 2) := by decide +kernel
theorem dX11_day_128 : decode cX11_day 128 = .ok (.iload 6, 2) := by decide +kernel
theorem dX11_day_130 : decode cX11_day 130 = .ok (.iload 5, 2) := by decide +kernel
theorem dX11_day_132 : decode cX11_day 132 = .ok (.if_icmp .ge 46, 3) := by decide +kernel
theorem dX11_day_135 : decode cX11_day 135 = .ok (.iload_n 2, 1) := by decide +kernel
theorem dX11_day_136 : decode cX11_day 136 = .ok (.aload_n 0, 1) := by decide +kernel
theorem dX11_day_137 : decode cX11_day 137 = .ok (.aload_n 0, 1) := by decide +kernel
theorem dX11_day_138 : decode cX11_day 138 = .ok (.getfield 9, 3) := by decide +kernel
theorem dX11_day_141 : decode cX11_day 141 = .ok (.bipush 6, 2) := by decide +kernel
theorem dX11_day_143 : decode cX11_day 143 = .ok (.iaload, 1) := by decide +kernel
theorem dX11_day_144 : decode cX11_day 144 = .ok (.invokevirtual 157, 3) := by decide +kernel
theorem dX11_day_147 : decode cX11_day 147 = .ok (.iadd, 1) := by decide +kernel
theorem dX11_day_148 : decode cX11_day 148 = .ok (.istore_n 2, 1) := by decide +kernel
theorem dX11_day_149 : decode cX11_day 149 = .ok (.aload_n 0, 1) := by decide +kernel
theorem dX11_day_150 : decode cX11_day 150 = .ok (.getfield 9, 3) := by decide +kernel
theorem dX11_day_153 : decode cX11_day 153 = .ok (.bipush 6, 2) := by decide +kernel
theorem dX11_day_155 : decode cX11_day 155 = .ok (.aload_n 0, 1) := by decide +kernel
theorem dX11_day_156 : decode cX11_day 156 = .ok (.getfield 9, 3) := by decide +kernel
theorem dX11_day_159 : decode cX11_day 159 = .ok (.bipush 6, 2) := by decide +kernel
theorem dX11_day_161 : decode cX11_day 161 = .ok (.iaload, 1) := by decide +kernel
theorem dX11_day_162 : decode cX11_day 162 = .ok (.iconst 1, 1) := by decide +kernel
theorem dX11_day_163 : decode cX11_day 163 = .ok (.iadd, 1) := by decide +kernel
theorem dX11_day_164 : decode cX11_day 164 = .ok (.aload_n 0, 1) := by decide +kernel
theorem dX11_day_165 : decode cX11_day 165 = .ok (.getfield 9, 3) := by decide +kernel
theorem dX11_day_168 : decode cX11_day 168 = .ok (.iconst 1, 1) := by decide +kernel
theorem dX11_day_169 : decode cX11_day 169 = .ok (.iaload, 1) := by decide +kernel
theorem dX11_day_170 : decode cX11_day 170 = .ok (.irem, 1) := by decide +kernel
theorem dX11_day_171 : decode cX11_day 171 = .ok (.iastore, 1) := by decide +kernel
theorem dX11_day_172 : decode cX11_day 172 = .ok (.iinc 6 1, 3) := by decide +kernel
theorem dX11_day_175 : decode cX11_day 175 = .ok (.goto (-47), 3) := by decide +kernel
theorem dX11_day_178 : decode cX11_day 178 = .ok (.iconst 0, 1) := by decide +kernel
theorem dX11_day_179 : decode cX11_day 179 = .ok (.istore 6, 2) := by decide +kernel
theorem dX11_day_181 : decode cX11_day 181 = .ok (.iload 6, 2) := by decide +kernel
theorem dX11_day_183 : decode cX11_day 183 = .ok (.iload 5, 2) := by decide +kernel
theorem dX11_day_185 : decode cX11_day 185 = .ok (.if_icmp .le 53, 3) := by decide +kernel
theorem dX11_day_188 : decode cX11_day 188 = .ok (.aload_n 0, 1) := by decide +kernel
theorem dX11_day_189 : decode cX11_day 189 = .ok (.getfield 9, 3) := by decide +kernel
theorem dX11_day_192 : decode cX11_day 192 = .ok (.bipush 6, 2) := by decide +kernel
theorem dX11_day_194 : decode cX11_day 194 = .ok (.aload_n 0, 1) := by decide +kernel
theorem dX11_day_195 : decode cX11_day 195 = .ok (.getfield 9, 3) := by decide +kernel
theorem dX11_day_198 : decode cX11_day 198 = .ok (.bipush 6, 2) := by decide +kernel
theorem dX11_day_200 : decode cX11_day 200 = .ok (.iaload, 1) := by decide +kernel
theorem dX11_day_201 : decode cX11_day 201 = .ok (.aload_n 0, 1) := by decide +kernel
theorem dX11_day_202 : decode cX11_day 202 = .ok (.getfield 9, 3) := by decide +kernel
theorem dX11_day_205 : decode cX11_day 205 = .ok (.iconst 1, 1) := by decide +kernel
theorem dX11_day_206 : decode cX11_day 206 = .ok (.iaload, 1) := by decide +kernel
theorem dX11_day_207 : decode cX11_day 207 = .ok (.iadd, 1) := by decide +kernel
theorem dX11_day_208 : decode cX11_day 208 = .ok (.iconst 1, 1) := by decide +kernel
theorem dX11_day_209 : decode cX11_day 209 = .ok (.isub, 1) := by decide +kernel
theorem dX11_day_210 : decode cX11_day 210 = .ok (.aload_n 0, 1) := by decide +kernel
theorem dX11_day_211 : decode cX11_day 211 = .ok (.getfield 9, 3) := by decide +kernel
theorem dX11_day_214 : decode cX11_day 214 = .ok (.iconst 1, 1) := by decide +kernel
theorem dX11_day_215 : decode cX11_day 215 = .ok (.iaload, 1) := by decide +kernel
theorem dX11_day_216 : decode cX11_day 216 = .ok (.irem, 1) := by decide +kernel
theorem dX11_day_217 : decode cX11_day 217 = .ok (.iastore, 1) := by decide +kernel
theorem dX11_day_218 : decode cX11_day 218 = .ok (.iload_n 2, 1) := by decide +kernel
theorem dX11_day_219 : decode cX11_day 219 = .ok (.aload_n 0, 1) := by decide +kernel
theorem dX11_day_220 : decode cX11_day 220 = .ok (.aload_n 0, 1) := by decide +kernel
theorem dX11_day_221 : decode cX11_day 221 = .ok (.getfield 9, 3) := by decide +kernel
theorem dX11_day_224 : decode cX11_day 224 = .ok (.bipush 6, 2) := by decide +kernel
theorem dX11_day_226 : decode cX11_day 226 = .ok (.iaload, 1) := by decide +kernel
theorem dX11_day_227 : decode cX11_day 227 = .ok (.invokevirtual 157, 3) := by decide +kernel
theorem dX11_day_230 : decode cX11_day 230 = .ok (.iadd, 1) := by decide +kernel
theorem dX11_day_231 : decode cX11_day 231 = .ok (.istore_n 2, 1) := by decide +kernel
theorem dX11_day_232 : decode cX11_day 232 = .ok (.iinc 6 (-1), 3) := by decide +kernel
theorem dX11_day_235 : decode cX11_day 235 = .ok (.goto (-54), 3) := by decide +kernel
theorem dX11_day_238 : decode cX11_day 238 = .ok (.iconst 0, 1) := by decide +kernel
theorem dX11_day_239 : decode cX11_day 239 = .ok (.istore 6, 2) := by decide +kernel
theorem dX11_day_241 : decode cX11_day 241 = .ok (.iload 6, 2) := by decide +kernel
theorem dX11_day_243 : decode cX11_day 243 = .ok (.aload_n 0, 1) := by decide +kernel
theorem dX11_day_244 : decode cX11_day 244 = .ok (.getfield 9, 3) := by decide +kernel
theorem dX11_day_247 : decode cX11_day 247 = .ok (.iconst 1, 1) := by decide +kernel
theorem dX11_day_248 : decode cX11_day 248 = .ok (.iaload, 1) := by decide +kernel
theorem dX11_day_249 : decode cX11_day 249 = .ok (.if_icmp .ge 37, 3) := by decide +kernel
theorem dX11_day_252 : decode cX11_day 252 = .ok (.aload_n 0, 1) := by decide +kernel
theorem dX11_day_253 : decode cX11_day 253 = .ok (.iload 6, 2) := by decide +kernel
theorem dX11_day_255 : decode cX11_day 255 = .ok (.iconst 1, 1) := by decide +kernel
theorem dX11_day_256 : decode cX11_day 256 = .ok (.aload_n 0, 1) := by decide +kernel
theorem dX11_day_257 : decode cX11_day 257 = .ok (.iload 6, 2) := by decide +kernel
theorem dX11_day_259 : decode cX11_day 259 = .ok (.iconst 1, 1) := by decide +kernel
theorem dX11_day_260 : decode cX11_day 260 = .ok (.invokevirtual 110, 3) := by decide +kernel
theorem dX11_day_263 : decode cX11_day 263 = .ok (.aload_n 0, 1) := by decide +kernel
theorem dX11_day_264 : decode cX11_day 264 = .ok (.getfield 9, 3) := by decide +kernel
theorem dX11_day_267 : decode cX11_day 267 = .ok (.iconst 4, 1) := by decide +kernel
theorem dX11_day_268 : decode cX11_day 268 = .ok (.iaload, 1) := by decide +kernel
theorem dX11_day_269 : decode cX11_day 269 = .ok (.iadd, 1) := by decide +kernel
theorem dX11_day_270 : decode cX11_day 270 = .ok (.iconst 0, 1) := by decide +kernel
theorem dX11_day_271 : decode cX11_day 271 = .ok (.sipush 999, 3) := by decide +kernel
theorem dX11_day_274 : decode cX11_day 274 = .ok (.invokestatic 107, 3) := by decide +kernel
theorem dX11_day_277 : decode cX11_day 277 = .ok (.invokevirtual 82, 3) := by decide +kernel
theorem dX11_day_280 : decode cX11_day 280 = .ok (.iinc 6 1, 3) := by decide +kernel
theorem dX11_day_283 : decode cX11_day 283 = .ok (.goto (-42), 3) := by decide +kernel
theorem dX11_day_286 : decode cX11_day 286 = .ok (.aload_n 0, 1) := by decide +kernel
theorem dX11_day_287 : decode cX11_day 287 = .ok (.getfield 9, 3) := by decide +kernel
theorem dX11_day_290 : decode cX11_day 290 = .ok (.iconst 2, 1) := by decide +kernel
theorem dX11_day_291 : decode cX11_day 291 = .ok (.dup2, 1) := by decide +kernel
theorem dX11_day_292 : decode cX11_day 292 = .ok (.iaload, 1) := by decide +kernel
theorem dX11_day_293 : decode cX11_day 293 = .ok (.iconst 1, 1) := by decide +kernel
theorem dX11_day_294 : decode cX11_day 294 = .ok (.iadd, 1) := by decide +kernel
theorem dX11_day_295 : decode cX11_day 295 = .ok (.iastore, 1) := by decide +kernel
theorem dX11_day_296 : decode cX11_day 296 = .ok (.iload_n 2, 1) := by decide +kernel
theorem dX11_day_297 : decode cX11_day 297 = .ok (.ireturn, 1) := by decide +kernel
theorem dX11_goesOn_0 : decode cX11_goesOn 0 = .ok (.iconst 0, 1) := by decide +kernel
theorem dX11_goesOn_1 : decode cX11_goesOn 1 = .ok (.istore_n 2, 1) := by decide +kernel
theorem dX11_goesOn_2 : decode cX11_goesOn 2 = .ok (.iconst 0, 1) := by decide +kernel
theorem dX11_goesOn_3 : decode cX11_goesOn 3 = .ok (.istore_n 3, 1) := by decide +kernel
theorem dX11_goesOn_4 : decode cX11_goesOn 4 = .ok (.iload_n 3, 1) := by decide +kernel
theorem dX11_goesOn_5 : decode cX11_goesOn 5 = .ok (.iload_n 1, 1) := by decide +kernel
theorem dX11_goesOn_6 : decode cX11_goesOn 6 = .ok (.if_icmp .ge 22, 3) := by decide +kernel
theorem dX11_goesOn_9 : decode cX11_goesOn 9 = .ok (.iload_n 2, 1) := by decide +kernel
theorem dX11_goesOn_10 : decode cX11_goesOn 10 = .ok (.aload_n 0, 1) := by decide +kernel
theorem dX11_goesOn_11 : decode cX11_goesOn 11 = .ok (.aload_n 0, 1) := by decide +kernel
theorem dX11_goesOn_12 : decode cX11_goesOn 12 = .ok (.getfield 9, 3) := by decide +kernel
theorem dX11_goesOn_15 : decode cX11_goesOn 15 = .ok (.iconst 5, 1) := by decide +kernel
theorem dX11_goesOn_16 : decode cX11_goesOn 16 = .ok (.iaload, 1) := by decide +kernel
theorem dX11_goesOn_17 : decode cX11_goesOn 17 = .ok (.invokevirtual 160, 3) := by decide +kernel
theorem dX11_goesOn_20 : decode cX11_goesOn 20 = .ok (.iadd, 1) := by decide +kernel
theorem dX11_goesOn_21 : decode cX11_goesOn 21 = .ok (.istore_n 2, 1) := by decide +kernel
theorem dX11_goesOn_22 : decode cX11_goesOn 22 = .ok (.iinc 3 1, 3) := by decide +kernel
theorem dX11_goesOn_25 : decode cX11_goesOn 25 = .ok (.goto (-21), 3) := by decide +kernel
theorem dX11_goesOn_28 : decode cX11_goesOn 28 = .ok (.iload_n 2, 1) := by decide +kernel
theorem dX11_goesOn_29 : decode cX11_goesOn 29 = .ok (.ireturn, 1) := by decide +kernel
theorem dX11_days_0 : decode cX11_days 0 = .ok (.iload_n 1, 1) := by decide +kernel
theorem dX11_days_1 : decode cX11_days 1 = .ok (.iconst 1, 1) := by decide +kernel
theorem dX11_days_2 : decode cX11_days 2 = .ok (.bipush 100, 2) := by decide +kernel
theorem dX11_days_4 : decode cX11_days 4 = .ok (.invokestatic 78, 3) := by decide +kernel
theorem dX11_days_7 : decode cX11_days 7 = .ok (.ifCond .eq 25, 3) := by decide +kernel
theorem dX11_days_10 : decode cX11_days 10 = .ok (.aload_n 0, 1) := by decide +kernel
theorem dX11_days_11 : decode cX11_days 11 = .ok (.sipush 9999, 3) := by decide +kernel
theorem dX11_days_14 : decode cX11_days 14 = .ok (.aload_n 0, 1) := by decide +kernel
theorem dX11_days_15 : decode cX11_days 15 = .ok (.getfield 9, 3) := by decide +kernel
theorem dX11_days_18 : decode cX11_days 18 = .ok (.iconst 2, 1) := by decide +kernel
theorem dX11_days_19 : decode cX11_days 19 = .ok (.iaload, 1) := by decide +kernel
theorem dX11_days_20 : decode cX11_days 20 = .ok (.isub, 1) := by decide +kernel
theorem dX11_days_21 : decode cX11_days 21 = .ok (.iconst 0, 1) := by decide +kernel
theorem dX11_days_22 : decode cX11_days 22 = .ok (.iload_n 1, 1) := by decide +kernel
theorem dX11_days_23 : decode cX11_days 23 = .ok (.invokestatic 107, 3) := by decide +kernel
theorem dX11_days_26 : decode cX11_days 26 = .ok (.invokevirtual 163, 3) := by decide +kernel
theorem dX11_days_29 : decode cX11_days 29 = .ok (.goto 5, 3) := by decide +kernel
theorem dX11_days_32 : decode cX11_days 32 = .ok (.ldc 90, 2) := by decide +kernel
theorem dX11_days_34 : decode cX11_days 34 = .ok (.ireturn, 1) := by decide +kernel
theorem dX11_thinks_0 : decode cX11_thinks 0 = .ok (.iconst 0, 1) := by decide +kernel
theorem dX11_thinks_1 : decode cX11_thinks 1 = .ok (.istore_n 1, 1) := by decide +kernel
theorem dX11_thinks_2 : decode cX11_thinks 2 = .ok (.iload_n 1, 1) := by decide +kernel
theorem dX11_thinks_3 : decode cX11_thinks 3 = .ok (.bipush 116, 2) := by decide +kernel
theorem dX11_thinks_5 : decode cX11_thinks 5 = .ok (.if_icmp .ge 21, 3) := by decide +kernel
theorem dX11_thinks_8 : decode cX11_thinks 8 = .ok (.aload_n 0, 1) := by decide +kernel
theorem dX11_thinks_9 : decode cX11_thinks 9 = .ok (.getfield 19, 3) := by decide +kernel
theorem dX11_thinks_12 : decode cX11_thinks 12 = .ok (.iload_n 1, 1) := by decide +kernel
theorem dX11_thinks_13 : decode cX11_thinks 13 = .ok (.aload_n 0, 1) := by decide +kernel
theorem dX11_thinks_14 : decode cX11_thinks 14 = .ok (.getfield 9, 3) := by decide +kernel
theorem dX11_thinks_17 : decode cX11_thinks 17 = .ok (.iload_n 1, 1) := by decide +kernel
theorem dX11_thinks_18 : decode cX11_thinks 18 = .ok (.iaload, 1) := by decide +kernel
theorem dX11_thinks_19 : decode cX11_thinks 19 = .ok (.iastore, 1) := by decide +kernel
theorem dX11_thinks_20 : decode cX11_thinks 20 = .ok (.iinc 1 1, 3) := by decide +kernel
theorem dX11_thinks_23 : decode cX11_thinks 23 = .ok (.goto (-21), 3) := by decide +kernel
theorem dX11_thinks_26 : decode cX11_thinks 26 = .ok (.return_, 1) := by decide +kernel
theorem dX11_putsBack_0 : decode cX11_putsBack 0 = .ok (.iconst 0, 1) := by decide +kernel
theorem dX11_putsBack_1 : decode cX11_putsBack 1 = .ok (.istore_n 1, 1) := by decide +kernel
theorem dX11_putsBack_2 : decode cX11_putsBack 2 = .ok (.iload_n 1, 1) := by decide +kernel
theorem dX11_putsBack_3 : decode cX11_putsBack 3 = .ok (.bipush 116, 2) := by decide +kernel
theorem dX11_putsBack_5 : decode cX11_putsBack 5 = .ok (.if_icmp .ge 21, 3) := by decide +kernel
theorem dX11_putsBack_8 : decode cX11_putsBack 8 = .ok (.aload_n 0, 1) := by decide +kernel
theorem dX11_putsBack_9 : decode cX11_putsBack 9 = .ok (.getfield 9, 3) := by decide +kernel
theorem dX11_putsBack_12 : decode cX11_putsBack 12 = .ok (.iload_n 1, 1) := by decide +kernel
theorem dX11_putsBack_13 : decode cX11_putsBack 13 = .ok (.aload_n 0, 1) := by decide +kernel
theorem dX11_putsBack_14 : decode cX11_putsBack 14 = .ok (.getfield 19, 3) := by decide +kernel
theorem dX11_putsBack_17 : decode cX11_putsBack 17 = .ok (.iload_n 1, 1) := by decide +kernel
theorem dX11_putsBack_18 : decode cX11_putsBack 18 = .ok (.iaload, 1) := by decide +kernel
theorem dX11_putsBack_19 : decode cX11_putsBack 19 = .ok (.iastore, 1) := by decide +kernel
theorem dX11_putsBack_20 : decode cX11_putsBack 20 = .ok (.iinc 1 1, 3) := by decide +kernel
theorem dX11_putsBack_23 : decode cX11_putsBack 23 = .ok (.goto (-21), 3) := by decide +kernel
theorem dX11_putsBack_26 : decode cX11_putsBack 26 = .ok (.return_, 1) := by decide +kernel
theorem dX11_sumOf_0 : decode cX11_sumOf 0 = .ok (.iconst 0, 1) := by decide +kernel
theorem dX11_sumOf_1 : decode cX11_sumOf 1 = .ok (.istore_n 2, 1) := by decide +kernel
theorem dX11_sumOf_2 : decode cX11_sumOf 2 = .ok (.iconst 0, 1) := by decide +kernel
theorem dX11_sumOf_3 : decode cX11_sumOf 3 = .ok (.istore_n 3, 1) := by decide +kernel
theorem dX11_sumOf_4 : decode cX11_sumOf 4 = .ok (.iload_n 3, 1) := by decide +kernel
theorem dX11_sumOf_5 : decode cX11_sumOf 5 = .ok (.aload_n 0, 1) := by decide +kernel
theorem dX11_sumOf_6 : decode cX11_sumOf 6 = .ok (.getfield 9, 3) := by decide +kernel
theorem dX11_sumOf_9 : decode cX11_sumOf 9 = .ok (.iconst 1, 1) := by decide +kernel
theorem dX11_sumOf_10 : decode cX11_sumOf 10 = .ok (.iaload, 1) := by decide +kernel
theorem dX11_sumOf_11 : decode cX11_sumOf 11 = .ok (.if_icmp .ge 18, 3) := by decide +kernel
theorem dX11_sumOf_14 : decode cX11_sumOf 14 = .ok (.iload_n 2, 1) := by decide +kernel
theorem dX11_sumOf_15 : decode cX11_sumOf 15 = .ok (.aload_n 0, 1) := by decide +kernel
theorem dX11_sumOf_16 : decode cX11_sumOf 16 = .ok (.iload_n 3, 1) := by decide +kernel
theorem dX11_sumOf_17 : decode cX11_sumOf 17 = .ok (.iload_n 1, 1) := by decide +kernel
theorem dX11_sumOf_18 : decode cX11_sumOf 18 = .ok (.invokevirtual 110, 3) := by decide +kernel
theorem dX11_sumOf_21 : decode cX11_sumOf 21 = .ok (.iadd, 1) := by decide +kernel
theorem dX11_sumOf_22 : decode cX11_sumOf 22 = .ok (.istore_n 2, 1) := by decide +kernel
theorem dX11_sumOf_23 : decode cX11_sumOf 23 = .ok (.iinc 3 1, 3) := by decide +kernel
theorem dX11_sumOf_26 : decode cX11_sumOf 26 = .ok (.goto (-22), 3) := by decide +kernel
theorem dX11_sumOf_29 : decode cX11_sumOf 29 = .ok (.iload_n 2, 1) := by decide +kernel
theorem dX11_sumOf_30 : decode cX11_sumOf 30 = .ok (.ireturn, 1) := by decide +kernel
theorem dX11_behind_0 : decode cX11_behind 0 = .ok (.iload_n 1, 1) := by decide +kernel
theorem dX11_behind_1 : decode cX11_behind 1 = .ok (.iconst 0, 1) := by decide +kernel
theorem dX11_behind_2 : decode cX11_behind 2 = .ok (.bipush 100, 2) := by decide +kernel
theorem dX11_behind_4 : decode cX11_behind 4 = .ok (.invokestatic 78, 3) := by decide +kernel
theorem dX11_behind_7 : decode cX11_behind 7 = .ok (.ifCond .eq 12, 3) := by decide +kernel
theorem dX11_behind_10 : decode cX11_behind 10 = .ok (.iload_n 2, 1) := by decide +kernel
theorem dX11_behind_11 : decode cX11_behind 11 = .ok (.iconst 0, 1) := by decide +kernel
theorem dX11_behind_12 : decode cX11_behind 12 = .ok (.iconst 3, 1) := by decide +kernel
theorem dX11_behind_13 : decode cX11_behind 13 = .ok (.invokestatic 78, 3) := by decide +kernel
theorem dX11_behind_16 : decode cX11_behind 16 = .ok (.ifCond .ne 6, 3) := by decide +kernel
theorem dX11_behind_19 : decode cX11_behind 19 = .ok (.ldc 90, 2) := by decide +kernel
theorem dX11_behind_21 : decode cX11_behind 21 = .ok (.ireturn, 1) := by decide +kernel
theorem dX11_behind_22 : decode cX11_behind 22 = .ok (.aload_n 0, 1) := by decide +kernel
theorem dX11_behind_23 : decode cX11_behind 23 = .ok (.invokevirtual 166, 3) := by decide +kernel
theorem dX11_behind_26 : decode cX11_behind 26 = .ok (.aload_n 0, 1) := by decide +kernel
theorem dX11_behind_27 : decode cX11_behind 27 = .ok (.iload_n 1, 1) := by decide +kernel
theorem dX11_behind_28 : decode cX11_behind 28 = .ok (.invokevirtual 163, 3) := by decide +kernel
theorem dX11_behind_31 : decode cX11_behind 31 = .ok (.istore_n 3, 1) := by decide +kernel
theorem dX11_behind_32 : decode cX11_behind 32 = .ok (.iload_n 2, 1) := by decide +kernel
theorem dX11_behind_33 : decode cX11_behind 33 = .ok (.ifCond .ne 10, 3) := by decide +kernel
theorem dX11_behind_36 : decode cX11_behind 36 = .ok (.aload_n 0, 1) := by decide +kernel
theorem dX11_behind_37 : decode cX11_behind 37 = .ok (.invokevirtual 100, 3) := by decide +kernel
theorem dX11_behind_40 : decode cX11_behind 40 = .ok (.goto 38, 3) := by decide +kernel
theorem dX11_behind_43 : decode cX11_behind 43 = .ok (.iload_n 2, 1) := by decide +kernel
theorem dX11_behind_44 : decode cX11_behind 44 = .ok (.iconst 1, 1) := by decide +kernel
theorem dX11_behind_45 : decode cX11_behind 45 = .ok (.if_icmp .ne 13, 3) := by decide +kernel
theorem dX11_behind_48 : decode cX11_behind 48 = .ok (.aload_n 0, 1) := by decide +kernel
theorem dX11_behind_49 : decode cX11_behind 49 = .ok (.getfield 9, 3) := by decide +kernel
theorem dX11_behind_52 : decode cX11_behind 52 = .ok (.bipush 6, 2) := by decide +kernel
theorem dX11_behind_54 : decode cX11_behind 54 = .ok (.iaload, 1) := by decide +kernel
theorem dX11_behind_55 : decode cX11_behind 55 = .ok (.goto 23, 3) := by decide +kernel
theorem dX11_behind_58 : decode cX11_behind 58 = .ok (.iload_n 2, 1) := by decide +kernel
theorem dX11_behind_59 : decode cX11_behind 59 = .ok (.iconst 2, 1) := by decide +kernel
theorem dX11_behind_60 : decode cX11_behind 60 = .ok (.if_icmp .ne 11, 3) := by decide +kernel
theorem dX11_behind_63 : decode cX11_behind 63 = .ok (.aload_n 0, 1) := by decide +kernel
theorem dX11_behind_64 : decode cX11_behind 64 = .ok (.iconst 3, 1) := by decide +kernel
theorem dX11_behind_65 : decode cX11_behind 65 = .ok (.invokevirtual 169, 3) := by decide +kernel
theorem dX11_behind_68 : decode cX11_behind 68 = .ok (.goto 10, 3) := by decide +kernel
theorem dX11_behind_71 : decode cX11_behind 71 = .ok (.aload_n 0, 1) := by decide +kernel
theorem dX11_behind_72 : decode cX11_behind 72 = .ok (.getfield 9, 3) := by decide +kernel
theorem dX11_behind_75 : decode cX11_behind 75 = .ok (.bipush 7, 2) := by decide +kernel
theorem dX11_behind_77 : decode cX11_behind 77 = .ok (.iaload, 1) := by decide +kernel
theorem dX11_behind_78 : decode cX11_behind 78 = .ok (.istore 4, 2) := by decide +kernel
theorem dX11_behind_80 : decode cX11_behind 80 = .ok (.aload_n 0, 1) := by decide +kernel
theorem dX11_behind_81 : decode cX11_behind 81 = .ok (.invokevirtual 172, 3) := by decide +kernel
theorem dX11_behind_84 : decode cX11_behind 84 = .ok (.iload 4, 2) := by decide +kernel
theorem dX11_behind_86 : decode cX11_behind 86 = .ok (.ireturn, 1) := by decide +kernel
theorem dX11_gone_0 : decode cX11_gone 0 = .ok (.aload_n 0, 1) := by decide +kernel
theorem dX11_gone_1 : decode cX11_gone 1 = .ok (.invokevirtual 166, 3) := by decide +kernel
theorem dX11_gone_4 : decode cX11_gone 4 = .ok (.iconst 0, 1) := by decide +kernel
theorem dX11_gone_5 : decode cX11_gone 5 = .ok (.istore_n 1, 1) := by decide +kernel
theorem dX11_gone_6 : decode cX11_gone 6 = .ok (.iload_n 1, 1) := by decide +kernel
theorem dX11_gone_7 : decode cX11_gone 7 = .ok (.sipush 300, 3) := by decide +kernel
theorem dX11_gone_10 : decode cX11_gone 10 = .ok (.if_icmp .gt 30, 3) := by decide +kernel
theorem dX11_gone_13 : decode cX11_gone 13 = .ok (.aload_n 0, 1) := by decide +kernel
theorem dX11_gone_14 : decode cX11_gone 14 = .ok (.getfield 9, 3) := by decide +kernel
theorem dX11_gone_17 : decode cX11_gone 17 = .ok (.bipush 7, 2) := by decide +kernel
theorem dX11_gone_19 : decode cX11_gone 19 = .ok (.iaload, 1) := by decide +kernel
theorem dX11_gone_20 : decode cX11_gone 20 = .ok (.ifCond .le 20, 3) := by decide +kernel
theorem dX11_gone_23 : decode cX11_gone 23 = .ok (.aload_n 0, 1) := by decide +kernel
theorem dX11_gone_24 : decode cX11_gone 24 = .ok (.aload_n 0, 1) := by decide +kernel
theorem dX11_gone_25 : decode cX11_gone 25 = .ok (.getfield 9, 3) := by decide +kernel
theorem dX11_gone_28 : decode cX11_gone 28 = .ok (.iconst 5, 1) := by decide +kernel
theorem dX11_gone_29 : decode cX11_gone 29 = .ok (.iaload, 1) := by decide +kernel
theorem dX11_gone_30 : decode cX11_gone 30 = .ok (.invokevirtual 160, 3) := by decide +kernel
theorem dX11_gone_33 : decode cX11_gone 33 = .ok (.istore_n 2, 1) := by decide +kernel
theorem dX11_gone_34 : decode cX11_gone 34 = .ok (.iinc 1 1, 3) := by decide +kernel
theorem dX11_gone_37 : decode cX11_gone 37 = .ok (.goto (-31), 3) := by decide +kernel
theorem dX11_gone_40 : decode cX11_gone 40 = .ok (.aload_n 0, 1) := by decide +kernel
theorem dX11_gone_41 : decode cX11_gone 41 = .ok (.invokevirtual 172, 3) := by decide +kernel
theorem dX11_gone_44 : decode cX11_gone 44 = .ok (.iload_n 1, 1) := by decide +kernel
theorem dX11_gone_45 : decode cX11_gone 45 = .ok (.sipush 300, 3) := by decide +kernel
theorem dX11_gone_48 : decode cX11_gone 48 = .ok (.if_icmp .gt 7, 3) := by decide +kernel
theorem dX11_gone_51 : decode cX11_gone 51 = .ok (.iload_n 1, 1) := by decide +kernel
theorem dX11_gone_52 : decode cX11_gone 52 = .ok (.goto 5, 3) := by decide +kernel
theorem dX11_gone_55 : decode cX11_gone 55 = .ok (.ldc 152, 2) := by decide +kernel
theorem dX11_gone_57 : decode cX11_gone 57 = .ok (.ireturn, 1) := by decide +kernel
theorem dX11_findWay_0 : decode cX11_findWay 0 = .ok (.aload_n 0, 1) := by decide +kernel
theorem dX11_findWay_1 : decode cX11_findWay 1 = .ok (.invokevirtual 166, 3) := by decide +kernel
theorem dX11_findWay_4 : decode cX11_findWay 4 = .ok (.iconst 1, 1) := by decide +kernel
theorem dX11_findWay_5 : decode cX11_findWay 5 = .ok (.istore_n 2, 1) := by decide +kernel
theorem dX11_findWay_6 : decode cX11_findWay 6 = .ok (.iconst 0, 1) := by decide +kernel
theorem dX11_findWay_7 : decode cX11_findWay 7 = .ok (.istore_n 3, 1) := by decide +kernel
theorem dX11_findWay_8 : decode cX11_findWay 8 = .ok (.iload_n 3, 1) := by decide +kernel
theorem dX11_findWay_9 : decode cX11_findWay 9 = .ok (.iload_n 1, 1) := by decide +kernel
theorem dX11_findWay_10 : decode cX11_findWay 10 = .ok (.if_icmp .ge 13, 3) := by decide +kernel
theorem dX11_findWay_13 : decode cX11_findWay 13 = .ok (.iload_n 2, 1) := by decide +kernel
theorem dX11_findWay_14 : decode cX11_findWay 14 = .ok (.iconst 3, 1) := by decide +kernel
theorem dX11_findWay_15 : decode cX11_findWay 15 = .ok (.imul, 1) := by decide +kernel
theorem dX11_findWay_16 : decode cX11_findWay 16 = .ok (.istore_n 2, 1) := by decide +kernel
theorem dX11_findWay_17 : decode cX11_findWay 17 = .ok (.iinc 3 1, 3) := by decide +kernel
theorem dX11_findWay_20 : decode cX11_findWay 20 = .ok (.goto (-12), 3) := by decide +kernel
theorem dX11_findWay_23 : decode cX11_findWay 23 = .ok (.iconst 0, 1) := by decide +kernel
theorem dX11_findWay_24 : decode cX11_findWay 24 = .ok (.istore_n 3, 1) := by decide +kernel
theorem dX11_findWay_25 : decode cX11_findWay 25 = .ok (.iload_n 3, 1) := by decide +kernel
theorem dX11_findWay_26 : decode cX11_findWay 26 = .ok (.iload_n 2, 1) := by decide +kernel
theorem dX11_findWay_27 : decode cX11_findWay 27 = .ok (.if_icmp .ge 136, 3) := by decide +kernel
theorem dX11_findWay_30 : decode cX11_findWay 30 = .ok (.iload_n 2, 1) := by decide +kernel
theorem dX11_findWay_31 : decode cX11_findWay 31 = .ok (.iconst 3, 1) := by decide +kernel
theorem dX11_findWay_32 : decode cX11_findWay 32 = .ok (.idiv, 1) := by decide +kernel
theorem dX11_findWay_33 : decode cX11_findWay 33 = .ok (.istore 4, 2) := by decide +kernel
theorem dX11_findWay_35 : decode cX11_findWay 35 = .ok (.iconst 0, 1) := by decide +kernel
theorem dX11_findWay_36 : decode cX11_findWay 36 = .ok (.istore 5, 2) := by decide +kernel
theorem dX11_findWay_38 : decode cX11_findWay 38 = .ok (.iload 5, 2) := by decide +kernel
theorem dX11_findWay_40 : decode cX11_findWay 40 = .ok (.iload_n 1, 1) := by decide +kernel
theorem dX11_findWay_41 : decode cX11_findWay 41 = .ok (.if_icmp .ge 39, 3) := by decide +kernel
theorem dX11_findWay_44 : decode cX11_findWay 44 = .ok (.aload_n 0, 1) := by decide +kernel
theorem dX11_findWay_45 : decode cX11_findWay 45 = .ok (.iload_n 3, 1) := by decide +kernel
theorem dX11_findWay_46 : decode cX11_findWay 46 = .ok (.iload 4, 2) := by decide +kernel
theorem dX11_findWay_48 : decode cX11_findWay 48 = .ok (.idiv, 1) := by decide +kernel
theorem dX11_findWay_49 : decode cX11_findWay 49 = .ok (.iconst 3, 1) := by decide +kernel
theorem dX11_findWay_50 : decode cX11_findWay 50 = .ok (.irem, 1) := by decide +kernel
theorem dX11_findWay_51 : decode cX11_findWay 51 = .ok (.iconst 1, 1) := by decide +kernel
theorem dX11_findWay_52 : decode cX11_findWay 52 = .ok (.isub, 1) := by decide +kernel
theorem dX11_findWay_53 : decode cX11_findWay 53 = .ok (.invokevirtual 160, 3) := by decide +kernel
theorem dX11_findWay_56 : decode cX11_findWay 56 = .ok (.istore 6, 2) := by decide +kernel
theorem dX11_findWay_58 : decode cX11_findWay 58 = .ok (.iload 4, 2) := by decide +kernel
theorem dX11_findWay_60 : decode cX11_findWay 60 = .ok (.iconst 1, 1) := by decide +kernel
theorem dX11_findWay_61 : decode cX11_findWay 61 = .ok (.if_icmp .le 10, 3) := by decide +kernel
theorem dX11_findWay_64 : decode cX11_findWay 64 = .ok (.iload 4, 2) := by decide +kernel
theorem dX11_findWay_66 : decode cX11_findWay 66 = .ok (.iconst 3, 1) := by decide +kernel
theorem dX11_findWay_67 : decode cX11_findWay 67 = .ok (.idiv, 1) := by decide +kernel
theorem dX11_findWay_68 : decode cX11_findWay 68 = .ok (.goto 4, 3) := by decide +kernel
theorem dX11_findWay_71 : decode cX11_findWay 71 = .ok (.iconst 1, 1) := by decide +kernel
theorem dX11_findWay_72 : decode cX11_findWay 72 = .ok (.istore 4, 2) := by decide +kernel
theorem dX11_findWay_74 : decode cX11_findWay 74 = .ok (.iinc 5 1, 3) := by decide +kernel
theorem dX11_findWay_77 : decode cX11_findWay 77 = .ok (.goto (-39), 3) := by decide +kernel
theorem dX11_findWay_80 : decode cX11_findWay 80 = .ok (.aload_n 0, 1) := by decide +kernel
theorem dX11_findWay_81 : decode cX11_findWay 81 = .ok (.iconst 3, 1) := by decide +kernel
theorem dX11_findWay_82 : decode cX11_findWay 82 = .ok (.invokevirtual 169, 3) := by decide +kernel
theorem dX11_findWay_85 : decode cX11_findWay 85 = .ok (.istore 5, 2) := by decide +kernel
theorem dX11_findWay_87 : decode cX11_findWay 87 = .ok (.aload_n 0, 1) := by decide +kernel
theorem dX11_findWay_88 : decode cX11_findWay 88 = .ok (.invokevirtual 100, 3) := by decide +kernel
theorem dX11_findWay_91 : decode cX11_findWay 91 = .ok (.istore 6, 2) := by decide +kernel
theorem dX11_findWay_93 : decode cX11_findWay 93 = .ok (.iload_n 3, 1) := by decide +kernel
theorem dX11_findWay_94 : decode cX11_findWay 94 = .ok (.ifCond .eq 36, 3) := by decide +kernel
theorem dX11_findWay_97 : decode cX11_findWay 97 = .ok (.iload 5, 2) := by decide +kernel
theorem dX11_findWay_99 : decode cX11_findWay 99 = .ok (.aload_n 0, 1) := by decide +kernel
theorem dX11_findWay_100 : decode cX11_findWay 100 = .ok (.getfield 22, 3) := by decide +kernel
theorem dX11_findWay_103 : decode cX11_findWay 103 = .ok (.iconst 0, 1) := by decide +kernel
theorem dX11_findWay_104 : decode cX11_findWay 104 = .ok (.iaload, 1) := by decide +kernel
theorem dX11_findWay_105 : decode cX11_findWay 105 = .ok (.if_icmp .lt 25, 3) := by decide +kernel
theorem dX11_findWay_108 : decode cX11_findWay 108 = .ok (.iload 5, 2) := by decide +kernel
theorem dX11_findWay_110 : decode cX11_findWay 110 = .ok (.aload_n 0, 1) := by decide +kernel
theorem dX11_findWay_111 : decode cX11_findWay 111 = .ok (.getfield 22, 3) := by decide +kernel
theorem dX11_findWay_114 : decode cX11_findWay 114 = .ok (.iconst 0, 1) := by decide +kernel
theorem dX11_findWay_115 : decode cX11_findWay 115 = .ok (.iaload, 1) := by decide +kernel
theorem dX11_findWay_116 : decode cX11_findWay 116 = .ok (.if_icmp .ne 37, 3) := by decide +kernel
theorem dX11_findWay_119 : decode cX11_findWay 119 = .ok (.iload 6, 2) := by decide +kernel
theorem dX11_findWay_121 : decode cX11_findWay 121 = .ok (.aload_n 0, 1) := by decide +kernel
theorem dX11_findWay_122 : decode cX11_findWay 122 = .ok (.getfield 22, 3) := by decide +kernel
theorem dX11_findWay_125 : decode cX11_findWay 125 = .ok (.iconst 1, 1) := by decide +kernel
theorem dX11_findWay_126 : decode cX11_findWay 126 = .ok (.iaload, 1) := by decide +kernel
theorem dX11_findWay_127 : decode cX11_findWay 127 = .ok (.if_icmp .le 26, 3) := by decide +kernel
theorem dX11_findWay_130 : decode cX11_findWay 130 = .ok (.aload_n 0, 1) := by decide +kernel
theorem dX11_findWay_131 : decode cX11_findWay 131 = .ok (.getfield 22, 3) := by decide +kernel
theorem dX11_findWay_134 : decode cX11_findWay 134 = .ok (.iconst 0, 1) := by decide +kernel
theorem dX11_findWay_135 : decode cX11_findWay 135 = .ok (.iload 5, 2) := by decide +kernel
theorem dX11_findWay_137 : decode cX11_findWay 137 = .ok (.iastore, 1) := by decide +kernel
theorem dX11_findWay_138 : decode cX11_findWay 138 = .ok (.aload_n 0, 1) := by decide +kernel
theorem dX11_findWay_139 : decode cX11_findWay 139 = .ok (.getfield 22, 3) := by decide +kernel
theorem dX11_findWay_142 : decode cX11_findWay 142 = .ok (.iconst 1, 1) := by decide +kernel
theorem dX11_findWay_143 : decode cX11_findWay 143 = .ok (.iload 6, 2) := by decide +kernel
theorem dX11_findWay_145 : decode cX11_findWay 145 = .ok (.iastore, 1) := by decide +kernel
theorem dX11_findWay_146 : decode cX11_findWay 146 = .ok (.aload_n 0, 1) := by decide +kernel
theorem dX11_findWay_147 : decode cX11_findWay 147 = .ok (.getfield 22, 3) := by decide +kernel
theorem dX11_findWay_150 : decode cX11_findWay 150 = .ok (.iconst 2, 1) := by decide +kernel
theorem dX11_findWay_151 : decode cX11_findWay 151 = .ok (.iload_n 3, 1) := by decide +kernel
theorem dX11_findWay_152 : decode cX11_findWay 152 = .ok (.iastore, 1) := by decide +kernel
theorem dX11_findWay_153 : decode cX11_findWay 153 = .ok (.aload_n 0, 1) := by decide +kernel
theorem dX11_findWay_154 : decode cX11_findWay 154 = .ok (.invokevirtual 172, 3) := by decide +kernel
theorem dX11_findWay_157 : decode cX11_findWay 157 = .ok (.iinc 3 1, 3) := by decide +kernel
theorem dX11_findWay_160 : decode cX11_findWay 160 = .ok (.goto (-135), 3) := by decide +kernel
theorem dX11_findWay_163 : decode cX11_findWay 163 = .ok (.return_, 1) := by decide +kernel
theorem dX11_way_0 : decode cX11_way 0 = .ok (.iload_n 1, 1) := by decide +kernel
theorem dX11_way_1 : decode cX11_way 1 = .ok (.iconst 1, 1) := by decide +kernel
theorem dX11_way_2 : decode cX11_way 2 = .ok (.iconst 5, 1) := by decide +kernel
theorem dX11_way_3 : decode cX11_way 3 = .ok (.invokestatic 78, 3) := by decide +kernel
theorem dX11_way_6 : decode cX11_way 6 = .ok (.ifCond .eq 12, 3) := by decide +kernel
theorem dX11_way_9 : decode cX11_way 9 = .ok (.iload_n 2, 1) := by decide +kernel
theorem dX11_way_10 : decode cX11_way 10 = .ok (.iconst 0, 1) := by decide +kernel
theorem dX11_way_11 : decode cX11_way 11 = .ok (.iconst 2, 1) := by decide +kernel
theorem dX11_way_12 : decode cX11_way 12 = .ok (.invokestatic 78, 3) := by decide +kernel
theorem dX11_way_15 : decode cX11_way 15 = .ok (.ifCond .ne 6, 3) := by decide +kernel
theorem dX11_way_18 : decode cX11_way 18 = .ok (.ldc 90, 2) := by decide +kernel
theorem dX11_way_20 : decode cX11_way 20 = .ok (.ireturn, 1) := by decide +kernel
theorem dX11_way_21 : decode cX11_way 21 = .ok (.aload_n 0, 1) := by decide +kernel
theorem dX11_way_22 : decode cX11_way 22 = .ok (.getfield 9, 3) := by decide +kernel
theorem dX11_way_25 : decode cX11_way 25 = .ok (.iconst 1, 1) := by decide +kernel
theorem dX11_way_26 : decode cX11_way 26 = .ok (.iaload, 1) := by decide +kernel
theorem dX11_way_27 : decode cX11_way 27 = .ok (.ifCond .ne 6, 3) := by decide +kernel
theorem dX11_way_30 : decode cX11_way 30 = .ok (.ldc 152, 2) := by decide +kernel
theorem dX11_way_32 : decode cX11_way 32 = .ok (.ireturn, 1) := by decide +kernel
theorem dX11_way_33 : decode cX11_way 33 = .ok (.aload_n 0, 1) := by decide +kernel
theorem dX11_way_34 : decode cX11_way 34 = .ok (.iload_n 1, 1) := by decide +kernel
theorem dX11_way_35 : decode cX11_way 35 = .ok (.invokevirtual 175, 3) := by decide +kernel
theorem dX11_way_38 : decode cX11_way 38 = .ok (.aload_n 0, 1) := by decide +kernel
theorem dX11_way_39 : decode cX11_way 39 = .ok (.getfield 22, 3) := by decide +kernel
theorem dX11_way_42 : decode cX11_way 42 = .ok (.iload_n 2, 1) := by decide +kernel
theorem dX11_way_43 : decode cX11_way 43 = .ok (.iaload, 1) := by decide +kernel
theorem dX11_way_44 : decode cX11_way 44 = .ok (.ireturn, 1) := by decide +kernel
theorem dX11_most_0 : decode cX11_most 0 = .ok (.aload_n 0, 1) := by decide +kernel
theorem dX11_most_1 : decode cX11_most 1 = .ok (.getfield 9, 3) := by decide +kernel
theorem dX11_most_4 : decode cX11_most 4 = .ok (.bipush 7, 2) := by decide +kernel
theorem dX11_most_6 : decode cX11_most 6 = .ok (.iaload, 1) := by decide +kernel
theorem dX11_most_7 : decode cX11_most 7 = .ok (.ifCond .ne 6, 3) := by decide +kernel
theorem dX11_most_10 : decode cX11_most 10 = .ok (.ldc 152, 2) := by decide +kernel
theorem dX11_most_12 : decode cX11_most 12 = .ok (.ireturn, 1) := by decide +kernel
theorem dX11_most_13 : decode cX11_most 13 = .ok (.iconst 0, 1) := by decide +kernel
theorem dX11_most_14 : decode cX11_most 14 = .ok (.istore_n 1, 1) := by decide +kernel
theorem dX11_most_15 : decode cX11_most 15 = .ok (.iconst 1, 1) := by decide +kernel
theorem dX11_most_16 : decode cX11_most 16 = .ok (.istore_n 2, 1) := by decide +kernel
theorem dX11_most_17 : decode cX11_most 17 = .ok (.iload_n 2, 1) := by decide +kernel
theorem dX11_most_18 : decode cX11_most 18 = .ok (.aload_n 0, 1) := by decide +kernel
theorem dX11_most_19 : decode cX11_most 19 = .ok (.getfield 9, 3) := by decide +kernel
theorem dX11_most_22 : decode cX11_most 22 = .ok (.iconst 1, 1) := by decide +kernel
theorem dX11_most_23 : decode cX11_most 23 = .ok (.iaload, 1) := by decide +kernel
theorem dX11_most_24 : decode cX11_most 24 = .ok (.if_icmp .ge 28, 3) := by decide +kernel
theorem dX11_most_27 : decode cX11_most 27 = .ok (.aload_n 0, 1) := by decide +kernel
theorem dX11_most_28 : decode cX11_most 28 = .ok (.iload_n 2, 1) := by decide +kernel
theorem dX11_most_29 : decode cX11_most 29 = .ok (.invokevirtual 127, 3) := by decide +kernel
theorem dX11_most_32 : decode cX11_most 32 = .ok (.aload_n 0, 1) := by decide +kernel
theorem dX11_most_33 : decode cX11_most 33 = .ok (.iload_n 1, 1) := by decide +kernel
theorem dX11_most_34 : decode cX11_most 34 = .ok (.invokevirtual 127, 3) := by decide +kernel
theorem dX11_most_37 : decode cX11_most 37 = .ok (.if_icmp .le 7, 3) := by decide +kernel
theorem dX11_most_40 : decode cX11_most 40 = .ok (.iload_n 2, 1) := by decide +kernel
theorem dX11_most_41 : decode cX11_most 41 = .ok (.goto 4, 3) := by decide +kernel
theorem dX11_most_44 : decode cX11_most 44 = .ok (.iload_n 1, 1) := by decide +kernel
theorem dX11_most_45 : decode cX11_most 45 = .ok (.istore_n 1, 1) := by decide +kernel
theorem dX11_most_46 : decode cX11_most 46 = .ok (.iinc 2 1, 3) := by decide +kernel
theorem dX11_most_49 : decode cX11_most 49 = .ok (.goto (-32), 3) := by decide +kernel
theorem dX11_most_52 : decode cX11_most 52 = .ok (.iload_n 1, 1) := by decide +kernel
theorem dX11_most_53 : decode cX11_most 53 = .ok (.ireturn, 1) := by decide +kernel
theorem dX11_offBy_0 : decode cX11_offBy 0 = .ok (.aload_n 0, 1) := by decide +kernel
theorem dX11_offBy_1 : decode cX11_offBy 1 = .ok (.getfield 9, 3) := by decide +kernel
theorem dX11_offBy_4 : decode cX11_offBy 4 = .ok (.iconst 3, 1) := by decide +kernel
theorem dX11_offBy_5 : decode cX11_offBy 5 = .ok (.iload_n 2, 1) := by decide +kernel
theorem dX11_offBy_6 : decode cX11_offBy 6 = .ok (.iastore, 1) := by decide +kernel
theorem dX11_offBy_7 : decode cX11_offBy 7 = .ok (.lconst 0, 1) := by decide +kernel
theorem dX11_offBy_8 : decode cX11_offBy 8 = .ok (.lstore_n 3, 1) := by decide +kernel
theorem dX11_offBy_9 : decode cX11_offBy 9 = .ok (.iconst 0, 1) := by decide +kernel
theorem dX11_offBy_10 : decode cX11_offBy 10 = .ok (.istore 5, 2) := by decide +kernel
theorem dX11_offBy_12 : decode cX11_offBy 12 = .ok (.iload 5, 2) := by decide +kernel
theorem dX11_offBy_14 : decode cX11_offBy 14 = .ok (.aload_n 0, 1) := by decide +kernel
theorem dX11_offBy_15 : decode cX11_offBy 15 = .ok (.getfield 54, 3) := by decide +kernel
theorem dX11_offBy_18 : decode cX11_offBy 18 = .ok (.iload_n 1, 1) := by decide +kernel
theorem dX11_offBy_19 : decode cX11_offBy 19 = .ok (.iaload, 1) := by decide +kernel
theorem dX11_offBy_20 : decode cX11_offBy 20 = .ok (.if_icmp .ge 75, 3) := by decide +kernel
theorem dX11_offBy_23 : decode cX11_offBy 23 = .ok (.aload_n 0, 1) := by decide +kernel
theorem dX11_offBy_24 : decode cX11_offBy 24 = .ok (.getfield 57, 3) := by decide +kernel
theorem dX11_offBy_27 : decode cX11_offBy 27 = .ok (.bipush 24, 2) := by decide +kernel
theorem dX11_offBy_29 : decode cX11_offBy 29 = .ok (.iload_n 1, 1) := by decide +kernel
theorem dX11_offBy_30 : decode cX11_offBy 30 = .ok (.imul, 1) := by decide +kernel
theorem dX11_offBy_31 : decode cX11_offBy 31 = .ok (.iload 5, 2) := by decide +kernel
theorem dX11_offBy_33 : decode cX11_offBy 33 = .ok (.iadd, 1) := by decide +kernel
theorem dX11_offBy_34 : decode cX11_offBy 34 = .ok (.iaload, 1) := by decide +kernel
theorem dX11_offBy_35 : decode cX11_offBy 35 = .ok (.istore 6, 2) := by decide +kernel
theorem dX11_offBy_37 : decode cX11_offBy 37 = .ok (.iload 6, 2) := by decide +kernel
theorem dX11_offBy_39 : decode cX11_offBy 39 = .ok (.i2l, 1) := by decide +kernel
theorem dX11_offBy_40 : decode cX11_offBy 40 = .ok (.aload_n 0, 1) := by decide +kernel
theorem dX11_offBy_41 : decode cX11_offBy 41 = .ok (.invokevirtual 100, 3) := by decide +kernel
theorem dX11_offBy_44 : decode cX11_offBy 44 = .ok (.i2l, 1) := by decide +kernel
theorem dX11_offBy_45 : decode cX11_offBy 45 = .ok (.lsub, 1) := by decide +kernel
theorem dX11_offBy_46 : decode cX11_offBy 46 = .ok (.lstore 7, 2) := by decide +kernel
theorem dX11_offBy_48 : decode cX11_offBy 48 = .ok (.lload_n 3, 1) := by decide +kernel
theorem dX11_offBy_49 : decode cX11_offBy 49 = .ok (.iload 6, 2) := by decide +kernel
theorem dX11_offBy_51 : decode cX11_offBy 51 = .ok (.ldc 152, 2) := by decide +kernel
theorem dX11_offBy_53 : decode cX11_offBy 53 = .ok (.if_icmp .ne 7, 3) := by decide +kernel
theorem dX11_offBy_56 : decode cX11_offBy 56 = .ok (.lconst 0, 1) := by decide +kernel
theorem dX11_offBy_57 : decode cX11_offBy 57 = .ok (.goto 18, 3) := by decide +kernel
theorem dX11_offBy_60 : decode cX11_offBy 60 = .ok (.lload 7, 2) := by decide +kernel
theorem dX11_offBy_62 : decode cX11_offBy 62 = .ok (.lconst 0, 1) := by decide +kernel
theorem dX11_offBy_63 : decode cX11_offBy 63 = .ok (.lcmp, 1) := by decide +kernel
theorem dX11_offBy_64 : decode cX11_offBy 64 = .ok (.ifCond .ge 9, 3) := by decide +kernel
theorem dX11_offBy_67 : decode cX11_offBy 67 = .ok (.lload 7, 2) := by decide +kernel
theorem dX11_offBy_69 : decode cX11_offBy 69 = .ok (.lneg, 1) := by decide +kernel
theorem dX11_offBy_70 : decode cX11_offBy 70 = .ok (.goto 5, 3) := by decide +kernel
theorem dX11_offBy_73 : decode cX11_offBy 73 = .ok (.lload 7, 2) := by decide +kernel
theorem dX11_offBy_75 : decode cX11_offBy 75 = .ok (.ladd, 1) := by decide +kernel
theorem dX11_offBy_76 : decode cX11_offBy 76 = .ok (.lstore_n 3, 1) := by decide +kernel
theorem dX11_offBy_77 : decode cX11_offBy 77 = .ok (.aload_n 0, 1) := by decide +kernel
theorem dX11_offBy_78 : decode cX11_offBy 78 = .ok (.aload_n 0, 1) := by decide +kernel
theorem dX11_offBy_79 : decode cX11_offBy 79 = .ok (.getfield 9, 3) := by decide +kernel
theorem dX11_offBy_82 : decode cX11_offBy 82 = .ok (.iconst 5, 1) := by decide +kernel
theorem dX11_offBy_83 : decode cX11_offBy 83 = .ok (.iaload, 1) := by decide +kernel
theorem dX11_offBy_84 : decode cX11_offBy 84 = .ok (.invokevirtual 160, 3) := by decide +kernel
theorem dX11_offBy_87 : decode cX11_offBy 87 = .ok (.istore 9, 2) := by decide +kernel
theorem dX11_offBy_89 : decode cX11_offBy 89 = .ok (.iinc 5 1, 3) := by decide +kernel
theorem dX11_offBy_92 : decode cX11_offBy 92 = .ok (.goto (-80), 3) := by decide +kernel
theorem dX11_offBy_95 : decode cX11_offBy 95 = .ok (.aload_n 0, 1) := by decide +kernel
theorem dX11_offBy_96 : decode cX11_offBy 96 = .ok (.invokevirtual 172, 3) := by decide +kernel
theorem dX11_offBy_99 : decode cX11_offBy 99 = .ok (.lload_n 3, 1) := by decide +kernel
theorem dX11_offBy_100 : decode cX11_offBy 100 = .ok (.lreturn, 1) := by decide +kernel
theorem dX11_warmed_0 : decode cX11_warmed 0 = .ok (.iload_n 1, 1) := by decide +kernel
theorem dX11_warmed_1 : decode cX11_warmed 1 = .ok (.invokestatic 178, 3) := by decide +kernel
theorem dX11_warmed_4 : decode cX11_warmed 4 = .ok (.ifCond .eq 12, 3) := by decide +kernel
theorem dX11_warmed_7 : decode cX11_warmed 7 = .ok (.iload_n 2, 1) := by decide +kernel
theorem dX11_warmed_8 : decode cX11_warmed 8 = .ok (.iconst 0, 1) := by decide +kernel
theorem dX11_warmed_9 : decode cX11_warmed 9 = .ok (.iconst 1, 1) := by decide +kernel
theorem dX11_warmed_10 : decode cX11_warmed 10 = .ok (.invokestatic 78, 3) := by decide +kernel
theorem dX11_warmed_13 : decode cX11_warmed 13 = .ok (.ifCond .ne 6, 3) := by decide +kernel
theorem dX11_warmed_16 : decode cX11_warmed 16 = .ok (.ldc 90, 2) := by decide +kernel
theorem dX11_warmed_18 : decode cX11_warmed 18 = .ok (.ireturn, 1) := by decide +kernel
theorem dX11_warmed_19 : decode cX11_warmed 19 = .ok (.aload_n 0, 1) := by decide +kernel
theorem dX11_warmed_20 : decode cX11_warmed 20 = .ok (.getfield 51, 3) := by decide +kernel
theorem dX11_warmed_23 : decode cX11_warmed 23 = .ok (.iload_n 1, 1) := by decide +kernel
theorem dX11_warmed_24 : decode cX11_warmed 24 = .ok (.iaload, 1) := by decide +kernel
theorem dX11_warmed_25 : decode cX11_warmed 25 = .ok (.ifCond .ge 6, 3) := by decide +kernel
theorem dX11_warmed_28 : decode cX11_warmed 28 = .ok (.ldc 181, 2) := by decide +kernel
theorem dX11_warmed_30 : decode cX11_warmed 30 = .ok (.ireturn, 1) := by decide +kernel
theorem dX11_warmed_31 : decode cX11_warmed 31 = .ok (.aload_n 0, 1) := by decide +kernel
theorem dX11_warmed_32 : decode cX11_warmed 32 = .ok (.invokevirtual 166, 3) := by decide +kernel
theorem dX11_warmed_35 : decode cX11_warmed 35 = .ok (.iconst 0, 1) := by decide +kernel
theorem dX11_warmed_36 : decode cX11_warmed 36 = .ok (.istore_n 3, 1) := by decide +kernel
theorem dX11_warmed_37 : decode cX11_warmed 37 = .ok (.aload_n 0, 1) := by decide +kernel
theorem dX11_warmed_38 : decode cX11_warmed 38 = .ok (.iload_n 1, 1) := by decide +kernel
theorem dX11_warmed_39 : decode cX11_warmed 39 = .ok (.iconst 0, 1) := by decide +kernel
theorem dX11_warmed_40 : decode cX11_warmed 40 = .ok (.invokevirtual 182, 3) := by decide +kernel
theorem dX11_warmed_43 : decode cX11_warmed 43 = .ok (.lstore 4, 2) := by decide +kernel
theorem dX11_warmed_45 : decode cX11_warmed 45 = .ok (.iconst 1, 1) := by decide +kernel
theorem dX11_warmed_46 : decode cX11_warmed 46 = .ok (.istore 6, 2) := by decide +kernel
theorem dX11_warmed_48 : decode cX11_warmed 48 = .ok (.iload 6, 2) := by decide +kernel
theorem dX11_warmed_50 : decode cX11_warmed 50 = .ok (.bipush 20, 2) := by decide +kernel
theorem dX11_warmed_52 : decode cX11_warmed 52 = .ok (.if_icmp .gt 50, 3) := by decide +kernel
theorem dX11_warmed_55 : decode cX11_warmed 55 = .ok (.aload_n 0, 1) := by decide +kernel
theorem dX11_warmed_56 : decode cX11_warmed 56 = .ok (.iload_n 1, 1) := by decide +kernel
theorem dX11_warmed_57 : decode cX11_warmed 57 = .ok (.iload 6, 2) := by decide +kernel
theorem dX11_warmed_59 : decode cX11_warmed 59 = .ok (.invokevirtual 182, 3) := by decide +kernel
theorem dX11_warmed_62 : decode cX11_warmed 62 = .ok (.lstore 7, 2) := by decide +kernel
theorem dX11_warmed_64 : decode cX11_warmed 64 = .ok (.lload 7, 2) := by decide +kernel
theorem dX11_warmed_66 : decode cX11_warmed 66 = .ok (.lload 4, 2) := by decide +kernel
theorem dX11_warmed_68 : decode cX11_warmed 68 = .ok (.lcmp, 1) := by decide +kernel
theorem dX11_warmed_69 : decode cX11_warmed 69 = .ok (.ifCond .ge 8, 3) := by decide +kernel
theorem dX11_warmed_72 : decode cX11_warmed 72 = .ok (.iload 6, 2) := by decide +kernel
theorem dX11_warmed_74 : decode cX11_warmed 74 = .ok (.goto 4, 3) := by decide +kernel
theorem dX11_warmed_77 : decode cX11_warmed 77 = .ok (.iload_n 3, 1) := by decide +kernel
theorem dX11_warmed_78 : decode cX11_warmed 78 = .ok (.istore_n 3, 1) := by decide +kernel
theorem dX11_warmed_79 : decode cX11_warmed 79 = .ok (.lload 7, 2) := by decide +kernel
theorem dX11_warmed_81 : decode cX11_warmed 81 = .ok (.lload 4, 2) := by decide +kernel
theorem dX11_warmed_83 : decode cX11_warmed 83 = .ok (.lcmp, 1) := by decide +kernel
theorem dX11_warmed_84 : decode cX11_warmed 84 = .ok (.ifCond .ge 8, 3) := by decide +kernel
theorem dX11_warmed_87 : decode cX11_warmed 87 = .ok (.lload 7, 2) := by decide +kernel
theorem dX11_warmed_89 : decode cX11_warmed 89 = .ok (.goto 5, 3) := by decide +kernel
theorem dX11_warmed_92 : decode cX11_warmed 92 = .ok (.lload 4, 2) := by decide +kernel
theorem dX11_warmed_94 : decode cX11_warmed 94 = .ok (.lstore 4, 2) := by decide +kernel
theorem dX11_warmed_96 : decode cX11_warmed 96 = .ok (.iinc 6 1, 3) := by decide +kernel
theorem dX11_warmed_99 : decode cX11_warmed 99 = .ok (.goto (-51), 3) := by decide +kernel
theorem dX11_warmed_102 : decode cX11_warmed 102 = .ok (.iload_n 2, 1) := by decide +kernel
theorem dX11_warmed_103 : decode cX11_warmed 103 = .ok (.ifCond .ne 7, 3) := by decide +kernel
theorem dX11_warmed_106 : decode cX11_warmed 106 = .ok (.iload_n 3, 1) := by decide +kernel
theorem dX11_warmed_107 : decode cX11_warmed 107 = .ok (.goto 6, 3) := by decide +kernel
theorem dX11_warmed_110 : decode cX11_warmed 110 = .ok (.lload 4, 2) := by decide +kernel
theorem dX11_warmed_112 : decode cX11_warmed 112 = .ok (.l2i, 1) := by decide +kernel
theorem dX11_warmed_113 : decode cX11_warmed 113 = .ok (.ireturn, 1) := by decide +kernel
theorem dX11_fine_0 : decode cX11_fine 0 = .ok (.aload_n 0, 1) := by decide +kernel
theorem dX11_fine_1 : decode cX11_fine 1 = .ok (.iload_n 1, 1) := by decide +kernel
theorem dX11_fine_2 : decode cX11_fine 2 = .ok (.invokevirtual 114, 3) := by decide +kernel
theorem dX11_fine_5 : decode cX11_fine 5 = .ok (.ifCond .ne 6, 3) := by decide +kernel
theorem dX11_fine_8 : decode cX11_fine 8 = .ok (.ldc 90, 2) := by decide +kernel
theorem dX11_fine_10 : decode cX11_fine 10 = .ok (.ireturn, 1) := by decide +kernel
theorem dX11_fine_11 : decode cX11_fine 11 = .ok (.aload_n 0, 1) := by decide +kernel
theorem dX11_fine_12 : decode cX11_fine 12 = .ok (.iconst 2, 1) := by decide +kernel
theorem dX11_fine_13 : decode cX11_fine 13 = .ok (.invokevirtual 96, 3) := by decide +kernel
theorem dX11_fine_16 : decode cX11_fine 16 = .ok (.istore_n 2, 1) := by decide +kernel
theorem dX11_fine_17 : decode cX11_fine 17 = .ok (.aload_n 0, 1) := by decide +kernel
theorem dX11_fine_18 : decode cX11_fine 18 = .ok (.getfield 48, 3) := by decide +kernel
theorem dX11_fine_21 : decode cX11_fine 21 = .ok (.iconst 0, 1) := by decide +kernel
theorem dX11_fine_22 : decode cX11_fine 22 = .ok (.aload_n 0, 1) := by decide +kernel
theorem dX11_fine_23 : decode cX11_fine 23 = .ok (.invokevirtual 100, 3) := by decide +kernel
theorem dX11_fine_26 : decode cX11_fine 26 = .ok (.iastore, 1) := by decide +kernel
theorem dX11_fine_27 : decode cX11_fine 27 = .ok (.aload_n 0, 1) := by decide +kernel
theorem dX11_fine_28 : decode cX11_fine 28 = .ok (.getfield 48, 3) := by decide +kernel
theorem dX11_fine_31 : decode cX11_fine 31 = .ok (.iconst 1, 1) := by decide +kernel
theorem dX11_fine_32 : decode cX11_fine 32 = .ok (.aload_n 0, 1) := by decide +kernel
theorem dX11_fine_33 : decode cX11_fine 33 = .ok (.iload_n 1, 1) := by decide +kernel
theorem dX11_fine_34 : decode cX11_fine 34 = .ok (.iconst 3, 1) := by decide +kernel
theorem dX11_fine_35 : decode cX11_fine 35 = .ok (.invokevirtual 110, 3) := by decide +kernel
theorem dX11_fine_38 : decode cX11_fine 38 = .ok (.iastore, 1) := by decide +kernel
theorem dX11_fine_39 : decode cX11_fine 39 = .ok (.iload_n 2, 1) := by decide +kernel
theorem dX11_fine_40 : decode cX11_fine 40 = .ok (.ifCond .ge 12, 3) := by decide +kernel
theorem dX11_fine_43 : decode cX11_fine 43 = .ok (.aload_n 0, 1) := by decide +kernel
theorem dX11_fine_44 : decode cX11_fine 44 = .ok (.iload_n 1, 1) := by decide +kernel
theorem dX11_fine_45 : decode cX11_fine 45 = .ok (.iconst 3, 1) := by decide +kernel
theorem dX11_fine_46 : decode cX11_fine 46 = .ok (.invokevirtual 110, 3) := by decide +kernel
theorem dX11_fine_49 : decode cX11_fine 49 = .ok (.goto 8, 3) := by decide +kernel
theorem dX11_fine_52 : decode cX11_fine 52 = .ok (.aload_n 0, 1) := by decide +kernel
theorem dX11_fine_53 : decode cX11_fine 53 = .ok (.iload_n 2, 1) := by decide +kernel
theorem dX11_fine_54 : decode cX11_fine 54 = .ok (.invokevirtual 104, 3) := by decide +kernel
theorem dX11_fine_57 : decode cX11_fine 57 = .ok (.ireturn, 1) := by decide +kernel
theorem dX11_feed_0 : decode cX11_feed 0 = .ok (.aload_n 0, 1) := by decide +kernel
theorem dX11_feed_1 : decode cX11_feed 1 = .ok (.getfield 186, 3) := by decide +kernel
theorem dX11_feed_4 : decode cX11_feed 4 = .ok (.bipush 12, 2) := by decide +kernel
theorem dX11_feed_6 : decode cX11_feed 6 = .ok (.iadd, 1) := by decide +kernel
theorem dX11_feed_7 : decode cX11_feed 7 = .ok (.bipush 96, 2) := by decide +kernel
theorem dX11_feed_9 : decode cX11_feed 9 = .ok (.if_icmp .le 6, 3) := by decide +kernel
theorem dX11_feed_12 : decode cX11_feed 12 = .ok (.ldc 91, 2) := by decide +kernel
theorem dX11_feed_14 : decode cX11_feed 14 = .ok (.ireturn, 1) := by decide +kernel
theorem dX11_feed_15 : decode cX11_feed 15 = .ok (.iconst 0, 1) := by decide +kernel
theorem dX11_feed_16 : decode cX11_feed 16 = .ok (.istore 4, 2) := by decide +kernel
theorem dX11_feed_18 : decode cX11_feed 18 = .ok (.iload 4, 2) := by decide +kernel
theorem dX11_feed_20 : decode cX11_feed 20 = .ok (.bipush 12, 2) := by decide +kernel
theorem dX11_feed_22 : decode cX11_feed 22 = .ok (.if_icmp .ge 62, 3) := by decide +kernel
theorem dX11_feed_25 : decode cX11_feed 25 = .ok (.iload 4, 2) := by decide +kernel
theorem dX11_feed_27 : decode cX11_feed 27 = .ok (.iconst 4, 1) := by decide +kernel
theorem dX11_feed_28 : decode cX11_feed 28 = .ok (.if_icmp .ge 7, 3) := by decide +kernel
theorem dX11_feed_31 : decode cX11_feed 31 = .ok (.iload_n 1, 1) := by decide +kernel
theorem dX11_feed_32 : decode cX11_feed 32 = .ok (.goto 15, 3) := by decide +kernel
theorem dX11_feed_35 : decode cX11_feed 35 = .ok (.iload 4, 2) := by decide +kernel
theorem dX11_feed_37 : decode cX11_feed 37 = .ok (.bipush 8, 2) := by decide +kernel
theorem dX11_feed_39 : decode cX11_feed 39 = .ok (.if_icmp .ge 7, 3) := by decide +kernel
theorem dX11_feed_42 : decode cX11_feed 42 = .ok (.iload_n 2, 1) := by decide +kernel
theorem dX11_feed_43 : decode cX11_feed 43 = .ok (.goto 4, 3) := by decide +kernel
theorem dX11_feed_46 : decode cX11_feed 46 = .ok (.iload_n 3, 1) := by decide +kernel
theorem dX11_feed_47 : decode cX11_feed 47 = .ok (.istore 5, 2) := by decide +kernel
theorem dX11_feed_49 : decode cX11_feed 49 = .ok (.aload_n 0, 1) := by decide +kernel
theorem dX11_feed_50 : decode cX11_feed 50 = .ok (.getfield 25, 3) := by decide +kernel
theorem dX11_feed_53 : decode cX11_feed 53 = .ok (.aload_n 0, 1) := by decide +kernel
theorem dX11_feed_54 : decode cX11_feed 54 = .ok (.getfield 186, 3) := by decide +kernel
theorem dX11_feed_57 : decode cX11_feed 57 = .ok (.iload 4, 2) := by decide +kernel
theorem dX11_feed_59 : decode cX11_feed 59 = .ok (.iadd, 1) := by decide +kernel
theorem dX11_feed_60 : decode cX11_feed 60 = .ok (.iload 5, 2) := by decide +kernel
theorem dX11_feed_62 : decode cX11_feed 62 = .ok (.bipush 24, 2) := by decide +kernel
theorem dX11_feed_64 : decode cX11_feed 64 = .ok (.bipush 8, 2) := by decide +kernel
theorem dX11_feed_66 : decode cX11_feed 66 = .ok (.iload 4, 2) := by decide +kernel
theorem dX11_feed_68 : decode cX11_feed 68 = .ok (.iconst 4, 1) := by decide +kernel
theorem dX11_feed_69 : decode cX11_feed 69 = .ok (.irem, 1) := by decide +kernel
theorem dX11_feed_70 : decode cX11_feed 70 = .ok (.imul, 1) := by decide +kernel
theorem dX11_feed_71 : decode cX11_feed 71 = .ok (.isub, 1) := by decide +kernel
theorem dX11_feed_72 : decode cX11_feed 72 = .ok (.ishr, 1) := by decide +kernel
theorem dX11_feed_73 : decode cX11_feed 73 = .ok (.sipush 255, 3) := by decide +kernel
theorem dX11_feed_76 : decode cX11_feed 76 = .ok (.iand, 1) := by decide +kernel
theorem dX11_feed_77 : decode cX11_feed 77 = .ok (.iastore, 1) := by decide +kernel
theorem dX11_feed_78 : decode cX11_feed 78 = .ok (.iinc 4 1, 3) := by decide +kernel
theorem dX11_feed_81 : decode cX11_feed 81 = .ok (.goto (-63), 3) := by decide +kernel
theorem dX11_feed_84 : decode cX11_feed 84 = .ok (.aload_n 0, 1) := by decide +kernel
theorem dX11_feed_85 : decode cX11_feed 85 = .ok (.dup, 1) := by decide +kernel
theorem dX11_feed_86 : decode cX11_feed 86 = .ok (.getfield 186, 3) := by decide +kernel
theorem dX11_feed_89 : decode cX11_feed 89 = .ok (.bipush 12, 2) := by decide +kernel
theorem dX11_feed_91 : decode cX11_feed 91 = .ok (.iadd, 1) := by decide +kernel
theorem dX11_feed_92 : decode cX11_feed 92 = .ok (.putfield 186, 3) := by decide +kernel
theorem dX11_feed_95 : decode cX11_feed 95 = .ok (.aload_n 0, 1) := by decide +kernel
theorem dX11_feed_96 : decode cX11_feed 96 = .ok (.getfield 186, 3) := by decide +kernel
theorem dX11_feed_99 : decode cX11_feed 99 = .ok (.ireturn, 1) := by decide +kernel
theorem dX11_trim_0 : decode cX11_trim 0 = .ok (.iload_n 1, 1) := by decide +kernel
theorem dX11_trim_1 : decode cX11_trim 1 = .ok (.iconst 0, 1) := by decide +kernel
theorem dX11_trim_2 : decode cX11_trim 2 = .ok (.aload_n 0, 1) := by decide +kernel
theorem dX11_trim_3 : decode cX11_trim 3 = .ok (.getfield 186, 3) := by decide +kernel
theorem dX11_trim_6 : decode cX11_trim 6 = .ok (.invokestatic 78, 3) := by decide +kernel
theorem dX11_trim_9 : decode cX11_trim 9 = .ok (.ifCond .ne 6, 3) := by decide +kernel
theorem dX11_trim_12 : decode cX11_trim 12 = .ok (.ldc 90, 2) := by decide +kernel
theorem dX11_trim_14 : decode cX11_trim 14 = .ok (.ireturn, 1) := by decide +kernel
theorem dX11_trim_15 : decode cX11_trim 15 = .ok (.aload_n 0, 1) := by decide +kernel
theorem dX11_trim_16 : decode cX11_trim 16 = .ok (.iload_n 1, 1) := by decide +kernel
theorem dX11_trim_17 : decode cX11_trim 17 = .ok (.putfield 186, 3) := by decide +kernel
theorem dX11_trim_20 : decode cX11_trim 20 = .ok (.iload_n 1, 1) := by decide +kernel
theorem dX11_trim_21 : decode cX11_trim 21 = .ok (.ireturn, 1) := by decide +kernel
theorem dX11_isLetter_0 : decode cX11_isLetter 0 = .ok (.iload_n 1, 1) := by decide +kernel
theorem dX11_isLetter_1 : decode cX11_isLetter 1 = .ok (.aload_n 0, 1) := by decide +kernel
theorem dX11_isLetter_2 : decode cX11_isLetter 2 = .ok (.getfield 186, 3) := by decide +kernel
theorem dX11_isLetter_5 : decode cX11_isLetter 5 = .ok (.if_icmp .ge 29, 3) := by decide +kernel
theorem dX11_isLetter_8 : decode cX11_isLetter 8 = .ok (.aload_n 0, 1) := by decide +kernel
theorem dX11_isLetter_9 : decode cX11_isLetter 9 = .ok (.getfield 25, 3) := by decide +kernel
theorem dX11_isLetter_12 : decode cX11_isLetter 12 = .ok (.iload_n 1, 1) := by decide +kernel
theorem dX11_isLetter_13 : decode cX11_isLetter 13 = .ok (.iaload, 1) := by decide +kernel
theorem dX11_isLetter_14 : decode cX11_isLetter 14 = .ok (.bipush 97, 2) := by decide +kernel
theorem dX11_isLetter_16 : decode cX11_isLetter 16 = .ok (.if_icmp .lt 18, 3) := by decide +kernel
theorem dX11_isLetter_19 : decode cX11_isLetter 19 = .ok (.aload_n 0, 1) := by decide +kernel
theorem dX11_isLetter_20 : decode cX11_isLetter 20 = .ok (.getfield 25, 3) := by decide +kernel
theorem dX11_isLetter_23 : decode cX11_isLetter 23 = .ok (.iload_n 1, 1) := by decide +kernel
theorem dX11_isLetter_24 : decode cX11_isLetter 24 = .ok (.iaload, 1) := by decide +kernel
theorem dX11_isLetter_25 : decode cX11_isLetter 25 = .ok (.bipush 122, 2) := by decide +kernel
theorem dX11_isLetter_27 : decode cX11_isLetter 27 = .ok (.if_icmp .gt 7, 3) := by decide +kernel
theorem dX11_isLetter_30 : decode cX11_isLetter 30 = .ok (.iconst 1, 1) := by decide +kernel
theorem dX11_isLetter_31 : decode cX11_isLetter 31 = .ok (.goto 4, 3) := by decide +kernel
theorem dX11_isLetter_34 : decode cX11_isLetter 34 = .ok (.iconst 0, 1) := by decide +kernel
theorem dX11_isLetter_35 : decode cX11_isLetter 35 = .ok (.ireturn, 1) := by decide +kernel
theorem dX11_isFigure_0 : decode cX11_isFigure 0 = .ok (.iload_n 1, 1) := by decide +kernel
theorem dX11_isFigure_1 : decode cX11_isFigure 1 = .ok (.aload_n 0, 1) := by decide +kernel
theorem dX11_isFigure_2 : decode cX11_isFigure 2 = .ok (.getfield 186, 3) := by decide +kernel
theorem dX11_isFigure_5 : decode cX11_isFigure 5 = .ok (.if_icmp .ge 29, 3) := by decide +kernel
theorem dX11_isFigure_8 : decode cX11_isFigure 8 = .ok (.aload_n 0, 1) := by decide +kernel
theorem dX11_isFigure_9 : decode cX11_isFigure 9 = .ok (.getfield 25, 3) := by decide +kernel
theorem dX11_isFigure_12 : decode cX11_isFigure 12 = .ok (.iload_n 1, 1) := by decide +kernel
theorem dX11_isFigure_13 : decode cX11_isFigure 13 = .ok (.iaload, 1) := by decide +kernel
theorem dX11_isFigure_14 : decode cX11_isFigure 14 = .ok (.bipush 48, 2) := by decide +kernel
theorem dX11_isFigure_16 : decode cX11_isFigure 16 = .ok (.if_icmp .lt 18, 3) := by decide +kernel
theorem dX11_isFigure_19 : decode cX11_isFigure 19 = .ok (.aload_n 0, 1) := by decide +kernel
theorem dX11_isFigure_20 : decode cX11_isFigure 20 = .ok (.getfield 25, 3) := by decide +kernel
theorem dX11_isFigure_23 : decode cX11_isFigure 23 = .ok (.iload_n 1, 1) := by decide +kernel
theorem dX11_isFigure_24 : decode cX11_isFigure 24 = .ok (.iaload, 1) := by decide +kernel
theorem dX11_isFigure_25 : decode cX11_isFigure 25 = .ok (.bipush 57, 2) := by decide +kernel
theorem dX11_isFigure_27 : decode cX11_isFigure 27 = .ok (.if_icmp .gt 7, 3) := by decide +kernel
theorem dX11_isFigure_30 : decode cX11_isFigure 30 = .ok (.iconst 1, 1) := by decide +kernel
theorem dX11_isFigure_31 : decode cX11_isFigure 31 = .ok (.goto 4, 3) := by decide +kernel
theorem dX11_isFigure_34 : decode cX11_isFigure 34 = .ok (.iconst 0, 1) := by decide +kernel
theorem dX11_isFigure_35 : decode cX11_isFigure 35 = .ok (.ireturn, 1) := by decide +kernel
theorem dX11_go_0 : decode cX11_go 0 = .ok (.aload_n 0, 1) := by decide +kernel
theorem dX11_go_1 : decode cX11_go 1 = .ok (.getfield 190, 3) := by decide +kernel
theorem dX11_go_4 : decode cX11_go 4 = .ok (.aload_n 0, 1) := by decide +kernel
theorem dX11_go_5 : decode cX11_go 5 = .ok (.getfield 186, 3) := by decide +kernel
theorem dX11_go_8 : decode cX11_go 8 = .ok (.if_icmp .ge 30, 3) := by decide +kernel
theorem dX11_go_11 : decode cX11_go 11 = .ok (.aload_n 0, 1) := by decide +kernel
theorem dX11_go_12 : decode cX11_go 12 = .ok (.getfield 25, 3) := by decide +kernel
theorem dX11_go_15 : decode cX11_go 15 = .ok (.aload_n 0, 1) := by decide +kernel
theorem dX11_go_16 : decode cX11_go 16 = .ok (.getfield 190, 3) := by decide +kernel
theorem dX11_go_19 : decode cX11_go 19 = .ok (.iaload, 1) := by decide +kernel
theorem dX11_go_20 : decode cX11_go 20 = .ok (.bipush 32, 2) := by decide +kernel
theorem dX11_go_22 : decode cX11_go 22 = .ok (.if_icmp .ne 16, 3) := by decide +kernel
theorem dX11_go_25 : decode cX11_go 25 = .ok (.aload_n 0, 1) := by decide +kernel
theorem dX11_go_26 : decode cX11_go 26 = .ok (.dup, 1) := by decide +kernel
theorem dX11_go_27 : decode cX11_go 27 = .ok (.getfield 190, 3) := by decide +kernel
theorem dX11_go_30 : decode cX11_go 30 = .ok (.iconst 1, 1) := by decide +kernel
theorem dX11_go_31 : decode cX11_go 31 = .ok (.iadd, 1) := by decide +kernel
theorem dX11_go_32 : decode cX11_go 32 = .ok (.putfield 190, 3) := by decide +kernel
theorem dX11_go_35 : decode cX11_go 35 = .ok (.goto (-35), 3) := by decide +kernel
theorem dX11_go_38 : decode cX11_go 38 = .ok (.aload_n 0, 1) := by decide +kernel
theorem dX11_go_39 : decode cX11_go 39 = .ok (.aload_n 0, 1) := by decide +kernel
theorem dX11_go_40 : decode cX11_go 40 = .ok (.getfield 190, 3) := by decide +kernel
theorem dX11_go_43 : decode cX11_go 43 = .ok (.putfield 193, 3) := by decide +kernel
theorem dX11_go_46 : decode cX11_go 46 = .ok (.aload_n 0, 1) := by decide +kernel
theorem dX11_go_47 : decode cX11_go 47 = .ok (.getfield 193, 3) := by decide +kernel
theorem dX11_go_50 : decode cX11_go 50 = .ok (.aload_n 0, 1) := by decide +kernel
theorem dX11_go_51 : decode cX11_go 51 = .ok (.getfield 196, 3) := by decide +kernel
theorem dX11_go_54 : decode cX11_go 54 = .ok (.if_icmp .ne 7, 3) := by decide +kernel
theorem dX11_go_57 : decode cX11_go 57 = .ok (.iconst 1, 1) := by decide +kernel
theorem dX11_go_58 : decode cX11_go 58 = .ok (.goto 4, 3) := by decide +kernel
theorem dX11_go_61 : decode cX11_go 61 = .ok (.iconst 0, 1) := by decide +kernel
theorem dX11_go_62 : decode cX11_go 62 = .ok (.istore_n 1, 1) := by decide +kernel
theorem dX11_go_63 : decode cX11_go 63 = .ok (.aload_n 0, 1) := by decide +kernel
theorem dX11_go_64 : decode cX11_go 64 = .ok (.getfield 193, 3) := by decide +kernel
theorem dX11_go_67 : decode cX11_go 67 = .ok (.aload_n 0, 1) := by decide +kernel
theorem dX11_go_68 : decode cX11_go 68 = .ok (.getfield 186, 3) := by decide +kernel
theorem dX11_go_71 : decode cX11_go 71 = .ok (.if_icmp .ne 11, 3) := by decide +kernel
theorem dX11_go_74 : decode cX11_go 74 = .ok (.aload_n 0, 1) := by decide +kernel
theorem dX11_go_75 : decode cX11_go 75 = .ok (.iconst 0, 1) := by decide +kernel
theorem dX11_go_76 : decode cX11_go 76 = .ok (.putfield 199, 3) := by decide +kernel
theorem dX11_go_79 : decode cX11_go 79 = .ok (.goto 224, 3) := by decide +kernel
theorem dX11_go_82 : decode cX11_go 82 = .ok (.aload_n 0, 1) := by decide +kernel
theorem dX11_go_83 : decode cX11_go 83 = .ok (.aload_n 0, 1) := by decide +kernel
theorem dX11_go_84 : decode cX11_go 84 = .ok (.getfield 193, 3) := by decide +kernel
theorem dX11_go_87 : decode cX11_go 87 = .ok (.invokevirtual 202, 3) := by decide +kernel
theorem dX11_go_90 : decode cX11_go 90 = .ok (.ifCond .eq 64, 3) := by decide +kernel
theorem dX11_go_93 : decode cX11_go 93 = .ok (.aload_n 0, 1) := by decide +kernel
theorem dX11_go_94 : decode cX11_go 94 = .ok (.aload_n 0, 1) := by decide +kernel
theorem dX11_go_95 : decode cX11_go 95 = .ok (.getfield 190, 3) := by decide +kernel
theorem dX11_go_98 : decode cX11_go 98 = .ok (.invokevirtual 202, 3) := by decide +kernel
theorem dX11_go_101 : decode cX11_go 101 = .ok (.ifCond .eq 16, 3) := by decide +kernel
theorem dX11_go_104 : decode cX11_go 104 = .ok (.aload_n 0, 1) := by decide +kernel
theorem dX11_go_105 : decode cX11_go 105 = .ok (.dup, 1) := by decide +kernel
theorem dX11_go_106 : decode cX11_go 106 = .ok (.getfield 190, 3) := by decide +kernel
theorem dX11_go_109 : decode cX11_go 109 = .ok (.iconst 1, 1) := by decide +kernel
theorem dX11_go_110 : decode cX11_go 110 = .ok (.iadd, 1) := by decide +kernel
theorem dX11_go_111 : decode cX11_go 111 = .ok (.putfield 190, 3) := by decide +kernel
theorem dX11_go_114 : decode cX11_go 114 = .ok (.goto (-21), 3) := by decide +kernel
theorem dX11_go_117 : decode cX11_go 117 = .ok (.aload_n 0, 1) := by decide +kernel
theorem dX11_go_118 : decode cX11_go 118 = .ok (.iload_n 1, 1) := by decide +kernel
theorem dX11_go_119 : decode cX11_go 119 = .ok (.ifCond .eq 7, 3) := by decide +kernel
theorem dX11_go_122 : decode cX11_go 122 = .ok (.iconst 4, 1) := by decide +kernel
theorem dX11_go_123 : decode cX11_go 123 = .ok (.goto 4, 3) := by decide +kernel
theorem dX11_go_126 : decode cX11_go 126 = .ok (.iconst 1, 1) := by decide +kernel
theorem dX11_go_127 : decode cX11_go 127 = .ok (.putfield 199, 3) := by decide +kernel
theorem dX11_go_130 : decode cX11_go 130 = .ok (.aload_n 0, 1) := by decide +kernel
theorem dX11_go_131 : decode cX11_go 131 = .ok (.aload_n 0, 1) := by decide +kernel
theorem dX11_go_132 : decode cX11_go 132 = .ok (.getfield 25, 3) := by decide +kernel
theorem dX11_go_135 : decode cX11_go 135 = .ok (.aload_n 0, 1) := by decide +kernel
theorem dX11_go_136 : decode cX11_go 136 = .ok (.getfield 193, 3) := by decide +kernel
theorem dX11_go_139 : decode cX11_go 139 = .ok (.iaload, 1) := by decide +kernel
theorem dX11_go_140 : decode cX11_go 140 = .ok (.putfield 205, 3) := by decide +kernel
theorem dX11_go_143 : decode cX11_go 143 = .ok (.aload_n 0, 1) := by decide +kernel
theorem dX11_go_144 : decode cX11_go 144 = .ok (.aload_n 0, 1) := by decide +kernel
theorem dX11_go_145 : decode cX11_go 145 = .ok (.getfield 190, 3) := by decide +kernel
theorem dX11_go_148 : decode cX11_go 148 = .ok (.putfield 196, 3) := by decide +kernel
theorem dX11_go_151 : decode cX11_go 151 = .ok (.goto 152, 3) := by decide +kernel
theorem dX11_go_154 : decode cX11_go 154 = .ok (.aload_n 0, 1) := by decide +kernel
theorem dX11_go_155 : decode cX11_go 155 = .ok (.aload_n 0, 1) := by decide +kernel
theorem dX11_go_156 : decode cX11_go 156 = .ok (.getfield 193, 3) := by decide +kernel
theorem dX11_go_159 : decode cX11_go 159 = .ok (.invokevirtual 208, 3) := by decide +kernel
theorem dX11_go_162 : decode cX11_go 162 = .ok (.ifCond .eq 113, 3) := by decide +kernel
theorem dX11_go_165 : decode cX11_go 165 = .ok (.aload_n 0, 1) := by decide +kernel
theorem dX11_go_166 : decode cX11_go 166 = .ok (.iconst 0, 1) := by decide +kernel
theorem dX11_go_167 : decode cX11_go 167 = .ok (.putfield 205, 3) := by decide +kernel
theorem dX11_go_170 : decode cX11_go 170 = .ok (.aload_n 0, 1) := by decide +kernel
theorem dX11_go_171 : decode cX11_go 171 = .ok (.aload_n 0, 1) := by decide +kernel
theorem dX11_go_172 : decode cX11_go 172 = .ok (.getfield 190, 3) := by decide +kernel
theorem dX11_go_175 : decode cX11_go 175 = .ok (.invokevirtual 208, 3) := by decide +kernel
theorem dX11_go_178 : decode cX11_go 178 = .ok (.ifCond .eq 60, 3) := by decide +kernel
theorem dX11_go_181 : decode cX11_go 181 = .ok (.aload_n 0, 1) := by decide +kernel
theorem dX11_go_182 : decode cX11_go 182 = .ok (.aload_n 0, 1) := by decide +kernel
theorem dX11_go_183 : decode cX11_go 183 = .ok (.getfield 190, 3) := by decide +kernel
theorem dX11_go_186 : decode cX11_go 186 = .ok (.aload_n 0, 1) := by decide +kernel
theorem dX11_go_187 : decode cX11_go 187 = .ok (.getfield 193, 3) := by decide +kernel
theorem dX11_go_190 : decode cX11_go 190 = .ok (.isub, 1) := by decide +kernel
theorem dX11_go_191 : decode cX11_go 191 = .ok (.iconst 4, 1) := by decide +kernel
theorem dX11_go_192 : decode cX11_go 192 = .ok (.if_icmp .ge 26, 3) := by decide +kernel
theorem dX11_go_195 : decode cX11_go 195 = .ok (.bipush 10, 2) := by decide +kernel
theorem dX11_go_197 : decode cX11_go 197 = .ok (.aload_n 0, 1) := by decide +kernel
theorem dX11_go_198 : decode cX11_go 198 = .ok (.getfield 205, 3) := by decide +kernel
theorem dX11_go_201 : decode cX11_go 201 = .ok (.imul, 1) := by decide +kernel
theorem dX11_go_202 : decode cX11_go 202 = .ok (.aload_n 0, 1) := by decide +kernel
theorem dX11_go_203 : decode cX11_go 203 = .ok (.getfield 25, 3) := by decide +kernel
theorem dX11_go_206 : decode cX11_go 206 = .ok (.aload_n 0, 1) := by decide +kernel
theorem dX11_go_207 : decode cX11_go 207 = .ok (.getfield 190, 3) := by decide +kernel
theorem dX11_go_210 : decode cX11_go 210 = .ok (.iaload, 1) := by decide +kernel
theorem dX11_go_211 : decode cX11_go 211 = .ok (.iadd, 1) := by decide +kernel
theorem dX11_go_212 : decode cX11_go 212 = .ok (.bipush 48, 2) := by decide +kernel
theorem dX11_go_214 : decode cX11_go 214 = .ok (.isub, 1) := by decide +kernel
theorem dX11_go_215 : decode cX11_go 215 = .ok (.goto 7, 3) := by decide +kernel
theorem dX11_go_218 : decode cX11_go 218 = .ok (.aload_n 0, 1) := by decide +kernel
theorem dX11_go_219 : decode cX11_go 219 = .ok (.getfield 205, 3) := by decide +kernel
theorem dX11_go_222 : decode cX11_go 222 = .ok (.putfield 205, 3) := by decide +kernel
theorem dX11_go_225 : decode cX11_go 225 = .ok (.aload_n 0, 1) := by decide +kernel
theorem dX11_go_226 : decode cX11_go 226 = .ok (.dup, 1) := by decide +kernel
theorem dX11_go_227 : decode cX11_go 227 = .ok (.getfield 190, 3) := by decide +kernel
theorem dX11_go_230 : decode cX11_go 230 = .ok (.iconst 1, 1) := by decide +kernel
theorem dX11_go_231 : decode cX11_go 231 = .ok (.iadd, 1) := by decide +kernel
theorem dX11_go_232 : decode cX11_go 232 = .ok (.putfield 190, 3) := by decide +kernel
theorem dX11_go_235 : decode cX11_go 235 = .ok (.goto (-65), 3) := by decide +kernel
theorem dX11_go_238 : decode cX11_go 238 = .ok (.aload_n 0, 1) := by decide +kernel
theorem dX11_go_239 : decode cX11_go 239 = .ok (.iload_n 1, 1) := by decide +kernel
theorem dX11_go_240 : decode cX11_go 240 = .ok (.ifCond .ne 16, 3) := by decide +kernel
theorem dX11_go_243 : decode cX11_go 243 = .ok (.aload_n 0, 1) := by decide +kernel
theorem dX11_go_244 : decode cX11_go 244 = .ok (.getfield 190, 3) := by decide +kernel
theorem dX11_go_247 : decode cX11_go 247 = .ok (.aload_n 0, 1) := by decide +kernel
theorem dX11_go_248 : decode cX11_go 248 = .ok (.getfield 193, 3) := by decide +kernel
theorem dX11_go_251 : decode cX11_go 251 = .ok (.isub, 1) := by decide +kernel
theorem dX11_go_252 : decode cX11_go 252 = .ok (.iconst 4, 1) := by decide +kernel
theorem dX11_go_253 : decode cX11_go 253 = .ok (.if_icmp .le 7, 3) := by decide +kernel
theorem dX11_go_256 : decode cX11_go 256 = .ok (.iconst 4, 1) := by decide +kernel
theorem dX11_go_257 : decode cX11_go 257 = .ok (.goto 4, 3) := by decide +kernel
theorem dX11_go_260 : decode cX11_go 260 = .ok (.iconst 2, 1) := by decide +kernel
theorem dX11_go_261 : decode cX11_go 261 = .ok (.putfield 199, 3) := by decide +kernel
theorem dX11_go_264 : decode cX11_go 264 = .ok (.aload_n 0, 1) := by decide +kernel
theorem dX11_go_265 : decode cX11_go 265 = .ok (.aload_n 0, 1) := by decide +kernel
theorem dX11_go_266 : decode cX11_go 266 = .ok (.getfield 190, 3) := by decide +kernel
theorem dX11_go_269 : decode cX11_go 269 = .ok (.putfield 196, 3) := by decide +kernel
theorem dX11_go_272 : decode cX11_go 272 = .ok (.goto 31, 3) := by decide +kernel
theorem dX11_go_275 : decode cX11_go 275 = .ok (.aload_n 0, 1) := by decide +kernel
theorem dX11_go_276 : decode cX11_go 276 = .ok (.iconst 3, 1) := by decide +kernel
theorem dX11_go_277 : decode cX11_go 277 = .ok (.putfield 199, 3) := by decide +kernel
theorem dX11_go_280 : decode cX11_go 280 = .ok (.aload_n 0, 1) := by decide +kernel
theorem dX11_go_281 : decode cX11_go 281 = .ok (.aload_n 0, 1) := by decide +kernel
theorem dX11_go_282 : decode cX11_go 282 = .ok (.getfield 25, 3) := by decide +kernel
theorem dX11_go_285 : decode cX11_go 285 = .ok (.aload_n 0, 1) := by decide +kernel
theorem dX11_go_286 : decode cX11_go 286 = .ok (.getfield 193, 3) := by decide +kernel
theorem dX11_go_289 : decode cX11_go 289 = .ok (.iaload, 1) := by decide +kernel
theorem dX11_go_290 : decode cX11_go 290 = .ok (.putfield 205, 3) := by decide +kernel
theorem dX11_go_293 : decode cX11_go 293 = .ok (.aload_n 0, 1) := by decide +kernel
theorem dX11_go_294 : decode cX11_go 294 = .ok (.dup, 1) := by decide +kernel
theorem dX11_go_295 : decode cX11_go 295 = .ok (.getfield 190, 3) := by decide +kernel
theorem dX11_go_298 : decode cX11_go 298 = .ok (.iconst 1, 1) := by decide +kernel
theorem dX11_go_299 : decode cX11_go 299 = .ok (.iadd, 1) := by decide +kernel
theorem dX11_go_300 : decode cX11_go 300 = .ok (.putfield 190, 3) := by decide +kernel
theorem dX11_go_303 : decode cX11_go 303 = .ok (.return_, 1) := by decide +kernel
theorem dX11_takesKey_0 : decode cX11_takesKey 0 = .ok (.aload_n 0, 1) := by decide +kernel
theorem dX11_takesKey_1 : decode cX11_takesKey 1 = .ok (.getfield 199, 3) := by decide +kernel
theorem dX11_takesKey_4 : decode cX11_takesKey 4 = .ok (.iconst 1, 1) := by decide +kernel
theorem dX11_takesKey_5 : decode cX11_takesKey 5 = .ok (.if_icmp .eq 5, 3) := by decide +kernel
theorem dX11_takesKey_8 : decode cX11_takesKey 8 = .ok (.iconst 0, 1) := by decide +kernel
theorem dX11_takesKey_9 : decode cX11_takesKey 9 = .ok (.ireturn, 1) := by decide +kernel
theorem dX11_takesKey_10 : decode cX11_takesKey 10 = .ok (.iconst 0, 1) := by decide +kernel
theorem dX11_takesKey_11 : decode cX11_takesKey 11 = .ok (.istore_n 1, 1) := by decide +kernel
theorem dX11_takesKey_12 : decode cX11_takesKey 12 = .ok (.iload_n 1, 1) := by decide +kernel
theorem dX11_takesKey_13 : decode cX11_takesKey 13 = .ok (.iconst 3, 1) := by decide +kernel
theorem dX11_takesKey_14 : decode cX11_takesKey 14 = .ok (.if_icmp .ge 113, 3) := by decide +kernel
theorem dX11_takesKey_17 : decode cX11_takesKey 17 = .ok (.aload_n 0, 1) := by decide +kernel
theorem dX11_takesKey_18 : decode cX11_takesKey 18 = .ok (.getfield 32, 3) := by decide +kernel
theorem dX11_takesKey_21 : decode cX11_takesKey 21 = .ok (.iload_n 1, 1) := by decide +kernel
theorem dX11_takesKey_22 : decode cX11_takesKey 22 = .ok (.iconst 1, 1) := by decide +kernel
theorem dX11_takesKey_23 : decode cX11_takesKey 23 = .ok (.iadd, 1) := by decide +kernel
theorem dX11_takesKey_24 : decode cX11_takesKey 24 = .ok (.iaload, 1) := by decide +kernel
theorem dX11_takesKey_25 : decode cX11_takesKey 25 = .ok (.aload_n 0, 1) := by decide +kernel
theorem dX11_takesKey_26 : decode cX11_takesKey 26 = .ok (.getfield 32, 3) := by decide +kernel
theorem dX11_takesKey_29 : decode cX11_takesKey 29 = .ok (.iload_n 1, 1) := by decide +kernel
theorem dX11_takesKey_30 : decode cX11_takesKey 30 = .ok (.iaload, 1) := by decide +kernel
theorem dX11_takesKey_31 : decode cX11_takesKey 31 = .ok (.isub, 1) := by decide +kernel
theorem dX11_takesKey_32 : decode cX11_takesKey 32 = .ok (.istore_n 2, 1) := by decide +kernel
theorem dX11_takesKey_33 : decode cX11_takesKey 33 = .ok (.iload_n 2, 1) := by decide +kernel
theorem dX11_takesKey_34 : decode cX11_takesKey 34 = .ok (.aload_n 0, 1) := by decide +kernel
theorem dX11_takesKey_35 : decode cX11_takesKey 35 = .ok (.getfield 190, 3) := by decide +kernel
theorem dX11_takesKey_38 : decode cX11_takesKey 38 = .ok (.aload_n 0, 1) := by decide +kernel
theorem dX11_takesKey_39 : decode cX11_takesKey 39 = .ok (.getfield 193, 3) := by decide +kernel
theorem dX11_takesKey_42 : decode cX11_takesKey 42 = .ok (.isub, 1) := by decide +kernel
theorem dX11_takesKey_43 : decode cX11_takesKey 43 = .ok (.if_icmp .ne 7, 3) := by decide +kernel
theorem dX11_takesKey_46 : decode cX11_takesKey 46 = .ok (.iconst 1, 1) := by decide +kernel
theorem dX11_takesKey_47 : decode cX11_takesKey 47 = .ok (.goto 4, 3) := by decide +kernel
theorem dX11_takesKey_50 : decode cX11_takesKey 50 = .ok (.iconst 0, 1) := by decide +kernel
theorem dX11_takesKey_51 : decode cX11_takesKey 51 = .ok (.istore_n 3, 1) := by decide +kernel
theorem dX11_takesKey_52 : decode cX11_takesKey 52 = .ok (.iconst 0, 1) := by decide +kernel
theorem dX11_takesKey_53 : decode cX11_takesKey 53 = .ok (.istore 4, 2) := by decide +kernel
theorem dX11_takesKey_55 : decode cX11_takesKey 55 = .ok (.iload 4, 2) := by decide +kernel
theorem dX11_takesKey_57 : decode cX11_takesKey 57 = .ok (.iload_n 2, 1) := by decide +kernel
theorem dX11_takesKey_58 : decode cX11_takesKey 58 = .ok (.if_icmp .ge 48, 3) := by decide +kernel
theorem dX11_takesKey_61 : decode cX11_takesKey 61 = .ok (.iload_n 3, 1) := by decide +kernel
theorem dX11_takesKey_62 : decode cX11_takesKey 62 = .ok (.ifCond .eq 44, 3) := by decide +kernel
theorem dX11_takesKey_65 : decode cX11_takesKey 65 = .ok (.aload_n 0, 1) := by decide +kernel
theorem dX11_takesKey_66 : decode cX11_takesKey 66 = .ok (.getfield 25, 3) := by decide +kernel
theorem dX11_takesKey_69 : decode cX11_takesKey 69 = .ok (.aload_n 0, 1) := by decide +kernel
theorem dX11_takesKey_70 : decode cX11_takesKey 70 = .ok (.getfield 193, 3) := by decide +kernel
theorem dX11_takesKey_73 : decode cX11_takesKey 73 = .ok (.iload 4, 2) := by decide +kernel
theorem dX11_takesKey_75 : decode cX11_takesKey 75 = .ok (.iadd, 1) := by decide +kernel
theorem dX11_takesKey_76 : decode cX11_takesKey 76 = .ok (.iaload, 1) := by decide +kernel
theorem dX11_takesKey_77 : decode cX11_takesKey 77 = .ok (.aload_n 0, 1) := by decide +kernel
theorem dX11_takesKey_78 : decode cX11_takesKey 78 = .ok (.getfield 28, 3) := by decide +kernel
theorem dX11_takesKey_81 : decode cX11_takesKey 81 = .ok (.aload_n 0, 1) := by decide +kernel
theorem dX11_takesKey_82 : decode cX11_takesKey 82 = .ok (.getfield 32, 3) := by decide +kernel
theorem dX11_takesKey_85 : decode cX11_takesKey 85 = .ok (.iload_n 1, 1) := by decide +kernel
theorem dX11_takesKey_86 : decode cX11_takesKey 86 = .ok (.iaload, 1) := by decide +kernel
theorem dX11_takesKey_87 : decode cX11_takesKey 87 = .ok (.iload 4, 2) := by decide +kernel
theorem dX11_takesKey_89 : decode cX11_takesKey 89 = .ok (.iadd, 1) := by decide +kernel
theorem dX11_takesKey_90 : decode cX11_takesKey 90 = .ok (.caload, 1) := by decide +kernel
theorem dX11_takesKey_91 : decode cX11_takesKey 91 = .ok (.if_icmp .ne 7, 3) := by decide +kernel
theorem dX11_takesKey_94 : decode cX11_takesKey 94 = .ok (.iconst 1, 1) := by decide +kernel
theorem dX11_takesKey_95 : decode cX11_takesKey 95 = .ok (.goto 4, 3) := by decide +kernel
theorem dX11_takesKey_98 : decode cX11_takesKey 98 = .ok (.iconst 0, 1) := by decide +kernel
theorem dX11_takesKey_99 : decode cX11_takesKey 99 = .ok (.istore_n 3, 1) := by decide +kernel
theorem dX11_takesKey_100 : decode cX11_takesKey 100 = .ok (.iinc 4 1, 3) := by decide +kernel
theorem dX11_takesKey_103 : decode cX11_takesKey 103 = .ok (.goto (-48), 3) := by decide +kernel
theorem dX11_takesKey_106 : decode cX11_takesKey 106 = .ok (.iload_n 3, 1) := by decide +kernel
theorem dX11_takesKey_107 : decode cX11_takesKey 107 = .ok (.ifCond .eq 14, 3) := by decide +kernel
theorem dX11_takesKey_110 : decode cX11_takesKey 110 = .ok (.aload_n 0, 1) := by decide +kernel
theorem dX11_takesKey_111 : decode cX11_takesKey 111 = .ok (.iload_n 1, 1) := by decide +kernel
theorem dX11_takesKey_112 : decode cX11_takesKey 112 = .ok (.putfield 211, 3) := by decide +kernel
theorem dX11_takesKey_115 : decode cX11_takesKey 115 = .ok (.aload_n 0, 1) := by decide +kernel
theorem dX11_takesKey_116 : decode cX11_takesKey 116 = .ok (.invokevirtual 214, 3) := by decide +kernel
theorem dX11_takesKey_119 : decode cX11_takesKey 119 = .ok (.iconst 1, 1) := by decide +kernel
theorem dX11_takesKey_120 : decode cX11_takesKey 120 = .ok (.ireturn, 1) := by decide +kernel
theorem dX11_takesKey_121 : decode cX11_takesKey 121 = .ok (.iinc 1 1, 3) := by decide +kernel
theorem dX11_takesKey_124 : decode cX11_takesKey 124 = .ok (.goto (-112), 3) := by decide +kernel
theorem dX11_takesKey_127 : decode cX11_takesKey 127 = .ok (.iconst 0, 1) := by decide +kernel
theorem dX11_takesKey_128 : decode cX11_takesKey 128 = .ok (.ireturn, 1) := by decide +kernel
theorem dX11_nameOf_0 : decode cX11_nameOf 0 = .ok (.aload_n 0, 1) := by decide +kernel
theorem dX11_nameOf_1 : decode cX11_nameOf 1 = .ok (.getfield 211, 3) := by decide +kernel
theorem dX11_nameOf_4 : decode cX11_nameOf 4 = .ok (.lookupswitch 82 #[(0, 28), (1, 50)], 28) := by decide +kernel
theorem dX11_nameOf_32 : decode cX11_nameOf 32 = .ok (.iload_n 1, 1) := by decide +kernel
theorem dX11_nameOf_33 : decode cX11_nameOf 33 = .ok (.bipush 119, 2) := by decide +kernel
theorem dX11_nameOf_35 : decode cX11_nameOf 35 = .ok (.if_icmp .ne 7, 3) := by decide +kernel
theorem dX11_nameOf_38 : decode cX11_nameOf 38 = .ok (.iconst 0, 1) := by decide +kernel
theorem dX11_nameOf_39 : decode cX11_nameOf 39 = .ok (.goto 14, 3) := by decide +kernel
theorem dX11_nameOf_42 : decode cX11_nameOf 42 = .ok (.iload_n 1, 1) := by decide +kernel
theorem dX11_nameOf_43 : decode cX11_nameOf 43 = .ok (.bipush 108, 2) := by decide +kernel
theorem dX11_nameOf_45 : decode cX11_nameOf 45 = .ok (.if_icmp .ne 7, 3) := by decide +kernel
theorem dX11_nameOf_48 : decode cX11_nameOf 48 = .ok (.iconst 1, 1) := by decide +kernel
theorem dX11_nameOf_49 : decode cX11_nameOf 49 = .ok (.goto 4, 3) := by decide +kernel
theorem dX11_nameOf_52 : decode cX11_nameOf 52 = .ok (.iconst (-1), 1) := by decide +kernel
theorem dX11_nameOf_53 : decode cX11_nameOf 53 = .ok (.ireturn, 1) := by decide +kernel
theorem dX11_nameOf_54 : decode cX11_nameOf 54 = .ok (.iload_n 1, 1) := by decide +kernel
theorem dX11_nameOf_55 : decode cX11_nameOf 55 = .ok (.bipush 115, 2) := by decide +kernel
theorem dX11_nameOf_57 : decode cX11_nameOf 57 = .ok (.if_icmp .ne 7, 3) := by decide +kernel
theorem dX11_nameOf_60 : decode cX11_nameOf 60 = .ok (.iconst 0, 1) := by decide +kernel
theorem dX11_nameOf_61 : decode cX11_nameOf 61 = .ok (.goto 24, 3) := by decide +kernel
theorem dX11_nameOf_64 : decode cX11_nameOf 64 = .ok (.iload_n 1, 1) := by decide +kernel
theorem dX11_nameOf_65 : decode cX11_nameOf 65 = .ok (.bipush 119, 2) := by decide +kernel
theorem dX11_nameOf_67 : decode cX11_nameOf 67 = .ok (.if_icmp .ne 7, 3) := by decide +kernel
theorem dX11_nameOf_70 : decode cX11_nameOf 70 = .ok (.iconst 1, 1) := by decide +kernel
theorem dX11_nameOf_71 : decode cX11_nameOf 71 = .ok (.goto 14, 3) := by decide +kernel
theorem dX11_nameOf_74 : decode cX11_nameOf 74 = .ok (.iload_n 1, 1) := by decide +kernel
theorem dX11_nameOf_75 : decode cX11_nameOf 75 = .ok (.bipush 100, 2) := by decide +kernel
theorem dX11_nameOf_77 : decode cX11_nameOf 77 = .ok (.if_icmp .ne 7, 3) := by decide +kernel
theorem dX11_nameOf_80 : decode cX11_nameOf 80 = .ok (.iconst 2, 1) := by decide +kernel
theorem dX11_nameOf_81 : decode cX11_nameOf 81 = .ok (.goto 4, 3) := by decide +kernel
theorem dX11_nameOf_84 : decode cX11_nameOf 84 = .ok (.iconst (-1), 1) := by decide +kernel
theorem dX11_nameOf_85 : decode cX11_nameOf 85 = .ok (.ireturn, 1) := by decide +kernel
theorem dX11_nameOf_86 : decode cX11_nameOf 86 = .ok (.iload_n 1, 1) := by decide +kernel
theorem dX11_nameOf_87 : decode cX11_nameOf 87 = .ok (.bipush 119, 2) := by decide +kernel
theorem dX11_nameOf_89 : decode cX11_nameOf 89 = .ok (.if_icmp .ne 7, 3) := by decide +kernel
theorem dX11_nameOf_92 : decode cX11_nameOf 92 = .ok (.iconst 0, 1) := by decide +kernel
theorem dX11_nameOf_93 : decode cX11_nameOf 93 = .ok (.goto 14, 3) := by decide +kernel
theorem dX11_nameOf_96 : decode cX11_nameOf 96 = .ok (.iload_n 1, 1) := by decide +kernel
theorem dX11_nameOf_97 : decode cX11_nameOf 97 = .ok (.bipush 98, 2) := by decide +kernel
theorem dX11_nameOf_99 : decode cX11_nameOf 99 = .ok (.if_icmp .ne 7, 3) := by decide +kernel
theorem dX11_nameOf_102 : decode cX11_nameOf 102 = .ok (.iconst 1, 1) := by decide +kernel
theorem dX11_nameOf_103 : decode cX11_nameOf 103 = .ok (.goto 4, 3) := by decide +kernel
theorem dX11_nameOf_106 : decode cX11_nameOf 106 = .ok (.iconst (-1), 1) := by decide +kernel
theorem dX11_nameOf_107 : decode cX11_nameOf 107 = .ok (.ireturn, 1) := by decide +kernel
theorem dX11_rank_0 : decode cX11_rank 0 = .ok (.iload_n 0, 1) := by decide +kernel
theorem dX11_rank_1 : decode cX11_rank 1 = .ok (.iconst (-1), 1) := by decide +kernel
theorem dX11_rank_2 : decode cX11_rank 2 = .ok (.if_icmp .ne 7, 3) := by decide +kernel
theorem dX11_rank_5 : decode cX11_rank 5 = .ok (.iconst 1, 1) := by decide +kernel
theorem dX11_rank_6 : decode cX11_rank 6 = .ok (.goto 45, 3) := by decide +kernel
theorem dX11_rank_9 : decode cX11_rank 9 = .ok (.iload_n 0, 1) := by decide +kernel
theorem dX11_rank_10 : decode cX11_rank 10 = .ok (.bipush (-2), 2) := by decide +kernel
theorem dX11_rank_12 : decode cX11_rank 12 = .ok (.if_icmp .ne 7, 3) := by decide +kernel
theorem dX11_rank_15 : decode cX11_rank 15 = .ok (.iconst 2, 1) := by decide +kernel
theorem dX11_rank_16 : decode cX11_rank 16 = .ok (.goto 35, 3) := by decide +kernel
theorem dX11_rank_19 : decode cX11_rank 19 = .ok (.iload_n 0, 1) := by decide +kernel
theorem dX11_rank_20 : decode cX11_rank 20 = .ok (.bipush (-5), 2) := by decide +kernel
theorem dX11_rank_22 : decode cX11_rank 22 = .ok (.if_icmp .lt 7, 3) := by decide +kernel
theorem dX11_rank_25 : decode cX11_rank 25 = .ok (.iconst 3, 1) := by decide +kernel
theorem dX11_rank_26 : decode cX11_rank 26 = .ok (.goto 25, 3) := by decide +kernel
theorem dX11_rank_29 : decode cX11_rank 29 = .ok (.iload_n 0, 1) := by decide +kernel
theorem dX11_rank_30 : decode cX11_rank 30 = .ok (.bipush (-7), 2) := by decide +kernel
theorem dX11_rank_32 : decode cX11_rank 32 = .ok (.if_icmp .lt 7, 3) := by decide +kernel
theorem dX11_rank_35 : decode cX11_rank 35 = .ok (.iconst 4, 1) := by decide +kernel
theorem dX11_rank_36 : decode cX11_rank 36 = .ok (.goto 15, 3) := by decide +kernel
theorem dX11_rank_39 : decode cX11_rank 39 = .ok (.iload_n 0, 1) := by decide +kernel
theorem dX11_rank_40 : decode cX11_rank 40 = .ok (.bipush (-9), 2) := by decide +kernel
theorem dX11_rank_42 : decode cX11_rank 42 = .ok (.if_icmp .lt 7, 3) := by decide +kernel
theorem dX11_rank_45 : decode cX11_rank 45 = .ok (.iconst 5, 1) := by decide +kernel
theorem dX11_rank_46 : decode cX11_rank 46 = .ok (.goto 5, 3) := by decide +kernel
theorem dX11_rank_49 : decode cX11_rank 49 = .ok (.bipush 6, 2) := by decide +kernel
theorem dX11_rank_51 : decode cX11_rank 51 = .ok (.ireturn, 1) := by decide +kernel
theorem dX11_settle_0 : decode cX11_settle 0 = .ok (.aload_n 0, 1) := by decide +kernel
theorem dX11_settle_1 : decode cX11_settle 1 = .ok (.getfield 217, 3) := by decide +kernel
theorem dX11_settle_4 : decode cX11_settle 4 = .ok (.ifCond .le 78, 3) := by decide +kernel
theorem dX11_settle_7 : decode cX11_settle 7 = .ok (.aload_n 0, 1) := by decide +kernel
theorem dX11_settle_8 : decode cX11_settle 8 = .ok (.getfield 38, 3) := by decide +kernel
theorem dX11_settle_11 : decode cX11_settle 11 = .ok (.aload_n 0, 1) := by decide +kernel
theorem dX11_settle_12 : decode cX11_settle 12 = .ok (.getfield 217, 3) := by decide +kernel
theorem dX11_settle_15 : decode cX11_settle 15 = .ok (.iconst 1, 1) := by decide +kernel
theorem dX11_settle_16 : decode cX11_settle 16 = .ok (.isub, 1) := by decide +kernel
theorem dX11_settle_17 : decode cX11_settle 17 = .ok (.iaload, 1) := by decide +kernel
theorem dX11_settle_18 : decode cX11_settle 18 = .ok (.bipush (-11), 2) := by decide +kernel
theorem dX11_settle_20 : decode cX11_settle 20 = .ok (.if_icmp .eq 62, 3) := by decide +kernel
theorem dX11_settle_23 : decode cX11_settle 23 = .ok (.aload_n 0, 1) := by decide +kernel
theorem dX11_settle_24 : decode cX11_settle 24 = .ok (.getfield 38, 3) := by decide +kernel
theorem dX11_settle_27 : decode cX11_settle 27 = .ok (.aload_n 0, 1) := by decide +kernel
theorem dX11_settle_28 : decode cX11_settle 28 = .ok (.getfield 217, 3) := by decide +kernel
theorem dX11_settle_31 : decode cX11_settle 31 = .ok (.iconst 1, 1) := by decide +kernel
theorem dX11_settle_32 : decode cX11_settle 32 = .ok (.isub, 1) := by decide +kernel
theorem dX11_settle_33 : decode cX11_settle 33 = .ok (.iaload, 1) := by decide +kernel
theorem dX11_settle_34 : decode cX11_settle 34 = .ok (.invokestatic 220, 3) := by decide +kernel
theorem dX11_settle_37 : decode cX11_settle 37 = .ok (.iload_n 1, 1) := by decide +kernel
theorem dX11_settle_38 : decode cX11_settle 38 = .ok (.if_icmp .lt 44, 3) := by decide +kernel
theorem dX11_settle_41 : decode cX11_settle 41 = .ok (.aload_n 0, 1) := by decide +kernel
theorem dX11_settle_42 : decode cX11_settle 42 = .ok (.dup, 1) := by decide +kernel
theorem dX11_settle_43 : decode cX11_settle 43 = .ok (.getfield 217, 3) := by decide +kernel
theorem dX11_settle_46 : decode cX11_settle 46 = .ok (.iconst 1, 1) := by decide +kernel
theorem dX11_settle_47 : decode cX11_settle 47 = .ok (.isub, 1) := by decide +kernel
theorem dX11_settle_48 : decode cX11_settle 48 = .ok (.putfield 217, 3) := by decide +kernel
theorem dX11_settle_51 : decode cX11_settle 51 = .ok (.aload_n 0, 1) := by decide +kernel
theorem dX11_settle_52 : decode cX11_settle 52 = .ok (.getfield 35, 3) := by decide +kernel
theorem dX11_settle_55 : decode cX11_settle 55 = .ok (.aload_n 0, 1) := by decide +kernel
theorem dX11_settle_56 : decode cX11_settle 56 = .ok (.getfield 223, 3) := by decide +kernel
theorem dX11_settle_59 : decode cX11_settle 59 = .ok (.aload_n 0, 1) := by decide +kernel
theorem dX11_settle_60 : decode cX11_settle 60 = .ok (.getfield 38, 3) := by decide +kernel
theorem dX11_settle_63 : decode cX11_settle 63 = .ok (.aload_n 0, 1) := by decide +kernel
theorem dX11_settle_64 : decode cX11_settle 64 = .ok (.getfield 217, 3) := by decide +kernel
theorem dX11_settle_67 : decode cX11_settle 67 = .ok (.iaload, 1) := by decide +kernel
theorem dX11_settle_68 : decode cX11_settle 68 = .ok (.iastore, 1) := by decide +kernel
theorem dX11_settle_69 : decode cX11_settle 69 = .ok (.aload_n 0, 1) := by decide +kernel
theorem dX11_settle_70 : decode cX11_settle 70 = .ok (.dup, 1) := by decide +kernel
theorem dX11_settle_71 : decode cX11_settle 71 = .ok (.getfield 223, 3) := by decide +kernel
theorem dX11_settle_74 : decode cX11_settle 74 = .ok (.iconst 1, 1) := by decide +kernel
theorem dX11_settle_75 : decode cX11_settle 75 = .ok (.iadd, 1) := by decide +kernel
theorem dX11_settle_76 : decode cX11_settle 76 = .ok (.putfield 223, 3) := by decide +kernel
theorem dX11_settle_79 : decode cX11_settle 79 = .ok (.goto (-79), 3) := by decide +kernel
theorem dX11_settle_82 : decode cX11_settle 82 = .ok (.return_, 1) := by decide +kernel
theorem dX11_signHere_0 : decode cX11_signHere 0 = .ok (.aload_n 0, 1) := by decide +kernel
theorem dX11_signHere_1 : decode cX11_signHere 1 = .ok (.getfield 199, 3) := by decide +kernel
theorem dX11_signHere_4 : decode cX11_signHere 4 = .ok (.iconst 3, 1) := by decide +kernel
theorem dX11_signHere_5 : decode cX11_signHere 5 = .ok (.if_icmp .eq 5, 3) := by decide +kernel
theorem dX11_signHere_8 : decode cX11_signHere 8 = .ok (.iconst 0, 1) := by decide +kernel
theorem dX11_signHere_9 : decode cX11_signHere 9 = .ok (.ireturn, 1) := by decide +kernel
theorem dX11_signHere_10 : decode cX11_signHere 10 = .ok (.aload_n 0, 1) := by decide +kernel
theorem dX11_signHere_11 : decode cX11_signHere 11 = .ok (.getfield 205, 3) := by decide +kernel
theorem dX11_signHere_14 : decode cX11_signHere 14 = .ok (.lookupswitch 108 #[(38, 84), (42, 102), (43, 96), (45, 99), (47, 105), (60, 87), (61, 90), (62, 93), (124, 82)], 82) := by decide +kernel
theorem dX11_signHere_96 : decode cX11_signHere 96 = .ok (.iconst (-1), 1) := by decide +kernel
theorem dX11_signHere_97 : decode cX11_signHere 97 = .ok (.ireturn, 1) := by decide +kernel
theorem dX11_signHere_98 : decode cX11_signHere 98 = .ok (.bipush (-2), 2) := by decide +kernel
theorem dX11_signHere_100 : decode cX11_signHere 100 = .ok (.ireturn, 1) := by decide +kernel
theorem dX11_signHere_101 : decode cX11_signHere 101 = .ok (.bipush (-3), 2) := by decide +kernel
theorem dX11_signHere_103 : decode cX11_signHere 103 = .ok (.ireturn, 1) := by decide +kernel
theorem dX11_signHere_104 : decode cX11_signHere 104 = .ok (.bipush (-4), 2) := by decide +kernel
theorem dX11_signHere_106 : decode cX11_signHere 106 = .ok (.ireturn, 1) := by decide +kernel
theorem dX11_signHere_107 : decode cX11_signHere 107 = .ok (.bipush (-5), 2) := by decide +kernel
theorem dX11_signHere_109 : decode cX11_signHere 109 = .ok (.ireturn, 1) := by decide +kernel
theorem dX11_signHere_110 : decode cX11_signHere 110 = .ok (.bipush (-6), 2) := by decide +kernel
theorem dX11_signHere_112 : decode cX11_signHere 112 = .ok (.ireturn, 1) := by decide +kernel
theorem dX11_signHere_113 : decode cX11_signHere 113 = .ok (.bipush (-7), 2) := by decide +kernel
theorem dX11_signHere_115 : decode cX11_signHere 115 = .ok (.ireturn, 1) := by decide +kernel
theorem dX11_signHere_116 : decode cX11_signHere 116 = .ok (.bipush (-8), 2) := by decide +kernel
theorem dX11_signHere_118 : decode cX11_signHere 118 = .ok (.ireturn, 1) := by decide +kernel
theorem dX11_signHere_119 : decode cX11_signHere 119 = .ok (.bipush (-9), 2) := by decide +kernel
theorem dX11_signHere_121 : decode cX11_signHere 121 = .ok (.ireturn, 1) := by decide +kernel
theorem dX11_signHere_122 : decode cX11_signHere 122 = .ok (.iconst 0, 1) := by decide +kernel
theorem dX11_signHere_123 : decode cX11_signHere 123 = .ok (.ireturn, 1) := by decide +kernel
theorem dX11_takesPart_0 : decode cX11_takesPart 0 = .ok (.aload_n 0, 1) := by decide +kernel
theorem dX11_takesPart_1 : decode cX11_takesPart 1 = .ok (.getfield 199, 3) := by decide +kernel
theorem dX11_takesPart_4 : decode cX11_takesPart 4 = .ok (.iconst 1, 1) := by decide +kernel
theorem dX11_takesPart_5 : decode cX11_takesPart 5 = .ok (.if_icmp .ne 31, 3) := by decide +kernel
theorem dX11_takesPart_8 : decode cX11_takesPart 8 = .ok (.aload_n 0, 1) := by decide +kernel
theorem dX11_takesPart_9 : decode cX11_takesPart 9 = .ok (.getfield 190, 3) := by decide +kernel
theorem dX11_takesPart_12 : decode cX11_takesPart 12 = .ok (.aload_n 0, 1) := by decide +kernel
theorem dX11_takesPart_13 : decode cX11_takesPart 13 = .ok (.getfield 193, 3) := by decide +kernel
theorem dX11_takesPart_16 : decode cX11_takesPart 16 = .ok (.isub, 1) := by decide +kernel
theorem dX11_takesPart_17 : decode cX11_takesPart 17 = .ok (.iconst 1, 1) := by decide +kernel
theorem dX11_takesPart_18 : decode cX11_takesPart 18 = .ok (.if_icmp .ne 18, 3) := by decide +kernel
theorem dX11_takesPart_21 : decode cX11_takesPart 21 = .ok (.aload_n 0, 1) := by decide +kernel
theorem dX11_takesPart_22 : decode cX11_takesPart 22 = .ok (.aload_n 0, 1) := by decide +kernel
theorem dX11_takesPart_23 : decode cX11_takesPart 23 = .ok (.getfield 205, 3) := by decide +kernel
theorem dX11_takesPart_26 : decode cX11_takesPart 26 = .ok (.invokevirtual 226, 3) := by decide +kernel
theorem dX11_takesPart_29 : decode cX11_takesPart 29 = .ok (.ifCond .lt 7, 3) := by decide +kernel
theorem dX11_takesPart_32 : decode cX11_takesPart 32 = .ok (.iconst 1, 1) := by decide +kernel
theorem dX11_takesPart_33 : decode cX11_takesPart 33 = .ok (.goto 4, 3) := by decide +kernel
theorem dX11_takesPart_36 : decode cX11_takesPart 36 = .ok (.iconst 0, 1) := by decide +kernel
theorem dX11_takesPart_37 : decode cX11_takesPart 37 = .ok (.istore_n 1, 1) := by decide +kernel
theorem dX11_takesPart_38 : decode cX11_takesPart 38 = .ok (.aload_n 0, 1) := by decide +kernel
theorem dX11_takesPart_39 : decode cX11_takesPart 39 = .ok (.getfield 199, 3) := by decide +kernel
theorem dX11_takesPart_42 : decode cX11_takesPart 42 = .ok (.iconst 2, 1) := by decide +kernel
theorem dX11_takesPart_43 : decode cX11_takesPart 43 = .ok (.if_icmp .eq 9, 3) := by decide +kernel
theorem dX11_takesPart_46 : decode cX11_takesPart 46 = .ok (.iload_n 1, 1) := by decide +kernel
theorem dX11_takesPart_47 : decode cX11_takesPart 47 = .ok (.ifCond .ne 5, 3) := by decide +kernel
theorem dX11_takesPart_50 : decode cX11_takesPart 50 = .ok (.iconst 0, 1) := by decide +kernel
theorem dX11_takesPart_51 : decode cX11_takesPart 51 = .ok (.ireturn, 1) := by decide +kernel
theorem dX11_takesPart_52 : decode cX11_takesPart 52 = .ok (.aload_n 0, 1) := by decide +kernel
theorem dX11_takesPart_53 : decode cX11_takesPart 53 = .ok (.getfield 35, 3) := by decide +kernel
theorem dX11_takesPart_56 : decode cX11_takesPart 56 = .ok (.aload_n 0, 1) := by decide +kernel
theorem dX11_takesPart_57 : decode cX11_takesPart 57 = .ok (.getfield 223, 3) := by decide +kernel
theorem dX11_takesPart_60 : decode cX11_takesPart 60 = .ok (.aload_n 0, 1) := by decide +kernel
theorem dX11_takesPart_61 : decode cX11_takesPart 61 = .ok (.getfield 199, 3) := by decide +kernel
theorem dX11_takesPart_64 : decode cX11_takesPart 64 = .ok (.iconst 2, 1) := by decide +kernel
theorem dX11_takesPart_65 : decode cX11_takesPart 65 = .ok (.if_icmp .ne 10, 3) := by decide +kernel
theorem dX11_takesPart_68 : decode cX11_takesPart 68 = .ok (.aload_n 0, 1) := by decide +kernel
theorem dX11_takesPart_69 : decode cX11_takesPart 69 = .ok (.getfield 205, 3) := by decide +kernel
theorem dX11_takesPart_72 : decode cX11_takesPart 72 = .ok (.goto 15, 3) := by decide +kernel
theorem dX11_takesPart_75 : decode cX11_takesPart 75 = .ok (.sipush 10000, 3) := by decide +kernel
theorem dX11_takesPart_78 : decode cX11_takesPart 78 = .ok (.aload_n 0, 1) := by decide +kernel
theorem dX11_takesPart_79 : decode cX11_takesPart 79 = .ok (.aload_n 0, 1) := by decide +kernel
theorem dX11_takesPart_80 : decode cX11_takesPart 80 = .ok (.getfield 205, 3) := by decide +kernel
theorem dX11_takesPart_83 : decode cX11_takesPart 83 = .ok (.invokevirtual 226, 3) := by decide +kernel
theorem dX11_takesPart_86 : decode cX11_takesPart 86 = .ok (.iadd, 1) := by decide +kernel
theorem dX11_takesPart_87 : decode cX11_takesPart 87 = .ok (.iastore, 1) := by decide +kernel
theorem dX11_takesPart_88 : decode cX11_takesPart 88 = .ok (.aload_n 0, 1) := by decide +kernel
theorem dX11_takesPart_89 : decode cX11_takesPart 89 = .ok (.dup, 1) := by decide +kernel
theorem dX11_takesPart_90 : decode cX11_takesPart 90 = .ok (.getfield 223, 3) := by decide +kernel
theorem dX11_takesPart_93 : decode cX11_takesPart 93 = .ok (.iconst 1, 1) := by decide +kernel
theorem dX11_takesPart_94 : decode cX11_takesPart 94 = .ok (.iadd, 1) := by decide +kernel
theorem dX11_takesPart_95 : decode cX11_takesPart 95 = .ok (.putfield 223, 3) := by decide +kernel
theorem dX11_takesPart_98 : decode cX11_takesPart 98 = .ok (.aload_n 0, 1) := by decide +kernel
theorem dX11_takesPart_99 : decode cX11_takesPart 99 = .ok (.dup, 1) := by decide +kernel
theorem dX11_takesPart_100 : decode cX11_takesPart 100 = .ok (.getfield 229, 3) := by decide +kernel
theorem dX11_takesPart_103 : decode cX11_takesPart 103 = .ok (.iconst 1, 1) := by decide +kernel
theorem dX11_takesPart_104 : decode cX11_takesPart 104 = .ok (.iadd, 1) := by decide +kernel
theorem dX11_takesPart_105 : decode cX11_takesPart 105 = .ok (.putfield 229, 3) := by decide +kernel
theorem dX11_takesPart_108 : decode cX11_takesPart 108 = .ok (.aload_n 0, 1) := by decide +kernel
theorem dX11_takesPart_109 : decode cX11_takesPart 109 = .ok (.bipush 6, 2) := by decide +kernel
theorem dX11_takesPart_111 : decode cX11_takesPart 111 = .ok (.invokevirtual 232, 3) := by decide +kernel
theorem dX11_takesPart_114 : decode cX11_takesPart 114 = .ok (.aload_n 0, 1) := by decide +kernel
theorem dX11_takesPart_115 : decode cX11_takesPart 115 = .ok (.invokevirtual 214, 3) := by decide +kernel
theorem dX11_takesPart_118 : decode cX11_takesPart 118 = .ok (.iconst 1, 1) := by decide +kernel
theorem dX11_takesPart_119 : decode cX11_takesPart 119 = .ok (.ireturn, 1) := by decide +kernel
theorem dX11_takesE_0 : decode cX11_takesE 0 = .ok (.iconst 0, 1) := by decide +kernel
theorem dX11_takesE_1 : decode cX11_takesE 1 = .ok (.istore_n 1, 1) := by decide +kernel
theorem dX11_takesE_2 : decode cX11_takesE 2 = .ok (.iconst 0, 1) := by decide +kernel
theorem dX11_takesE_3 : decode cX11_takesE 3 = .ok (.istore_n 2, 1) := by decide +kernel
theorem dX11_takesE_4 : decode cX11_takesE 4 = .ok (.iconst 1, 1) := by decide +kernel
theorem dX11_takesE_5 : decode cX11_takesE 5 = .ok (.istore_n 3, 1) := by decide +kernel
theorem dX11_takesE_6 : decode cX11_takesE 6 = .ok (.aload_n 0, 1) := by decide +kernel
theorem dX11_takesE_7 : decode cX11_takesE 7 = .ok (.iconst 0, 1) := by decide +kernel
theorem dX11_takesE_8 : decode cX11_takesE 8 = .ok (.putfield 223, 3) := by decide +kernel
theorem dX11_takesE_11 : decode cX11_takesE 11 = .ok (.aload_n 0, 1) := by decide +kernel
theorem dX11_takesE_12 : decode cX11_takesE 12 = .ok (.iconst 0, 1) := by decide +kernel
theorem dX11_takesE_13 : decode cX11_takesE 13 = .ok (.putfield 229, 3) := by decide +kernel
theorem dX11_takesE_16 : decode cX11_takesE 16 = .ok (.aload_n 0, 1) := by decide +kernel
theorem dX11_takesE_17 : decode cX11_takesE 17 = .ok (.iconst 0, 1) := by decide +kernel
theorem dX11_takesE_18 : decode cX11_takesE 18 = .ok (.putfield 217, 3) := by decide +kernel
theorem dX11_takesE_21 : decode cX11_takesE 21 = .ok (.aload_n 0, 1) := by decide +kernel
theorem dX11_takesE_22 : decode cX11_takesE 22 = .ok (.getfield 41, 3) := by decide +kernel
theorem dX11_takesE_25 : decode cX11_takesE 25 = .ok (.iconst 0, 1) := by decide +kernel
theorem dX11_takesE_26 : decode cX11_takesE 26 = .ok (.iconst 0, 1) := by decide +kernel
theorem dX11_takesE_27 : decode cX11_takesE 27 = .ok (.bastore, 1) := by decide +kernel
theorem dX11_takesE_28 : decode cX11_takesE 28 = .ok (.iload_n 3, 1) := by decide +kernel
theorem dX11_takesE_29 : decode cX11_takesE 29 = .ok (.ifCond .ne 10, 3) := by decide +kernel
theorem dX11_takesE_32 : decode cX11_takesE 32 = .ok (.aload_n 0, 1) := by decide +kernel
theorem dX11_takesE_33 : decode cX11_takesE 33 = .ok (.getfield 199, 3) := by decide +kernel
theorem dX11_takesE_36 : decode cX11_takesE 36 = .ok (.ifCond .eq 309, 3) := by decide +kernel
theorem dX11_takesE_39 : decode cX11_takesE 39 = .ok (.iload_n 3, 1) := by decide +kernel
theorem dX11_takesE_40 : decode cX11_takesE 40 = .ok (.ifCond .eq 140, 3) := by decide +kernel
theorem dX11_takesE_43 : decode cX11_takesE 43 = .ok (.aload_n 0, 1) := by decide +kernel
theorem dX11_takesE_44 : decode cX11_takesE 44 = .ok (.getfield 199, 3) := by decide +kernel
theorem dX11_takesE_47 : decode cX11_takesE 47 = .ok (.iconst 3, 1) := by decide +kernel
theorem dX11_takesE_48 : decode cX11_takesE 48 = .ok (.if_icmp .ne 49, 3) := by decide +kernel
theorem dX11_takesE_51 : decode cX11_takesE 51 = .ok (.aload_n 0, 1) := by decide +kernel
theorem dX11_takesE_52 : decode cX11_takesE 52 = .ok (.getfield 205, 3) := by decide +kernel
theorem dX11_takesE_55 : decode cX11_takesE 55 = .ok (.bipush 33, 2) := by decide +kernel
theorem dX11_takesE_57 : decode cX11_takesE 57 = .ok (.if_icmp .ne 40, 3) := by decide +kernel
theorem dX11_takesE_60 : decode cX11_takesE 60 = .ok (.iload_n 2, 1) := by decide +kernel
theorem dX11_takesE_61 : decode cX11_takesE 61 = .ok (.bipush 8, 2) := by decide +kernel
theorem dX11_takesE_63 : decode cX11_takesE 63 = .ok (.if_icmp .ge 34, 3) := by decide +kernel
theorem dX11_takesE_66 : decode cX11_takesE 66 = .ok (.aload_n 0, 1) := by decide +kernel
theorem dX11_takesE_67 : decode cX11_takesE 67 = .ok (.getfield 38, 3) := by decide +kernel
theorem dX11_takesE_70 : decode cX11_takesE 70 = .ok (.aload_n 0, 1) := by decide +kernel
theorem dX11_takesE_71 : decode cX11_takesE 71 = .ok (.getfield 217, 3) := by decide +kernel
theorem dX11_takesE_74 : decode cX11_takesE 74 = .ok (.bipush (-10), 2) := by decide +kernel
theorem dX11_takesE_76 : decode cX11_takesE 76 = .ok (.iastore, 1) := by decide +kernel
theorem dX11_takesE_77 : decode cX11_takesE 77 = .ok (.aload_n 0, 1) := by decide +kernel
theorem dX11_takesE_78 : decode cX11_takesE 78 = .ok (.dup, 1) := by decide +kernel
theorem dX11_takesE_79 : decode cX11_takesE 79 = .ok (.getfield 217, 3) := by decide +kernel
theorem dX11_takesE_82 : decode cX11_takesE 82 = .ok (.iconst 1, 1) := by decide +kernel
theorem dX11_takesE_83 : decode cX11_takesE 83 = .ok (.iadd, 1) := by decide +kernel
theorem dX11_takesE_84 : decode cX11_takesE 84 = .ok (.putfield 217, 3) := by decide +kernel
theorem dX11_takesE_87 : decode cX11_takesE 87 = .ok (.iinc 2 1, 3) := by decide +kernel
theorem dX11_takesE_90 : decode cX11_takesE 90 = .ok (.aload_n 0, 1) := by decide +kernel
theorem dX11_takesE_91 : decode cX11_takesE 91 = .ok (.invokevirtual 214, 3) := by decide +kernel
theorem dX11_takesE_94 : decode cX11_takesE 94 = .ok (.goto 78, 3) := by decide +kernel
theorem dX11_takesE_97 : decode cX11_takesE 97 = .ok (.aload_n 0, 1) := by decide +kernel
theorem dX11_takesE_98 : decode cX11_takesE 98 = .ok (.getfield 199, 3) := by decide +kernel
theorem dX11_takesE_101 : decode cX11_takesE 101 = .ok (.iconst 3, 1) := by decide +kernel
theorem dX11_takesE_102 : decode cX11_takesE 102 = .ok (.if_icmp .ne 56, 3) := by decide +kernel
theorem dX11_takesE_105 : decode cX11_takesE 105 = .ok (.aload_n 0, 1) := by decide +kernel
theorem dX11_takesE_106 : decode cX11_takesE 106 = .ok (.getfield 205, 3) := by decide +kernel
theorem dX11_takesE_109 : decode cX11_takesE 109 = .ok (.bipush 40, 2) := by decide +kernel
theorem dX11_takesE_111 : decode cX11_takesE 111 = .ok (.if_icmp .ne 47, 3) := by decide +kernel
theorem dX11_takesE_114 : decode cX11_takesE 114 = .ok (.iload_n 1, 1) := by decide +kernel
theorem dX11_takesE_115 : decode cX11_takesE 115 = .ok (.bipush 8, 2) := by decide +kernel
theorem dX11_takesE_117 : decode cX11_takesE 117 = .ok (.if_icmp .ge 41, 3) := by decide +kernel
theorem dX11_takesE_120 : decode cX11_takesE 120 = .ok (.aload_n 0, 1) := by decide +kernel
theorem dX11_takesE_121 : decode cX11_takesE 121 = .ok (.getfield 38, 3) := by decide +kernel
theorem dX11_takesE_124 : decode cX11_takesE 124 = .ok (.aload_n 0, 1) := by decide +kernel
theorem dX11_takesE_125 : decode cX11_takesE 125 = .ok (.getfield 217, 3) := by decide +kernel
theorem dX11_takesE_128 : decode cX11_takesE 128 = .ok (.bipush (-11), 2) := by decide +kernel
theorem dX11_takesE_130 : decode cX11_takesE 130 = .ok (.iastore, 1) := by decide +kernel
theorem dX11_takesE_131 : decode cX11_takesE 131 = .ok (.aload_n 0, 1) := by decide +kernel
theorem dX11_takesE_132 : decode cX11_takesE 132 = .ok (.dup, 1) := by decide +kernel
theorem dX11_takesE_133 : decode cX11_takesE 133 = .ok (.getfield 217, 3) := by decide +kernel
theorem dX11_takesE_136 : decode cX11_takesE 136 = .ok (.iconst 1, 1) := by decide +kernel
theorem dX11_takesE_137 : decode cX11_takesE 137 = .ok (.iadd, 1) := by decide +kernel
theorem dX11_takesE_138 : decode cX11_takesE 138 = .ok (.putfield 217, 3) := by decide +kernel
theorem dX11_takesE_141 : decode cX11_takesE 141 = .ok (.iinc 1 1, 3) := by decide +kernel
theorem dX11_takesE_144 : decode cX11_takesE 144 = .ok (.aload_n 0, 1) := by decide +kernel
theorem dX11_takesE_145 : decode cX11_takesE 145 = .ok (.getfield 41, 3) := by decide +kernel
theorem dX11_takesE_148 : decode cX11_takesE 148 = .ok (.iload_n 1, 1) := by decide +kernel
theorem dX11_takesE_149 : decode cX11_takesE 149 = .ok (.iconst 0, 1) := by decide +kernel
theorem dX11_takesE_150 : decode cX11_takesE 150 = .ok (.bastore, 1) := by decide +kernel
theorem dX11_takesE_151 : decode cX11_takesE 151 = .ok (.aload_n 0, 1) := by decide +kernel
theorem dX11_takesE_152 : decode cX11_takesE 152 = .ok (.invokevirtual 214, 3) := by decide +kernel
theorem dX11_takesE_155 : decode cX11_takesE 155 = .ok (.goto 17, 3) := by decide +kernel
theorem dX11_takesE_158 : decode cX11_takesE 158 = .ok (.aload_n 0, 1) := by decide +kernel
theorem dX11_takesE_159 : decode cX11_takesE 159 = .ok (.invokevirtual 235, 3) := by decide +kernel
theorem dX11_takesE_162 : decode cX11_takesE 162 = .ok (.ifCond .eq 8, 3) := by decide +kernel
theorem dX11_takesE_165 : decode cX11_takesE 165 = .ok (.iconst 0, 1) := by decide +kernel
theorem dX11_takesE_166 : decode cX11_takesE 166 = .ok (.istore_n 3, 1) := by decide +kernel
theorem dX11_takesE_167 : decode cX11_takesE 167 = .ok (.goto 5, 3) := by decide +kernel
theorem dX11_takesE_170 : decode cX11_takesE 170 = .ok (.iconst 0, 1) := by decide +kernel
theorem dX11_takesE_171 : decode cX11_takesE 171 = .ok (.ireturn, 1) := by decide +kernel
theorem dX11_takesE_172 : decode cX11_takesE 172 = .ok (.aload_n 0, 1) := by decide +kernel
theorem dX11_takesE_173 : decode cX11_takesE 173 = .ok (.invokevirtual 239, 3) := by decide +kernel
theorem dX11_takesE_176 : decode cX11_takesE 176 = .ok (.istore_n 2, 1) := by decide +kernel
theorem dX11_takesE_177 : decode cX11_takesE 177 = .ok (.goto (-149), 3) := by decide +kernel
theorem dX11_takesE_180 : decode cX11_takesE 180 = .ok (.aload_n 0, 1) := by decide +kernel
theorem dX11_takesE_181 : decode cX11_takesE 181 = .ok (.getfield 199, 3) := by decide +kernel
theorem dX11_takesE_184 : decode cX11_takesE 184 = .ok (.iconst 3, 1) := by decide +kernel
theorem dX11_takesE_185 : decode cX11_takesE 185 = .ok (.if_icmp .ne 52, 3) := by decide +kernel
theorem dX11_takesE_188 : decode cX11_takesE 188 = .ok (.aload_n 0, 1) := by decide +kernel
theorem dX11_takesE_189 : decode cX11_takesE 189 = .ok (.getfield 205, 3) := by decide +kernel
theorem dX11_takesE_192 : decode cX11_takesE 192 = .ok (.bipush 41, 2) := by decide +kernel
theorem dX11_takesE_194 : decode cX11_takesE 194 = .ok (.if_icmp .ne 43, 3) := by decide +kernel
theorem dX11_takesE_197 : decode cX11_takesE 197 = .ok (.iload_n 1, 1) := by decide +kernel
theorem dX11_takesE_198 : decode cX11_takesE 198 = .ok (.ifCond .le 39, 3) := by decide +kernel
theorem dX11_takesE_201 : decode cX11_takesE 201 = .ok (.aload_n 0, 1) := by decide +kernel
theorem dX11_takesE_202 : decode cX11_takesE 202 = .ok (.iconst 0, 1) := by decide +kernel
theorem dX11_takesE_203 : decode cX11_takesE 203 = .ok (.invokevirtual 232, 3) := by decide +kernel
theorem dX11_takesE_206 : decode cX11_takesE 206 = .ok (.aload_n 0, 1) := by decide +kernel
theorem dX11_takesE_207 : decode cX11_takesE 207 = .ok (.dup, 1) := by decide +kernel
theorem dX11_takesE_208 : decode cX11_takesE 208 = .ok (.getfield 217, 3) := by decide +kernel
theorem dX11_takesE_211 : decode cX11_takesE 211 = .ok (.iconst 1, 1) := by decide +kernel
theorem dX11_takesE_212 : decode cX11_takesE 212 = .ok (.isub, 1) := by decide +kernel
theorem dX11_takesE_213 : decode cX11_takesE 213 = .ok (.putfield 217, 3) := by decide +kernel
theorem dX11_takesE_216 : decode cX11_takesE 216 = .ok (.iinc 1 (-1), 3) := by decide +kernel
theorem dX11_takesE_219 : decode cX11_takesE 219 = .ok (.aload_n 0, 1) := by decide +kernel
theorem dX11_takesE_220 : decode cX11_takesE 220 = .ok (.bipush 6, 2) := by decide +kernel
theorem dX11_takesE_222 : decode cX11_takesE 222 = .ok (.invokevirtual 232, 3) := by decide +kernel
theorem dX11_takesE_225 : decode cX11_takesE 225 = .ok (.aload_n 0, 1) := by decide +kernel
theorem dX11_takesE_226 : decode cX11_takesE 226 = .ok (.invokevirtual 239, 3) := by decide +kernel
theorem dX11_takesE_229 : decode cX11_takesE 229 = .ok (.istore_n 2, 1) := by decide +kernel
theorem dX11_takesE_230 : decode cX11_takesE 230 = .ok (.aload_n 0, 1) := by decide +kernel
theorem dX11_takesE_231 : decode cX11_takesE 231 = .ok (.invokevirtual 214, 3) := by decide +kernel
theorem dX11_takesE_234 : decode cX11_takesE 234 = .ok (.goto (-206), 3) := by decide +kernel
theorem dX11_takesE_237 : decode cX11_takesE 237 = .ok (.aload_n 0, 1) := by decide +kernel
theorem dX11_takesE_238 : decode cX11_takesE 238 = .ok (.invokevirtual 242, 3) := by decide +kernel
theorem dX11_takesE_241 : decode cX11_takesE 241 = .ok (.istore 4, 2) := by decide +kernel
theorem dX11_takesE_243 : decode cX11_takesE 243 = .ok (.iload 4, 2) := by decide +kernel
theorem dX11_takesE_245 : decode cX11_takesE 245 = .ok (.ifCond .eq 21, 3) := by decide +kernel
theorem dX11_takesE_248 : decode cX11_takesE 248 = .ok (.iload 4, 2) := by decide +kernel
theorem dX11_takesE_250 : decode cX11_takesE 250 = .ok (.invokestatic 220, 3) := by decide +kernel
theorem dX11_takesE_253 : decode cX11_takesE 253 = .ok (.iconst 3, 1) := by decide +kernel
theorem dX11_takesE_254 : decode cX11_takesE 254 = .ok (.if_icmp .ne 14, 3) := by decide +kernel
theorem dX11_takesE_257 : decode cX11_takesE 257 = .ok (.aload_n 0, 1) := by decide +kernel
theorem dX11_takesE_258 : decode cX11_takesE 258 = .ok (.getfield 41, 3) := by decide +kernel
theorem dX11_takesE_261 : decode cX11_takesE 261 = .ok (.iload_n 1, 1) := by decide +kernel
theorem dX11_takesE_262 : decode cX11_takesE 262 = .ok (.baload, 1) := by decide +kernel
theorem dX11_takesE_263 : decode cX11_takesE 263 = .ok (.ifCond .eq 5, 3) := by decide +kernel
theorem dX11_takesE_266 : decode cX11_takesE 266 = .ok (.iconst 0, 1) := by decide +kernel
theorem dX11_takesE_267 : decode cX11_takesE 267 = .ok (.ireturn, 1) := by decide +kernel
theorem dX11_takesE_268 : decode cX11_takesE 268 = .ok (.aload_n 0, 1) := by decide +kernel
theorem dX11_takesE_269 : decode cX11_takesE 269 = .ok (.getfield 41, 3) := by decide +kernel
theorem dX11_takesE_272 : decode cX11_takesE 272 = .ok (.iload_n 1, 1) := by decide +kernel
theorem dX11_takesE_273 : decode cX11_takesE 273 = .ok (.iload 4, 2) := by decide +kernel
theorem dX11_takesE_275 : decode cX11_takesE 275 = .ok (.invokestatic 220, 3) := by decide +kernel
theorem dX11_takesE_278 : decode cX11_takesE 278 = .ok (.iconst 3, 1) := by decide +kernel
theorem dX11_takesE_279 : decode cX11_takesE 279 = .ok (.if_icmp .eq 21, 3) := by decide +kernel
theorem dX11_takesE_282 : decode cX11_takesE 282 = .ok (.iload 4, 2) := by decide +kernel
theorem dX11_takesE_284 : decode cX11_takesE 284 = .ok (.invokestatic 220, 3) := by decide +kernel
theorem dX11_takesE_287 : decode cX11_takesE 287 = .ok (.iconst 3, 1) := by decide +kernel
theorem dX11_takesE_288 : decode cX11_takesE 288 = .ok (.if_icmp .le 16, 3) := by decide +kernel
theorem dX11_takesE_291 : decode cX11_takesE 291 = .ok (.aload_n 0, 1) := by decide +kernel
theorem dX11_takesE_292 : decode cX11_takesE 292 = .ok (.getfield 41, 3) := by decide +kernel
theorem dX11_takesE_295 : decode cX11_takesE 295 = .ok (.iload_n 1, 1) := by decide +kernel
theorem dX11_takesE_296 : decode cX11_takesE 296 = .ok (.baload, 1) := by decide +kernel
theorem dX11_takesE_297 : decode cX11_takesE 297 = .ok (.ifCond .eq 7, 3) := by decide +kernel
theorem dX11_takesE_300 : decode cX11_takesE 300 = .ok (.iconst 1, 1) := by decide +kernel
theorem dX11_takesE_301 : decode cX11_takesE 301 = .ok (.goto 4, 3) := by decide +kernel
theorem dX11_takesE_304 : decode cX11_takesE 304 = .ok (.iconst 0, 1) := by decide +kernel
theorem dX11_takesE_305 : decode cX11_takesE 305 = .ok (.bastore, 1) := by decide +kernel
theorem dX11_takesE_306 : decode cX11_takesE 306 = .ok (.aload_n 0, 1) := by decide +kernel
theorem dX11_takesE_307 : decode cX11_takesE 307 = .ok (.iload 4, 2) := by decide +kernel
theorem dX11_takesE_309 : decode cX11_takesE 309 = .ok (.invokestatic 220, 3) := by decide +kernel
theorem dX11_takesE_312 : decode cX11_takesE 312 = .ok (.invokevirtual 232, 3) := by decide +kernel
theorem dX11_takesE_315 : decode cX11_takesE 315 = .ok (.aload_n 0, 1) := by decide +kernel
theorem dX11_takesE_316 : decode cX11_takesE 316 = .ok (.getfield 38, 3) := by decide +kernel
theorem dX11_takesE_319 : decode cX11_takesE 319 = .ok (.aload_n 0, 1) := by decide +kernel
theorem dX11_takesE_320 : decode cX11_takesE 320 = .ok (.getfield 217, 3) := by decide +kernel
theorem dX11_takesE_323 : decode cX11_takesE 323 = .ok (.iload 4, 2) := by decide +kernel
theorem dX11_takesE_325 : decode cX11_takesE 325 = .ok (.iastore, 1) := by decide +kernel
theorem dX11_takesE_326 : decode cX11_takesE 326 = .ok (.aload_n 0, 1) := by decide +kernel
theorem dX11_takesE_327 : decode cX11_takesE 327 = .ok (.dup, 1) := by decide +kernel
theorem dX11_takesE_328 : decode cX11_takesE 328 = .ok (.getfield 217, 3) := by decide +kernel
theorem dX11_takesE_331 : decode cX11_takesE 331 = .ok (.iconst 1, 1) := by decide +kernel
theorem dX11_takesE_332 : decode cX11_takesE 332 = .ok (.iadd, 1) := by decide +kernel
theorem dX11_takesE_333 : decode cX11_takesE 333 = .ok (.putfield 217, 3) := by decide +kernel
theorem dX11_takesE_336 : decode cX11_takesE 336 = .ok (.iconst 1, 1) := by decide +kernel
theorem dX11_takesE_337 : decode cX11_takesE 337 = .ok (.istore_n 3, 1) := by decide +kernel
theorem dX11_takesE_338 : decode cX11_takesE 338 = .ok (.aload_n 0, 1) := by decide +kernel
theorem dX11_takesE_339 : decode cX11_takesE 339 = .ok (.invokevirtual 214, 3) := by decide +kernel
theorem dX11_takesE_342 : decode cX11_takesE 342 = .ok (.goto (-314), 3) := by decide +kernel
theorem dX11_takesE_345 : decode cX11_takesE 345 = .ok (.aload_n 0, 1) := by decide +kernel
theorem dX11_takesE_346 : decode cX11_takesE 346 = .ok (.iconst 0, 1) := by decide +kernel
theorem dX11_takesE_347 : decode cX11_takesE 347 = .ok (.invokevirtual 232, 3) := by decide +kernel
theorem dX11_takesE_350 : decode cX11_takesE 350 = .ok (.iload_n 1, 1) := by decide +kernel
theorem dX11_takesE_351 : decode cX11_takesE 351 = .ok (.ifCond .ne 7, 3) := by decide +kernel
theorem dX11_takesE_354 : decode cX11_takesE 354 = .ok (.iconst 1, 1) := by decide +kernel
theorem dX11_takesE_355 : decode cX11_takesE 355 = .ok (.goto 4, 3) := by decide +kernel
theorem dX11_takesE_358 : decode cX11_takesE 358 = .ok (.iconst 0, 1) := by decide +kernel
theorem dX11_takesE_359 : decode cX11_takesE 359 = .ok (.ireturn, 1) := by decide +kernel
theorem dX11_notsOpen_0 : decode cX11_notsOpen 0 = .ok (.iconst 0, 1) := by decide +kernel
theorem dX11_notsOpen_1 : decode cX11_notsOpen 1 = .ok (.istore_n 1, 1) := by decide +kernel
theorem dX11_notsOpen_2 : decode cX11_notsOpen 2 = .ok (.iconst 0, 1) := by decide +kernel
theorem dX11_notsOpen_3 : decode cX11_notsOpen 3 = .ok (.istore_n 2, 1) := by decide +kernel
theorem dX11_notsOpen_4 : decode cX11_notsOpen 4 = .ok (.iload_n 2, 1) := by decide +kernel
theorem dX11_notsOpen_5 : decode cX11_notsOpen 5 = .ok (.aload_n 0, 1) := by decide +kernel
theorem dX11_notsOpen_6 : decode cX11_notsOpen 6 = .ok (.getfield 217, 3) := by decide +kernel
theorem dX11_notsOpen_9 : decode cX11_notsOpen 9 = .ok (.if_icmp .ge 28, 3) := by decide +kernel
theorem dX11_notsOpen_12 : decode cX11_notsOpen 12 = .ok (.iload_n 1, 1) := by decide +kernel
theorem dX11_notsOpen_13 : decode cX11_notsOpen 13 = .ok (.aload_n 0, 1) := by decide +kernel
theorem dX11_notsOpen_14 : decode cX11_notsOpen 14 = .ok (.getfield 38, 3) := by decide +kernel
theorem dX11_notsOpen_17 : decode cX11_notsOpen 17 = .ok (.iload_n 2, 1) := by decide +kernel
theorem dX11_notsOpen_18 : decode cX11_notsOpen 18 = .ok (.iaload, 1) := by decide +kernel
theorem dX11_notsOpen_19 : decode cX11_notsOpen 19 = .ok (.bipush (-10), 2) := by decide +kernel
theorem dX11_notsOpen_21 : decode cX11_notsOpen 21 = .ok (.if_icmp .ne 7, 3) := by decide +kernel
theorem dX11_notsOpen_24 : decode cX11_notsOpen 24 = .ok (.iconst 1, 1) := by decide +kernel
theorem dX11_notsOpen_25 : decode cX11_notsOpen 25 = .ok (.goto 4, 3) := by decide +kernel
theorem dX11_notsOpen_28 : decode cX11_notsOpen 28 = .ok (.iconst 0, 1) := by decide +kernel
theorem dX11_notsOpen_29 : decode cX11_notsOpen 29 = .ok (.iadd, 1) := by decide +kernel
theorem dX11_notsOpen_30 : decode cX11_notsOpen 30 = .ok (.istore_n 1, 1) := by decide +kernel
theorem dX11_notsOpen_31 : decode cX11_notsOpen 31 = .ok (.iinc 2 1, 3) := by decide +kernel
theorem dX11_notsOpen_34 : decode cX11_notsOpen 34 = .ok (.goto (-30), 3) := by decide +kernel
theorem dX11_notsOpen_37 : decode cX11_notsOpen 37 = .ok (.iload_n 1, 1) := by decide +kernel
theorem dX11_notsOpen_38 : decode cX11_notsOpen 38 = .ok (.ireturn, 1) := by decide +kernel
theorem dX11_text_0 : decode cX11_text 0 = .ok (.aload_n 0, 1) := by decide +kernel
theorem dX11_text_1 : decode cX11_text 1 = .ok (.iconst 0, 1) := by decide +kernel
theorem dX11_text_2 : decode cX11_text 2 = .ok (.putfield 190, 3) := by decide +kernel
theorem dX11_text_5 : decode cX11_text 5 = .ok (.aload_n 0, 1) := by decide +kernel
theorem dX11_text_6 : decode cX11_text 6 = .ok (.iconst (-1), 1) := by decide +kernel
theorem dX11_text_7 : decode cX11_text 7 = .ok (.putfield 196, 3) := by decide +kernel
theorem dX11_text_10 : decode cX11_text 10 = .ok (.aload_n 0, 1) := by decide +kernel
theorem dX11_text_11 : decode cX11_text 11 = .ok (.invokevirtual 214, 3) := by decide +kernel
theorem dX11_text_14 : decode cX11_text 14 = .ok (.aload_n 0, 1) := by decide +kernel
theorem dX11_text_15 : decode cX11_text 15 = .ok (.invokevirtual 245, 3) := by decide +kernel
theorem dX11_text_18 : decode cX11_text 18 = .ok (.ifCond .eq 14, 3) := by decide +kernel
theorem dX11_text_21 : decode cX11_text 21 = .ok (.aload_n 0, 1) := by decide +kernel
theorem dX11_text_22 : decode cX11_text 22 = .ok (.invokevirtual 248, 3) := by decide +kernel
theorem dX11_text_25 : decode cX11_text 25 = .ok (.ifCond .eq 7, 3) := by decide +kernel
theorem dX11_text_28 : decode cX11_text 28 = .ok (.iconst 1, 1) := by decide +kernel
theorem dX11_text_29 : decode cX11_text 29 = .ok (.goto 4, 3) := by decide +kernel
theorem dX11_text_32 : decode cX11_text 32 = .ok (.iconst 0, 1) := by decide +kernel
theorem dX11_text_33 : decode cX11_text 33 = .ok (.istore_n 1, 1) := by decide +kernel
theorem dX11_text_34 : decode cX11_text 34 = .ok (.aload_n 0, 1) := by decide +kernel
theorem dX11_text_35 : decode cX11_text 35 = .ok (.iconst 0, 1) := by decide +kernel
theorem dX11_text_36 : decode cX11_text 36 = .ok (.putfield 186, 3) := by decide +kernel
theorem dX11_text_39 : decode cX11_text 39 = .ok (.iload_n 1, 1) := by decide +kernel
theorem dX11_text_40 : decode cX11_text 40 = .ok (.ifCond .ne 11, 3) := by decide +kernel
theorem dX11_text_43 : decode cX11_text 43 = .ok (.bipush (-100), 2) := by decide +kernel
theorem dX11_text_45 : decode cX11_text 45 = .ok (.aload_n 0, 1) := by decide +kernel
theorem dX11_text_46 : decode cX11_text 46 = .ok (.getfield 193, 3) := by decide +kernel
theorem dX11_text_49 : decode cX11_text 49 = .ok (.isub, 1) := by decide +kernel
theorem dX11_text_50 : decode cX11_text 50 = .ok (.ireturn, 1) := by decide +kernel
theorem dX11_text_51 : decode cX11_text 51 = .ok (.aload_n 0, 1) := by decide +kernel
theorem dX11_text_52 : decode cX11_text 52 = .ok (.getfield 9, 3) := by decide +kernel
theorem dX11_text_55 : decode cX11_text 55 = .ok (.bipush 9, 2) := by decide +kernel
theorem dX11_text_57 : decode cX11_text 57 = .ok (.iaload, 1) := by decide +kernel
theorem dX11_text_58 : decode cX11_text 58 = .ok (.bipush 14, 2) := by decide +kernel
theorem dX11_text_60 : decode cX11_text 60 = .ok (.if_icmp .ne 6, 3) := by decide +kernel
theorem dX11_text_63 : decode cX11_text 63 = .ok (.ldc 91, 2) := by decide +kernel
theorem dX11_text_65 : decode cX11_text 65 = .ok (.ireturn, 1) := by decide +kernel
theorem dX11_text_66 : decode cX11_text 66 = .ok (.aload_n 0, 1) := by decide +kernel
theorem dX11_text_67 : decode cX11_text 67 = .ok (.getfield 9, 3) := by decide +kernel
theorem dX11_text_70 : decode cX11_text 70 = .ok (.bipush 9, 2) := by decide +kernel
theorem dX11_text_72 : decode cX11_text 72 = .ok (.iaload, 1) := by decide +kernel
theorem dX11_text_73 : decode cX11_text 73 = .ok (.istore_n 2, 1) := by decide +kernel
theorem dX11_text_74 : decode cX11_text 74 = .ok (.aload_n 0, 1) := by decide +kernel
theorem dX11_text_75 : decode cX11_text 75 = .ok (.getfield 9, 3) := by decide +kernel
theorem dX11_text_78 : decode cX11_text 78 = .ok (.bipush 116, 2) := by decide +kernel
theorem dX11_text_80 : decode cX11_text 80 = .ok (.iconst 2, 1) := by decide +kernel
theorem dX11_text_81 : decode cX11_text 81 = .ok (.iload_n 2, 1) := by decide +kernel
theorem dX11_text_82 : decode cX11_text 82 = .ok (.imul, 1) := by decide +kernel
theorem dX11_text_83 : decode cX11_text 83 = .ok (.iadd, 1) := by decide +kernel
theorem dX11_text_84 : decode cX11_text 84 = .ok (.sipush 1000, 3) := by decide +kernel
theorem dX11_text_87 : decode cX11_text 87 = .ok (.aload_n 0, 1) := by decide +kernel
theorem dX11_text_88 : decode cX11_text 88 = .ok (.getfield 211, 3) := by decide +kernel
theorem dX11_text_91 : decode cX11_text 91 = .ok (.imul, 1) := by decide +kernel
theorem dX11_text_92 : decode cX11_text 92 = .ok (.aload_n 0, 1) := by decide +kernel
theorem dX11_text_93 : decode cX11_text 93 = .ok (.getfield 223, 3) := by decide +kernel
theorem dX11_text_96 : decode cX11_text 96 = .ok (.iadd, 1) := by decide +kernel
theorem dX11_text_97 : decode cX11_text 97 = .ok (.iastore, 1) := by decide +kernel
theorem dX11_text_98 : decode cX11_text 98 = .ok (.aload_n 0, 1) := by decide +kernel
theorem dX11_text_99 : decode cX11_text 99 = .ok (.getfield 9, 3) := by decide +kernel
theorem dX11_text_102 : decode cX11_text 102 = .ok (.bipush 116, 2) := by decide +kernel
theorem dX11_text_104 : decode cX11_text 104 = .ok (.iconst 2, 1) := by decide +kernel
theorem dX11_text_105 : decode cX11_text 105 = .ok (.iload_n 2, 1) := by decide +kernel
theorem dX11_text_106 : decode cX11_text 106 = .ok (.imul, 1) := by decide +kernel
theorem dX11_text_107 : decode cX11_text 107 = .ok (.iadd, 1) := by decide +kernel
theorem dX11_text_108 : decode cX11_text 108 = .ok (.iconst 1, 1) := by decide +kernel
theorem dX11_text_109 : decode cX11_text 109 = .ok (.iadd, 1) := by decide +kernel
theorem dX11_text_110 : decode cX11_text 110 = .ok (.aload_n 0, 1) := by decide +kernel
theorem dX11_text_111 : decode cX11_text 111 = .ok (.getfield 229, 3) := by decide +kernel
theorem dX11_text_114 : decode cX11_text 114 = .ok (.iastore, 1) := by decide +kernel
theorem dX11_text_115 : decode cX11_text 115 = .ok (.iconst 0, 1) := by decide +kernel
theorem dX11_text_116 : decode cX11_text 116 = .ok (.istore_n 3, 1) := by decide +kernel
theorem dX11_text_117 : decode cX11_text 117 = .ok (.iload_n 3, 1) := by decide +kernel
theorem dX11_text_118 : decode cX11_text 118 = .ok (.aload_n 0, 1) := by decide +kernel
theorem dX11_text_119 : decode cX11_text 119 = .ok (.getfield 223, 3) := by decide +kernel
theorem dX11_text_122 : decode cX11_text 122 = .ok (.if_icmp .ge 30, 3) := by decide +kernel
theorem dX11_text_125 : decode cX11_text 125 = .ok (.aload_n 0, 1) := by decide +kernel
theorem dX11_text_126 : decode cX11_text 126 = .ok (.getfield 9, 3) := by decide +kernel
theorem dX11_text_129 : decode cX11_text 129 = .ok (.sipush 144, 3) := by decide +kernel
theorem dX11_text_132 : decode cX11_text 132 = .ok (.bipush 96, 2) := by decide +kernel
theorem dX11_text_134 : decode cX11_text 134 = .ok (.iload_n 2, 1) := by decide +kernel
theorem dX11_text_135 : decode cX11_text 135 = .ok (.imul, 1) := by decide +kernel
theorem dX11_text_136 : decode cX11_text 136 = .ok (.iadd, 1) := by decide +kernel
theorem dX11_text_137 : decode cX11_text 137 = .ok (.iload_n 3, 1) := by decide +kernel
theorem dX11_text_138 : decode cX11_text 138 = .ok (.iadd, 1) := by decide +kernel
theorem dX11_text_139 : decode cX11_text 139 = .ok (.aload_n 0, 1) := by decide +kernel
theorem dX11_text_140 : decode cX11_text 140 = .ok (.getfield 35, 3) := by decide +kernel
theorem dX11_text_143 : decode cX11_text 143 = .ok (.iload_n 3, 1) := by decide +kernel
theorem dX11_text_144 : decode cX11_text 144 = .ok (.iaload, 1) := by decide +kernel
theorem dX11_text_145 : decode cX11_text 145 = .ok (.iastore, 1) := by decide +kernel
theorem dX11_text_146 : decode cX11_text 146 = .ok (.iinc 3 1, 3) := by decide +kernel
theorem dX11_text_149 : decode cX11_text 149 = .ok (.goto (-32), 3) := by decide +kernel
theorem dX11_text_152 : decode cX11_text 152 = .ok (.aload_n 0, 1) := by decide +kernel
theorem dX11_text_153 : decode cX11_text 153 = .ok (.getfield 9, 3) := by decide +kernel
theorem dX11_text_156 : decode cX11_text 156 = .ok (.bipush 9, 2) := by decide +kernel
theorem dX11_text_158 : decode cX11_text 158 = .ok (.dup2, 1) := by decide +kernel
theorem dX11_text_159 : decode cX11_text 159 = .ok (.iaload, 1) := by decide +kernel
theorem dX11_text_160 : decode cX11_text 160 = .ok (.iconst 1, 1) := by decide +kernel
theorem dX11_text_161 : decode cX11_text 161 = .ok (.iadd, 1) := by decide +kernel
theorem dX11_text_162 : decode cX11_text 162 = .ok (.iastore, 1) := by decide +kernel
theorem dX11_text_163 : decode cX11_text 163 = .ok (.iload_n 2, 1) := by decide +kernel
theorem dX11_text_164 : decode cX11_text 164 = .ok (.ireturn, 1) := by decide +kernel
theorem dX11_textTold_0 : decode cX11_textTold 0 = .ok (.iload_n 1, 1) := by decide +kernel
theorem dX11_textTold_1 : decode cX11_textTold 1 = .ok (.iconst 0, 1) := by decide +kernel
theorem dX11_textTold_2 : decode cX11_textTold 2 = .ok (.aload_n 0, 1) := by decide +kernel
theorem dX11_textTold_3 : decode cX11_textTold 3 = .ok (.getfield 9, 3) := by decide +kernel
theorem dX11_textTold_6 : decode cX11_textTold 6 = .ok (.bipush 9, 2) := by decide +kernel
theorem dX11_textTold_8 : decode cX11_textTold 8 = .ok (.iaload, 1) := by decide +kernel
theorem dX11_textTold_9 : decode cX11_textTold 9 = .ok (.iconst 1, 1) := by decide +kernel
theorem dX11_textTold_10 : decode cX11_textTold 10 = .ok (.isub, 1) := by decide +kernel
theorem dX11_textTold_11 : decode cX11_textTold 11 = .ok (.invokestatic 78, 3) := by decide +kernel
theorem dX11_textTold_14 : decode cX11_textTold 14 = .ok (.ifCond .eq 12, 3) := by decide +kernel
theorem dX11_textTold_17 : decode cX11_textTold 17 = .ok (.iload_n 2, 1) := by decide +kernel
theorem dX11_textTold_18 : decode cX11_textTold 18 = .ok (.iconst 0, 1) := by decide +kernel
theorem dX11_textTold_19 : decode cX11_textTold 19 = .ok (.iconst 1, 1) := by decide +kernel
theorem dX11_textTold_20 : decode cX11_textTold 20 = .ok (.invokestatic 78, 3) := by decide +kernel
theorem dX11_textTold_23 : decode cX11_textTold 23 = .ok (.ifCond .ne 6, 3) := by decide +kernel
theorem dX11_textTold_26 : decode cX11_textTold 26 = .ok (.ldc 90, 2) := by decide +kernel
theorem dX11_textTold_28 : decode cX11_textTold 28 = .ok (.ireturn, 1) := by decide +kernel
theorem dX11_textTold_29 : decode cX11_textTold 29 = .ok (.iload_n 2, 1) := by decide +kernel
theorem dX11_textTold_30 : decode cX11_textTold 30 = .ok (.ifCond .ne 21, 3) := by decide +kernel
theorem dX11_textTold_33 : decode cX11_textTold 33 = .ok (.aload_n 0, 1) := by decide +kernel
theorem dX11_textTold_34 : decode cX11_textTold 34 = .ok (.getfield 9, 3) := by decide +kernel
theorem dX11_textTold_37 : decode cX11_textTold 37 = .ok (.bipush 116, 2) := by decide +kernel
theorem dX11_textTold_39 : decode cX11_textTold 39 = .ok (.iconst 2, 1) := by decide +kernel
theorem dX11_textTold_40 : decode cX11_textTold 40 = .ok (.iload_n 1, 1) := by decide +kernel
theorem dX11_textTold_41 : decode cX11_textTold 41 = .ok (.imul, 1) := by decide +kernel
theorem dX11_textTold_42 : decode cX11_textTold 42 = .ok (.iadd, 1) := by decide +kernel
theorem dX11_textTold_43 : decode cX11_textTold 43 = .ok (.iaload, 1) := by decide +kernel
theorem dX11_textTold_44 : decode cX11_textTold 44 = .ok (.sipush 1000, 3) := by decide +kernel
theorem dX11_textTold_47 : decode cX11_textTold 47 = .ok (.idiv, 1) := by decide +kernel
theorem dX11_textTold_48 : decode cX11_textTold 48 = .ok (.goto 16, 3) := by decide +kernel
theorem dX11_textTold_51 : decode cX11_textTold 51 = .ok (.aload_n 0, 1) := by decide +kernel
theorem dX11_textTold_52 : decode cX11_textTold 52 = .ok (.getfield 9, 3) := by decide +kernel
theorem dX11_textTold_55 : decode cX11_textTold 55 = .ok (.bipush 116, 2) := by decide +kernel
theorem dX11_textTold_57 : decode cX11_textTold 57 = .ok (.iconst 2, 1) := by decide +kernel
theorem dX11_textTold_58 : decode cX11_textTold 58 = .ok (.iload_n 1, 1) := by decide +kernel
theorem dX11_textTold_59 : decode cX11_textTold 59 = .ok (.imul, 1) := by decide +kernel
theorem dX11_textTold_60 : decode cX11_textTold 60 = .ok (.iadd, 1) := by decide +kernel
theorem dX11_textTold_61 : decode cX11_textTold 61 = .ok (.iconst 1, 1) := by decide +kernel
theorem dX11_textTold_62 : decode cX11_textTold 62 = .ok (.iadd, 1) := by decide +kernel
theorem dX11_textTold_63 : decode cX11_textTold 63 = .ok (.iaload, 1) := by decide +kernel
theorem dX11_textTold_64 : decode cX11_textTold 64 = .ok (.ireturn, 1) := by decide +kernel
theorem dX11_counts_0 : decode cX11_counts 0 = .ok (.aload_n 0, 1) := by decide +kernel
theorem dX11_counts_1 : decode cX11_counts 1 = .ok (.getfield 9, 3) := by decide +kernel
theorem dX11_counts_4 : decode cX11_counts 4 = .ok (.bipush 9, 2) := by decide +kernel
theorem dX11_counts_6 : decode cX11_counts 6 = .ok (.iaload, 1) := by decide +kernel
theorem dX11_counts_7 : decode cX11_counts 7 = .ok (.iconst 1, 1) := by decide +kernel
theorem dX11_counts_8 : decode cX11_counts 8 = .ok (.isub, 1) := by decide +kernel
theorem dX11_counts_9 : decode cX11_counts 9 = .ok (.istore_n 2, 1) := by decide +kernel
theorem dX11_counts_10 : decode cX11_counts 10 = .ok (.iload_n 2, 1) := by decide +kernel
theorem dX11_counts_11 : decode cX11_counts 11 = .ok (.ifCond .lt 30, 3) := by decide +kernel
theorem dX11_counts_14 : decode cX11_counts 14 = .ok (.aload_n 0, 1) := by decide +kernel
theorem dX11_counts_15 : decode cX11_counts 15 = .ok (.getfield 9, 3) := by decide +kernel
theorem dX11_counts_18 : decode cX11_counts 18 = .ok (.bipush 116, 2) := by decide +kernel
theorem dX11_counts_20 : decode cX11_counts 20 = .ok (.iconst 2, 1) := by decide +kernel
theorem dX11_counts_21 : decode cX11_counts 21 = .ok (.iload_n 2, 1) := by decide +kernel
theorem dX11_counts_22 : decode cX11_counts 22 = .ok (.imul, 1) := by decide +kernel
theorem dX11_counts_23 : decode cX11_counts 23 = .ok (.iadd, 1) := by decide +kernel
theorem dX11_counts_24 : decode cX11_counts 24 = .ok (.iaload, 1) := by decide +kernel
theorem dX11_counts_25 : decode cX11_counts 25 = .ok (.sipush 1000, 3) := by decide +kernel
theorem dX11_counts_28 : decode cX11_counts 28 = .ok (.idiv, 1) := by decide +kernel
theorem dX11_counts_29 : decode cX11_counts 29 = .ok (.iload_n 1, 1) := by decide +kernel
theorem dX11_counts_30 : decode cX11_counts 30 = .ok (.if_icmp .ne 5, 3) := by decide +kernel
theorem dX11_counts_33 : decode cX11_counts 33 = .ok (.iload_n 2, 1) := by decide +kernel
theorem dX11_counts_34 : decode cX11_counts 34 = .ok (.ireturn, 1) := by decide +kernel
theorem dX11_counts_35 : decode cX11_counts 35 = .ok (.iinc 2 (-1), 3) := by decide +kernel
theorem dX11_counts_38 : decode cX11_counts 38 = .ok (.goto (-28), 3) := by decide +kernel
theorem dX11_counts_41 : decode cX11_counts 41 = .ok (.iconst (-1), 1) := by decide +kernel
theorem dX11_counts_42 : decode cX11_counts 42 = .ok (.ireturn, 1) := by decide +kernel
theorem dX11_why_0 : decode cX11_why 0 = .ok (.iload_n 1, 1) := by decide +kernel
theorem dX11_why_1 : decode cX11_why 1 = .ok (.iconst 0, 1) := by decide +kernel
theorem dX11_why_2 : decode cX11_why 2 = .ok (.iconst 2, 1) := by decide +kernel
theorem dX11_why_3 : decode cX11_why 3 = .ok (.invokestatic 78, 3) := by decide +kernel
theorem dX11_why_6 : decode cX11_why 6 = .ok (.ifCond .ne 6, 3) := by decide +kernel
theorem dX11_why_9 : decode cX11_why 9 = .ok (.ldc 90, 2) := by decide +kernel
theorem dX11_why_11 : decode cX11_why 11 = .ok (.ireturn, 1) := by decide +kernel
theorem dX11_why_12 : decode cX11_why 12 = .ok (.aload_n 0, 1) := by decide +kernel
theorem dX11_why_13 : decode cX11_why 13 = .ok (.iload_n 1, 1) := by decide +kernel
theorem dX11_why_14 : decode cX11_why 14 = .ok (.invokevirtual 96, 3) := by decide +kernel
theorem dX11_why_17 : decode cX11_why 17 = .ok (.istore_n 2, 1) := by decide +kernel
theorem dX11_why_18 : decode cX11_why 18 = .ok (.iload_n 2, 1) := by decide +kernel
theorem dX11_why_19 : decode cX11_why 19 = .ok (.ifCond .ge 8, 3) := by decide +kernel
theorem dX11_why_22 : decode cX11_why 22 = .ok (.ldc 152, 2) := by decide +kernel
theorem dX11_why_24 : decode cX11_why 24 = .ok (.goto 4, 3) := by decide +kernel
theorem dX11_why_27 : decode cX11_why 27 = .ok (.iload_n 2, 1) := by decide +kernel
theorem dX11_why_28 : decode cX11_why 28 = .ok (.ireturn, 1) := by decide +kernel
theorem dX11_two_0 : decode cX11_two 0 = .ok (.iload_n 0, 1) := by decide +kernel
theorem dX11_two_1 : decode cX11_two 1 = .ok (.tableswitch 120 (-8) (-1) #[116, 112, 108, 97, 86, 75, 61, 47], 47) := by decide +kernel
theorem dX11_two_48 : decode cX11_two 48 = .ok (.iload_n 1, 1) := by decide +kernel
theorem dX11_two_49 : decode cX11_two 49 = .ok (.ifCond .ne 7, 3) := by decide +kernel
theorem dX11_two_52 : decode cX11_two 52 = .ok (.iload_n 2, 1) := by decide +kernel
theorem dX11_two_53 : decode cX11_two 53 = .ok (.ifCond .eq 7, 3) := by decide +kernel
theorem dX11_two_56 : decode cX11_two 56 = .ok (.iconst 1, 1) := by decide +kernel
theorem dX11_two_57 : decode cX11_two 57 = .ok (.goto 4, 3) := by decide +kernel
theorem dX11_two_60 : decode cX11_two 60 = .ok (.iconst 0, 1) := by decide +kernel
theorem dX11_two_61 : decode cX11_two 61 = .ok (.ireturn, 1) := by decide +kernel
theorem dX11_two_62 : decode cX11_two 62 = .ok (.iload_n 1, 1) := by decide +kernel
theorem dX11_two_63 : decode cX11_two 63 = .ok (.ifCond .eq 11, 3) := by decide +kernel
theorem dX11_two_66 : decode cX11_two 66 = .ok (.iload_n 2, 1) := by decide +kernel
theorem dX11_two_67 : decode cX11_two 67 = .ok (.ifCond .eq 7, 3) := by decide +kernel
theorem dX11_two_70 : decode cX11_two 70 = .ok (.iconst 1, 1) := by decide +kernel
theorem dX11_two_71 : decode cX11_two 71 = .ok (.goto 4, 3) := by decide +kernel
theorem dX11_two_74 : decode cX11_two 74 = .ok (.iconst 0, 1) := by decide +kernel
theorem dX11_two_75 : decode cX11_two 75 = .ok (.ireturn, 1) := by decide +kernel
theorem dX11_two_76 : decode cX11_two 76 = .ok (.iload_n 1, 1) := by decide +kernel
theorem dX11_two_77 : decode cX11_two 77 = .ok (.iload_n 2, 1) := by decide +kernel
theorem dX11_two_78 : decode cX11_two 78 = .ok (.if_icmp .ge 7, 3) := by decide +kernel
theorem dX11_two_81 : decode cX11_two 81 = .ok (.iconst 1, 1) := by decide +kernel
theorem dX11_two_82 : decode cX11_two 82 = .ok (.goto 4, 3) := by decide +kernel
theorem dX11_two_85 : decode cX11_two 85 = .ok (.iconst 0, 1) := by decide +kernel
theorem dX11_two_86 : decode cX11_two 86 = .ok (.ireturn, 1) := by decide +kernel
theorem dX11_two_87 : decode cX11_two 87 = .ok (.iload_n 1, 1) := by decide +kernel
theorem dX11_two_88 : decode cX11_two 88 = .ok (.iload_n 2, 1) := by decide +kernel
theorem dX11_two_89 : decode cX11_two 89 = .ok (.if_icmp .ne 7, 3) := by decide +kernel
theorem dX11_two_92 : decode cX11_two 92 = .ok (.iconst 1, 1) := by decide +kernel
theorem dX11_two_93 : decode cX11_two 93 = .ok (.goto 4, 3) := by decide +kernel
theorem dX11_two_96 : decode cX11_two 96 = .ok (.iconst 0, 1) := by decide +kernel
theorem dX11_two_97 : decode cX11_two 97 = .ok (.ireturn, 1) := by decide +kernel
theorem dX11_two_98 : decode cX11_two 98 = .ok (.iload_n 1, 1) := by decide +kernel
theorem dX11_two_99 : decode cX11_two 99 = .ok (.iload_n 2, 1) := by decide +kernel
theorem dX11_two_100 : decode cX11_two 100 = .ok (.if_icmp .le 7, 3) := by decide +kernel
theorem dX11_two_103 : decode cX11_two 103 = .ok (.iconst 1, 1) := by decide +kernel
theorem dX11_two_104 : decode cX11_two 104 = .ok (.goto 4, 3) := by decide +kernel
theorem dX11_two_107 : decode cX11_two 107 = .ok (.iconst 0, 1) := by decide +kernel
theorem dX11_two_108 : decode cX11_two 108 = .ok (.ireturn, 1) := by decide +kernel
theorem dX11_two_109 : decode cX11_two 109 = .ok (.iload_n 1, 1) := by decide +kernel
theorem dX11_two_110 : decode cX11_two 110 = .ok (.iload_n 2, 1) := by decide +kernel
theorem dX11_two_111 : decode cX11_two 111 = .ok (.iadd, 1) := by decide +kernel
theorem dX11_two_112 : decode cX11_two 112 = .ok (.ireturn, 1) := by decide +kernel
theorem dX11_two_113 : decode cX11_two 113 = .ok (.iload_n 1, 1) := by decide +kernel
theorem dX11_two_114 : decode cX11_two 114 = .ok (.iload_n 2, 1) := by decide +kernel
theorem dX11_two_115 : decode cX11_two 115 = .ok (.isub, 1) := by decide +kernel
theorem dX11_two_116 : decode cX11_two 116 = .ok (.ireturn, 1) := by decide +kernel
theorem dX11_two_117 : decode cX11_two 117 = .ok (.iload_n 1, 1) := by decide +kernel
theorem dX11_two_118 : decode cX11_two 118 = .ok (.iload_n 2, 1) := by decide +kernel
theorem dX11_two_119 : decode cX11_two 119 = .ok (.imul, 1) := by decide +kernel
theorem dX11_two_120 : decode cX11_two 120 = .ok (.ireturn, 1) := by decide +kernel
theorem dX11_two_121 : decode cX11_two 121 = .ok (.iload_n 2, 1) := by decide +kernel
theorem dX11_two_122 : decode cX11_two 122 = .ok (.ifCond .ne 7, 3) := by decide +kernel
theorem dX11_two_125 : decode cX11_two 125 = .ok (.iconst 0, 1) := by decide +kernel
theorem dX11_two_126 : decode cX11_two 126 = .ok (.goto 6, 3) := by decide +kernel
theorem dX11_two_129 : decode cX11_two 129 = .ok (.iload_n 1, 1) := by decide +kernel
theorem dX11_two_130 : decode cX11_two 130 = .ok (.iload_n 2, 1) := by decide +kernel
theorem dX11_two_131 : decode cX11_two 131 = .ok (.idiv, 1) := by decide +kernel
theorem dX11_two_132 : decode cX11_two 132 = .ok (.ireturn, 1) := by decide +kernel
end
section
-- decode rows, by program
theorem dX11_worksOut_0 : decode cX11_worksOut 0 = .ok (.iconst 0, 1) := by decide +kernel
theorem dX11_worksOut_1 : decode cX11_worksOut 1 = .ok (.istore_n 2, 1) := by decide +kernel
theorem dX11_worksOut_2 : decode cX11_worksOut 2 = .ok (.aload_n 0, 1) := by decide +kernel
theorem dX11_worksOut_3 : decode cX11_worksOut 3 = .ok (.getfield 9, 3) := by decide +kernel
theorem dX11_worksOut_6 : decode cX11_worksOut 6 = .ok (.bipush 116, 2) := by decide +kernel
theorem dX11_worksOut_8 : decode cX11_worksOut 8 = .ok (.iconst 2, 1) := by decide +kernel
theorem dX11_worksOut_9 : decode cX11_worksOut 9 = .ok (.iload_n 1, 1) := by decide +kernel
theorem dX11_worksOut_10 : decode cX11_worksOut 10 = .ok (.imul, 1) := by decide +kernel
theorem dX11_worksOut_11 : decode cX11_worksOut 11 = .ok (.iadd, 1) := by decide +kernel
theorem dX11_worksOut_12 : decode cX11_worksOut 12 = .ok (.iaload, 1) := by decide +kernel
theorem dX11_worksOut_13 : decode cX11_worksOut 13 = .ok (.sipush 1000, 3) := by decide +kernel
theorem dX11_worksOut_16 : decode cX11_worksOut 16 = .ok (.irem, 1) := by decide +kernel
theorem dX11_worksOut_17 : decode cX11_worksOut 17 = .ok (.istore_n 3, 1) := by decide +kernel
theorem dX11_worksOut_18 : decode cX11_worksOut 18 = .ok (.iconst 0, 1) := by decide +kernel
theorem dX11_worksOut_19 : decode cX11_worksOut 19 = .ok (.istore 4, 2) := by decide +kernel
theorem dX11_worksOut_21 : decode cX11_worksOut 21 = .ok (.iload 4, 2) := by decide +kernel
theorem dX11_worksOut_23 : decode cX11_worksOut 23 = .ok (.iload_n 3, 1) := by decide +kernel
theorem dX11_worksOut_24 : decode cX11_worksOut 24 = .ok (.if_icmp .ge 132, 3) := by decide +kernel
theorem dX11_worksOut_27 : decode cX11_worksOut 27 = .ok (.aload_n 0, 1) := by decide +kernel
theorem dX11_worksOut_28 : decode cX11_worksOut 28 = .ok (.getfield 9, 3) := by decide +kernel
theorem dX11_worksOut_31 : decode cX11_worksOut 31 = .ok (.sipush 144, 3) := by decide +kernel
theorem dX11_worksOut_34 : decode cX11_worksOut 34 = .ok (.bipush 96, 2) := by decide +kernel
theorem dX11_worksOut_36 : decode cX11_worksOut 36 = .ok (.iload_n 1, 1) := by decide +kernel
theorem dX11_worksOut_37 : decode cX11_worksOut 37 = .ok (.imul, 1) := by decide +kernel
theorem dX11_worksOut_38 : decode cX11_worksOut 38 = .ok (.iadd, 1) := by decide +kernel
theorem dX11_worksOut_39 : decode cX11_worksOut 39 = .ok (.iload 4, 2) := by decide +kernel
theorem dX11_worksOut_41 : decode cX11_worksOut 41 = .ok (.iadd, 1) := by decide +kernel
theorem dX11_worksOut_42 : decode cX11_worksOut 42 = .ok (.iaload, 1) := by decide +kernel
theorem dX11_worksOut_43 : decode cX11_worksOut 43 = .ok (.istore 5, 2) := by decide +kernel
theorem dX11_worksOut_45 : decode cX11_worksOut 45 = .ok (.iload 5, 2) := by decide +kernel
theorem dX11_worksOut_47 : decode cX11_worksOut 47 = .ok (.ifCond .lt 39, 3) := by decide +kernel
theorem dX11_worksOut_50 : decode cX11_worksOut 50 = .ok (.aload_n 0, 1) := by decide +kernel
theorem dX11_worksOut_51 : decode cX11_worksOut 51 = .ok (.getfield 45, 3) := by decide +kernel
theorem dX11_worksOut_54 : decode cX11_worksOut 54 = .ok (.iload_n 2, 1) := by decide +kernel
theorem dX11_worksOut_55 : decode cX11_worksOut 55 = .ok (.iload 5, 2) := by decide +kernel
theorem dX11_worksOut_57 : decode cX11_worksOut 57 = .ok (.sipush 10000, 3) := by decide +kernel
theorem dX11_worksOut_60 : decode cX11_worksOut 60 = .ok (.if_icmp .ge 8, 3) := by decide +kernel
theorem dX11_worksOut_63 : decode cX11_worksOut 63 = .ok (.iload 5, 2) := by decide +kernel
theorem dX11_worksOut_65 : decode cX11_worksOut 65 = .ok (.goto 14, 3) := by decide +kernel
theorem dX11_worksOut_68 : decode cX11_worksOut 68 = .ok (.aload_n 0, 1) := by decide +kernel
theorem dX11_worksOut_69 : decode cX11_worksOut 69 = .ok (.getfield 48, 3) := by decide +kernel
theorem dX11_worksOut_72 : decode cX11_worksOut 72 = .ok (.iload 5, 2) := by decide +kernel
theorem dX11_worksOut_74 : decode cX11_worksOut 74 = .ok (.sipush 10000, 3) := by decide +kernel
theorem dX11_worksOut_77 : decode cX11_worksOut 77 = .ok (.isub, 1) := by decide +kernel
theorem dX11_worksOut_78 : decode cX11_worksOut 78 = .ok (.iaload, 1) := by decide +kernel
theorem dX11_worksOut_79 : decode cX11_worksOut 79 = .ok (.iastore, 1) := by decide +kernel
theorem dX11_worksOut_80 : decode cX11_worksOut 80 = .ok (.iinc 2 1, 3) := by decide +kernel
theorem dX11_worksOut_83 : decode cX11_worksOut 83 = .ok (.goto 67, 3) := by decide +kernel
theorem dX11_worksOut_86 : decode cX11_worksOut 86 = .ok (.iload 5, 2) := by decide +kernel
theorem dX11_worksOut_88 : decode cX11_worksOut 88 = .ok (.bipush (-10), 2) := by decide +kernel
theorem dX11_worksOut_90 : decode cX11_worksOut 90 = .ok (.if_icmp .ne 30, 3) := by decide +kernel
theorem dX11_worksOut_93 : decode cX11_worksOut 93 = .ok (.aload_n 0, 1) := by decide +kernel
theorem dX11_worksOut_94 : decode cX11_worksOut 94 = .ok (.getfield 45, 3) := by decide +kernel
theorem dX11_worksOut_97 : decode cX11_worksOut 97 = .ok (.iload_n 2, 1) := by decide +kernel
theorem dX11_worksOut_98 : decode cX11_worksOut 98 = .ok (.iconst 1, 1) := by decide +kernel
theorem dX11_worksOut_99 : decode cX11_worksOut 99 = .ok (.isub, 1) := by decide +kernel
theorem dX11_worksOut_100 : decode cX11_worksOut 100 = .ok (.aload_n 0, 1) := by decide +kernel
theorem dX11_worksOut_101 : decode cX11_worksOut 101 = .ok (.getfield 45, 3) := by decide +kernel
theorem dX11_worksOut_104 : decode cX11_worksOut 104 = .ok (.iload_n 2, 1) := by decide +kernel
theorem dX11_worksOut_105 : decode cX11_worksOut 105 = .ok (.iconst 1, 1) := by decide +kernel
theorem dX11_worksOut_106 : decode cX11_worksOut 106 = .ok (.isub, 1) := by decide +kernel
theorem dX11_worksOut_107 : decode cX11_worksOut 107 = .ok (.iaload, 1) := by decide +kernel
theorem dX11_worksOut_108 : decode cX11_worksOut 108 = .ok (.ifCond .ne 7, 3) := by decide +kernel
theorem dX11_worksOut_111 : decode cX11_worksOut 111 = .ok (.iconst 1, 1) := by decide +kernel
theorem dX11_worksOut_112 : decode cX11_worksOut 112 = .ok (.goto 4, 3) := by decide +kernel
theorem dX11_worksOut_115 : decode cX11_worksOut 115 = .ok (.iconst 0, 1) := by decide +kernel
theorem dX11_worksOut_116 : decode cX11_worksOut 116 = .ok (.iastore, 1) := by decide +kernel
theorem dX11_worksOut_117 : decode cX11_worksOut 117 = .ok (.goto 33, 3) := by decide +kernel
theorem dX11_worksOut_120 : decode cX11_worksOut 120 = .ok (.iinc 2 (-1), 3) := by decide +kernel
theorem dX11_worksOut_123 : decode cX11_worksOut 123 = .ok (.aload_n 0, 1) := by decide +kernel
theorem dX11_worksOut_124 : decode cX11_worksOut 124 = .ok (.getfield 45, 3) := by decide +kernel
theorem dX11_worksOut_127 : decode cX11_worksOut 127 = .ok (.iload_n 2, 1) := by decide +kernel
theorem dX11_worksOut_128 : decode cX11_worksOut 128 = .ok (.iconst 1, 1) := by decide +kernel
theorem dX11_worksOut_129 : decode cX11_worksOut 129 = .ok (.isub, 1) := by decide +kernel
theorem dX11_worksOut_130 : decode cX11_worksOut 130 = .ok (.iload 5, 2) := by decide +kernel
theorem dX11_worksOut_132 : decode cX11_worksOut 132 = .ok (.aload_n 0, 1) := by decide +kernel
theorem dX11_worksOut_133 : decode cX11_worksOut 133 = .ok (.getfield 45, 3) := by decide +kernel
theorem dX11_worksOut_136 : decode cX11_worksOut 136 = .ok (.iload_n 2, 1) := by decide +kernel
theorem dX11_worksOut_137 : decode cX11_worksOut 137 = .ok (.iconst 1, 1) := by decide +kernel
theorem dX11_worksOut_138 : decode cX11_worksOut 138 = .ok (.isub, 1) := by decide +kernel
theorem dX11_worksOut_139 : decode cX11_worksOut 139 = .ok (.iaload, 1) := by decide +kernel
theorem dX11_worksOut_140 : decode cX11_worksOut 140 = .ok (.aload_n 0, 1) := by decide +kernel
theorem dX11_worksOut_141 : decode cX11_worksOut 141 = .ok (.getfield 45, 3) := by decide +kernel
theorem dX11_worksOut_144 : decode cX11_worksOut 144 = .ok (.iload_n 2, 1) := by decide +kernel
theorem dX11_worksOut_145 : decode cX11_worksOut 145 = .ok (.iaload, 1) := by decide +kernel
theorem dX11_worksOut_146 : decode cX11_worksOut 146 = .ok (.invokestatic 251, 3) := by decide +kernel
theorem dX11_worksOut_149 : decode cX11_worksOut 149 = .ok (.iastore, 1) := by decide +kernel
theorem dX11_worksOut_150 : decode cX11_worksOut 150 = .ok (.iinc 4 1, 3) := by decide +kernel
theorem dX11_worksOut_153 : decode cX11_worksOut 153 = .ok (.goto (-132), 3) := by decide +kernel
theorem dX11_worksOut_156 : decode cX11_worksOut 156 = .ok (.aload_n 0, 1) := by decide +kernel
theorem dX11_worksOut_157 : decode cX11_worksOut 157 = .ok (.getfield 45, 3) := by decide +kernel
theorem dX11_worksOut_160 : decode cX11_worksOut 160 = .ok (.iconst 0, 1) := by decide +kernel
theorem dX11_worksOut_161 : decode cX11_worksOut 161 = .ok (.iaload, 1) := by decide +kernel
theorem dX11_worksOut_162 : decode cX11_worksOut 162 = .ok (.ireturn, 1) := by decide +kernel
theorem dX11_isSheet_0 : decode cX11_isSheet 0 = .ok (.iload_n 0, 1) := by decide +kernel
theorem dX11_isSheet_1 : decode cX11_isSheet 1 = .ok (.iconst 0, 1) := by decide +kernel
theorem dX11_isSheet_2 : decode cX11_isSheet 2 = .ok (.iconst 3, 1) := by decide +kernel
theorem dX11_isSheet_3 : decode cX11_isSheet 3 = .ok (.invokestatic 78, 3) := by decide +kernel
theorem dX11_isSheet_6 : decode cX11_isSheet 6 = .ok (.ireturn, 1) := by decide +kernel
theorem dX11_isSlot_0 : decode cX11_isSlot 0 = .ok (.iload_n 0, 1) := by decide +kernel
theorem dX11_isSlot_1 : decode cX11_isSlot 1 = .ok (.iconst 0, 1) := by decide +kernel
theorem dX11_isSlot_2 : decode cX11_isSlot 2 = .ok (.iconst 4, 1) := by decide +kernel
theorem dX11_isSlot_3 : decode cX11_isSlot 3 = .ok (.invokestatic 78, 3) := by decide +kernel
theorem dX11_isSlot_6 : decode cX11_isSlot 6 = .ok (.ireturn, 1) := by decide +kernel
theorem dX11_sheet_0 : decode cX11_sheet 0 = .ok (.iload_n 1, 1) := by decide +kernel
theorem dX11_sheet_1 : decode cX11_sheet 1 = .ok (.invokestatic 178, 3) := by decide +kernel
theorem dX11_sheet_4 : decode cX11_sheet 4 = .ok (.ifCond .eq 22, 3) := by decide +kernel
theorem dX11_sheet_7 : decode cX11_sheet 7 = .ok (.iload_n 2, 1) := by decide +kernel
theorem dX11_sheet_8 : decode cX11_sheet 8 = .ok (.iconst (-1), 1) := by decide +kernel
theorem dX11_sheet_9 : decode cX11_sheet 9 = .ok (.iconst 1, 1) := by decide +kernel
theorem dX11_sheet_10 : decode cX11_sheet 10 = .ok (.invokestatic 78, 3) := by decide +kernel
theorem dX11_sheet_13 : decode cX11_sheet 13 = .ok (.ifCond .eq 13, 3) := by decide +kernel
theorem dX11_sheet_16 : decode cX11_sheet 16 = .ok (.iload_n 2, 1) := by decide +kernel
theorem dX11_sheet_17 : decode cX11_sheet 17 = .ok (.ifCond .lt 12, 3) := by decide +kernel
theorem dX11_sheet_20 : decode cX11_sheet 20 = .ok (.iload_n 3, 1) := by decide +kernel
theorem dX11_sheet_21 : decode cX11_sheet 21 = .ok (.bipush 24, 2) := by decide +kernel
theorem dX11_sheet_23 : decode cX11_sheet 23 = .ok (.if_icmp .le 6, 3) := by decide +kernel
theorem dX11_sheet_26 : decode cX11_sheet 26 = .ok (.ldc 90, 2) := by decide +kernel
theorem dX11_sheet_28 : decode cX11_sheet 28 = .ok (.ireturn, 1) := by decide +kernel
theorem dX11_sheet_29 : decode cX11_sheet 29 = .ok (.iload_n 2, 1) := by decide +kernel
theorem dX11_sheet_30 : decode cX11_sheet 30 = .ok (.ifCond .lt 10, 3) := by decide +kernel
theorem dX11_sheet_33 : decode cX11_sheet 33 = .ok (.iload_n 3, 1) := by decide +kernel
theorem dX11_sheet_34 : decode cX11_sheet 34 = .ok (.ifCond .ge 6, 3) := by decide +kernel
theorem dX11_sheet_37 : decode cX11_sheet 37 = .ok (.ldc 254, 2) := by decide +kernel
theorem dX11_sheet_39 : decode cX11_sheet 39 = .ok (.ireturn, 1) := by decide +kernel
theorem dX11_sheet_40 : decode cX11_sheet 40 = .ok (.aload_n 0, 1) := by decide +kernel
theorem dX11_sheet_41 : decode cX11_sheet 41 = .ok (.getfield 51, 3) := by decide +kernel
theorem dX11_sheet_44 : decode cX11_sheet 44 = .ok (.iload_n 1, 1) := by decide +kernel
theorem dX11_sheet_45 : decode cX11_sheet 45 = .ok (.iload_n 2, 1) := by decide +kernel
theorem dX11_sheet_46 : decode cX11_sheet 46 = .ok (.iastore, 1) := by decide +kernel
theorem dX11_sheet_47 : decode cX11_sheet 47 = .ok (.aload_n 0, 1) := by decide +kernel
theorem dX11_sheet_48 : decode cX11_sheet 48 = .ok (.getfield 54, 3) := by decide +kernel
theorem dX11_sheet_51 : decode cX11_sheet 51 = .ok (.iload_n 1, 1) := by decide +kernel
theorem dX11_sheet_52 : decode cX11_sheet 52 = .ok (.iload_n 2, 1) := by decide +kernel
theorem dX11_sheet_53 : decode cX11_sheet 53 = .ok (.ifCond .ge 7, 3) := by decide +kernel
theorem dX11_sheet_56 : decode cX11_sheet 56 = .ok (.iconst 0, 1) := by decide +kernel
theorem dX11_sheet_57 : decode cX11_sheet 57 = .ok (.goto 4, 3) := by decide +kernel
theorem dX11_sheet_60 : decode cX11_sheet 60 = .ok (.iload_n 3, 1) := by decide +kernel
theorem dX11_sheet_61 : decode cX11_sheet 61 = .ok (.iastore, 1) := by decide +kernel
theorem dX11_sheet_62 : decode cX11_sheet 62 = .ok (.iconst 0, 1) := by decide +kernel
theorem dX11_sheet_63 : decode cX11_sheet 63 = .ok (.istore 4, 2) := by decide +kernel
theorem dX11_sheet_65 : decode cX11_sheet 65 = .ok (.iload 4, 2) := by decide +kernel
theorem dX11_sheet_67 : decode cX11_sheet 67 = .ok (.bipush 24, 2) := by decide +kernel
theorem dX11_sheet_69 : decode cX11_sheet 69 = .ok (.if_icmp .ge 22, 3) := by decide +kernel
theorem dX11_sheet_72 : decode cX11_sheet 72 = .ok (.aload_n 0, 1) := by decide +kernel
theorem dX11_sheet_73 : decode cX11_sheet 73 = .ok (.getfield 57, 3) := by decide +kernel
theorem dX11_sheet_76 : decode cX11_sheet 76 = .ok (.bipush 24, 2) := by decide +kernel
theorem dX11_sheet_78 : decode cX11_sheet 78 = .ok (.iload_n 1, 1) := by decide +kernel
theorem dX11_sheet_79 : decode cX11_sheet 79 = .ok (.imul, 1) := by decide +kernel
theorem dX11_sheet_80 : decode cX11_sheet 80 = .ok (.iload 4, 2) := by decide +kernel
theorem dX11_sheet_82 : decode cX11_sheet 82 = .ok (.iadd, 1) := by decide +kernel
theorem dX11_sheet_83 : decode cX11_sheet 83 = .ok (.iconst 0, 1) := by decide +kernel
theorem dX11_sheet_84 : decode cX11_sheet 84 = .ok (.iastore, 1) := by decide +kernel
theorem dX11_sheet_85 : decode cX11_sheet 85 = .ok (.iinc 4 1, 3) := by decide +kernel
theorem dX11_sheet_88 : decode cX11_sheet 88 = .ok (.goto (-23), 3) := by decide +kernel
theorem dX11_sheet_91 : decode cX11_sheet 91 = .ok (.aload_n 0, 1) := by decide +kernel
theorem dX11_sheet_92 : decode cX11_sheet 92 = .ok (.getfield 54, 3) := by decide +kernel
theorem dX11_sheet_95 : decode cX11_sheet 95 = .ok (.iload_n 1, 1) := by decide +kernel
theorem dX11_sheet_96 : decode cX11_sheet 96 = .ok (.iaload, 1) := by decide +kernel
theorem dX11_sheet_97 : decode cX11_sheet 97 = .ok (.ireturn, 1) := by decide +kernel
theorem dX11_mark_0 : decode cX11_mark 0 = .ok (.iload_n 1, 1) := by decide +kernel
theorem dX11_mark_1 : decode cX11_mark 1 = .ok (.invokestatic 178, 3) := by decide +kernel
theorem dX11_mark_4 : decode cX11_mark 4 = .ok (.ifCond .ne 6, 3) := by decide +kernel
theorem dX11_mark_7 : decode cX11_mark 7 = .ok (.ldc 90, 2) := by decide +kernel
theorem dX11_mark_9 : decode cX11_mark 9 = .ok (.ireturn, 1) := by decide +kernel
theorem dX11_mark_10 : decode cX11_mark 10 = .ok (.aload_n 0, 1) := by decide +kernel
theorem dX11_mark_11 : decode cX11_mark 11 = .ok (.getfield 51, 3) := by decide +kernel
theorem dX11_mark_14 : decode cX11_mark 14 = .ok (.iload_n 1, 1) := by decide +kernel
theorem dX11_mark_15 : decode cX11_mark 15 = .ok (.iaload, 1) := by decide +kernel
theorem dX11_mark_16 : decode cX11_mark 16 = .ok (.ifCond .ge 6, 3) := by decide +kernel
theorem dX11_mark_19 : decode cX11_mark 19 = .ok (.ldc 181, 2) := by decide +kernel
theorem dX11_mark_21 : decode cX11_mark 21 = .ok (.ireturn, 1) := by decide +kernel
theorem dX11_mark_22 : decode cX11_mark 22 = .ok (.iload_n 2, 1) := by decide +kernel
theorem dX11_mark_23 : decode cX11_mark 23 = .ok (.iconst 0, 1) := by decide +kernel
theorem dX11_mark_24 : decode cX11_mark 24 = .ok (.aload_n 0, 1) := by decide +kernel
theorem dX11_mark_25 : decode cX11_mark 25 = .ok (.getfield 54, 3) := by decide +kernel
theorem dX11_mark_28 : decode cX11_mark 28 = .ok (.iload_n 1, 1) := by decide +kernel
theorem dX11_mark_29 : decode cX11_mark 29 = .ok (.iaload, 1) := by decide +kernel
theorem dX11_mark_30 : decode cX11_mark 30 = .ok (.iconst 1, 1) := by decide +kernel
theorem dX11_mark_31 : decode cX11_mark 31 = .ok (.isub, 1) := by decide +kernel
theorem dX11_mark_32 : decode cX11_mark 32 = .ok (.invokestatic 78, 3) := by decide +kernel
theorem dX11_mark_35 : decode cX11_mark 35 = .ok (.ifCond .ne 6, 3) := by decide +kernel
theorem dX11_mark_38 : decode cX11_mark 38 = .ok (.ldc 255, 2) := by decide +kernel
theorem dX11_mark_40 : decode cX11_mark 40 = .ok (.ireturn, 1) := by decide +kernel
theorem dX11_mark_41 : decode cX11_mark 41 = .ok (.aload_n 0, 1) := by decide +kernel
theorem dX11_mark_42 : decode cX11_mark 42 = .ok (.getfield 51, 3) := by decide +kernel
theorem dX11_mark_45 : decode cX11_mark 45 = .ok (.iload_n 1, 1) := by decide +kernel
theorem dX11_mark_46 : decode cX11_mark 46 = .ok (.iaload, 1) := by decide +kernel
theorem dX11_mark_47 : decode cX11_mark 47 = .ok (.ifCond .ne 12, 3) := by decide +kernel
theorem dX11_mark_50 : decode cX11_mark 50 = .ok (.iload_n 3, 1) := by decide +kernel
theorem dX11_mark_51 : decode cX11_mark 51 = .ok (.ldc 152, 2) := by decide +kernel
theorem dX11_mark_53 : decode cX11_mark 53 = .ok (.if_icmp .ne 6, 3) := by decide +kernel
theorem dX11_mark_56 : decode cX11_mark 56 = .ok (.ldc 133, 2) := by decide +kernel
theorem dX11_mark_58 : decode cX11_mark 58 = .ok (.ireturn, 1) := by decide +kernel
theorem dX11_mark_59 : decode cX11_mark 59 = .ok (.aload_n 0, 1) := by decide +kernel
theorem dX11_mark_60 : decode cX11_mark 60 = .ok (.getfield 51, 3) := by decide +kernel
theorem dX11_mark_63 : decode cX11_mark 63 = .ok (.iload_n 1, 1) := by decide +kernel
theorem dX11_mark_64 : decode cX11_mark 64 = .ok (.iaload, 1) := by decide +kernel
theorem dX11_mark_65 : decode cX11_mark 65 = .ok (.iconst 1, 1) := by decide +kernel
theorem dX11_mark_66 : decode cX11_mark 66 = .ok (.if_icmp .ne 25, 3) := by decide +kernel
theorem dX11_mark_69 : decode cX11_mark 69 = .ok (.iload_n 3, 1) := by decide +kernel
theorem dX11_mark_70 : decode cX11_mark 70 = .ok (.ldc 152, 2) := by decide +kernel
theorem dX11_mark_72 : decode cX11_mark 72 = .ok (.if_icmp .eq 19, 3) := by decide +kernel
theorem dX11_mark_75 : decode cX11_mark 75 = .ok (.iload_n 3, 1) := by decide +kernel
theorem dX11_mark_76 : decode cX11_mark 76 = .ok (.ldc_w 256, 3) := by decide +kernel
theorem dX11_mark_79 : decode cX11_mark 79 = .ok (.ldc_w 257, 3) := by decide +kernel
theorem dX11_mark_82 : decode cX11_mark 82 = .ok (.invokestatic 78, 3) := by decide +kernel
theorem dX11_mark_85 : decode cX11_mark 85 = .ok (.ifCond .ne 6, 3) := by decide +kernel
theorem dX11_mark_88 : decode cX11_mark 88 = .ok (.ldc 90, 2) := by decide +kernel
theorem dX11_mark_90 : decode cX11_mark 90 = .ok (.ireturn, 1) := by decide +kernel
theorem dX11_mark_91 : decode cX11_mark 91 = .ok (.aload_n 0, 1) := by decide +kernel
theorem dX11_mark_92 : decode cX11_mark 92 = .ok (.getfield 57, 3) := by decide +kernel
theorem dX11_mark_95 : decode cX11_mark 95 = .ok (.bipush 24, 2) := by decide +kernel
theorem dX11_mark_97 : decode cX11_mark 97 = .ok (.iload_n 1, 1) := by decide +kernel
theorem dX11_mark_98 : decode cX11_mark 98 = .ok (.imul, 1) := by decide +kernel
theorem dX11_mark_99 : decode cX11_mark 99 = .ok (.iload_n 2, 1) := by decide +kernel
theorem dX11_mark_100 : decode cX11_mark 100 = .ok (.iadd, 1) := by decide +kernel
theorem dX11_mark_101 : decode cX11_mark 101 = .ok (.aload_n 0, 1) := by decide +kernel
theorem dX11_mark_102 : decode cX11_mark 102 = .ok (.getfield 51, 3) := by decide +kernel
theorem dX11_mark_105 : decode cX11_mark 105 = .ok (.iload_n 1, 1) := by decide +kernel
theorem dX11_mark_106 : decode cX11_mark 106 = .ok (.iaload, 1) := by decide +kernel
theorem dX11_mark_107 : decode cX11_mark 107 = .ok (.ifCond .ne 8, 3) := by decide +kernel
theorem dX11_mark_110 : decode cX11_mark 110 = .ok (.iload_n 3, 1) := by decide +kernel
theorem dX11_mark_111 : decode cX11_mark 111 = .ok (.i2s, 1) := by decide +kernel
theorem dX11_mark_112 : decode cX11_mark 112 = .ok (.goto 4, 3) := by decide +kernel
theorem dX11_mark_115 : decode cX11_mark 115 = .ok (.iload_n 3, 1) := by decide +kernel
theorem dX11_mark_116 : decode cX11_mark 116 = .ok (.iastore, 1) := by decide +kernel
theorem dX11_mark_117 : decode cX11_mark 117 = .ok (.iconst 1, 1) := by decide +kernel
theorem dX11_mark_118 : decode cX11_mark 118 = .ok (.ireturn, 1) := by decide +kernel
theorem dX11_pour_0 : decode cX11_pour 0 = .ok (.iload_n 1, 1) := by decide +kernel
theorem dX11_pour_1 : decode cX11_pour 1 = .ok (.invokestatic 178, 3) := by decide +kernel
theorem dX11_pour_4 : decode cX11_pour 4 = .ok (.ifCond .ne 6, 3) := by decide +kernel
theorem dX11_pour_7 : decode cX11_pour 7 = .ok (.ldc 90, 2) := by decide +kernel
theorem dX11_pour_9 : decode cX11_pour 9 = .ok (.ireturn, 1) := by decide +kernel
theorem dX11_pour_10 : decode cX11_pour 10 = .ok (.aload_n 0, 1) := by decide +kernel
theorem dX11_pour_11 : decode cX11_pour 11 = .ok (.getfield 51, 3) := by decide +kernel
theorem dX11_pour_14 : decode cX11_pour 14 = .ok (.iload_n 1, 1) := by decide +kernel
theorem dX11_pour_15 : decode cX11_pour 15 = .ok (.iaload, 1) := by decide +kernel
theorem dX11_pour_16 : decode cX11_pour 16 = .ok (.ifCond .ge 6, 3) := by decide +kernel
theorem dX11_pour_19 : decode cX11_pour 19 = .ok (.ldc 181, 2) := by decide +kernel
theorem dX11_pour_21 : decode cX11_pour 21 = .ok (.ireturn, 1) := by decide +kernel
theorem dX11_pour_22 : decode cX11_pour 22 = .ok (.iconst 0, 1) := by decide +kernel
theorem dX11_pour_23 : decode cX11_pour 23 = .ok (.istore_n 2, 1) := by decide +kernel
theorem dX11_pour_24 : decode cX11_pour 24 = .ok (.iconst 0, 1) := by decide +kernel
theorem dX11_pour_25 : decode cX11_pour 25 = .ok (.istore_n 3, 1) := by decide +kernel
theorem dX11_pour_26 : decode cX11_pour 26 = .ok (.iload_n 3, 1) := by decide +kernel
theorem dX11_pour_27 : decode cX11_pour 27 = .ok (.aload_n 0, 1) := by decide +kernel
theorem dX11_pour_28 : decode cX11_pour 28 = .ok (.getfield 54, 3) := by decide +kernel
theorem dX11_pour_31 : decode cX11_pour 31 = .ok (.iload_n 1, 1) := by decide +kernel
theorem dX11_pour_32 : decode cX11_pour 32 = .ok (.iaload, 1) := by decide +kernel
theorem dX11_pour_33 : decode cX11_pour 33 = .ok (.if_icmp .ge 86, 3) := by decide +kernel
theorem dX11_pour_36 : decode cX11_pour 36 = .ok (.iload_n 3, 1) := by decide +kernel
theorem dX11_pour_37 : decode cX11_pour 37 = .ok (.aload_n 0, 1) := by decide +kernel
theorem dX11_pour_38 : decode cX11_pour 38 = .ok (.getfield 9, 3) := by decide +kernel
theorem dX11_pour_41 : decode cX11_pour 41 = .ok (.iconst 1, 1) := by decide +kernel
theorem dX11_pour_42 : decode cX11_pour 42 = .ok (.iaload, 1) := by decide +kernel
theorem dX11_pour_43 : decode cX11_pour 43 = .ok (.if_icmp .ge 76, 3) := by decide +kernel
theorem dX11_pour_46 : decode cX11_pour 46 = .ok (.aload_n 0, 1) := by decide +kernel
theorem dX11_pour_47 : decode cX11_pour 47 = .ok (.getfield 57, 3) := by decide +kernel
theorem dX11_pour_50 : decode cX11_pour 50 = .ok (.bipush 24, 2) := by decide +kernel
theorem dX11_pour_52 : decode cX11_pour 52 = .ok (.iload_n 1, 1) := by decide +kernel
theorem dX11_pour_53 : decode cX11_pour 53 = .ok (.imul, 1) := by decide +kernel
theorem dX11_pour_54 : decode cX11_pour 54 = .ok (.iload_n 3, 1) := by decide +kernel
theorem dX11_pour_55 : decode cX11_pour 55 = .ok (.iadd, 1) := by decide +kernel
theorem dX11_pour_56 : decode cX11_pour 56 = .ok (.iaload, 1) := by decide +kernel
theorem dX11_pour_57 : decode cX11_pour 57 = .ok (.istore 4, 2) := by decide +kernel
theorem dX11_pour_59 : decode cX11_pour 59 = .ok (.iload 4, 2) := by decide +kernel
theorem dX11_pour_61 : decode cX11_pour 61 = .ok (.ldc 152, 2) := by decide +kernel
theorem dX11_pour_63 : decode cX11_pour 63 = .ok (.if_icmp .ne 12, 3) := by decide +kernel
theorem dX11_pour_66 : decode cX11_pour 66 = .ok (.aload_n 0, 1) := by decide +kernel
theorem dX11_pour_67 : decode cX11_pour 67 = .ok (.iload_n 3, 1) := by decide +kernel
theorem dX11_pour_68 : decode cX11_pour 68 = .ok (.iconst 1, 1) := by decide +kernel
theorem dX11_pour_69 : decode cX11_pour 69 = .ok (.invokevirtual 110, 3) := by decide +kernel
theorem dX11_pour_72 : decode cX11_pour 72 = .ok (.goto 12, 3) := by decide +kernel
theorem dX11_pour_75 : decode cX11_pour 75 = .ok (.iload 4, 2) := by decide +kernel
theorem dX11_pour_77 : decode cX11_pour 77 = .ok (.iconst 0, 1) := by decide +kernel
theorem dX11_pour_78 : decode cX11_pour 78 = .ok (.sipush 999, 3) := by decide +kernel
theorem dX11_pour_81 : decode cX11_pour 81 = .ok (.invokestatic 107, 3) := by decide +kernel
theorem dX11_pour_84 : decode cX11_pour 84 = .ok (.istore 5, 2) := by decide +kernel
theorem dX11_pour_86 : decode cX11_pour 86 = .ok (.iload_n 2, 1) := by decide +kernel
theorem dX11_pour_87 : decode cX11_pour 87 = .ok (.aload_n 0, 1) := by decide +kernel
theorem dX11_pour_88 : decode cX11_pour 88 = .ok (.bipush 76, 2) := by decide +kernel
theorem dX11_pour_90 : decode cX11_pour 90 = .ok (.iconst 4, 1) := by decide +kernel
theorem dX11_pour_91 : decode cX11_pour 91 = .ok (.iload_n 3, 1) := by decide +kernel
theorem dX11_pour_92 : decode cX11_pour 92 = .ok (.imul, 1) := by decide +kernel
theorem dX11_pour_93 : decode cX11_pour 93 = .ok (.iadd, 1) := by decide +kernel
theorem dX11_pour_94 : decode cX11_pour 94 = .ok (.iconst 1, 1) := by decide +kernel
theorem dX11_pour_95 : decode cX11_pour 95 = .ok (.iadd, 1) := by decide +kernel
theorem dX11_pour_96 : decode cX11_pour 96 = .ok (.iload 5, 2) := by decide +kernel
theorem dX11_pour_98 : decode cX11_pour 98 = .ok (.invokevirtual 134, 3) := by decide +kernel
theorem dX11_pour_101 : decode cX11_pour 101 = .ok (.iload 5, 2) := by decide +kernel
theorem dX11_pour_103 : decode cX11_pour 103 = .ok (.if_icmp .ne 7, 3) := by decide +kernel
theorem dX11_pour_106 : decode cX11_pour 106 = .ok (.iconst 0, 1) := by decide +kernel
theorem dX11_pour_107 : decode cX11_pour 107 = .ok (.goto 4, 3) := by decide +kernel
theorem dX11_pour_110 : decode cX11_pour 110 = .ok (.iconst 1, 1) := by decide +kernel
theorem dX11_pour_111 : decode cX11_pour 111 = .ok (.iadd, 1) := by decide +kernel
theorem dX11_pour_112 : decode cX11_pour 112 = .ok (.istore_n 2, 1) := by decide +kernel
theorem dX11_pour_113 : decode cX11_pour 113 = .ok (.iinc 3 1, 3) := by decide +kernel
theorem dX11_pour_116 : decode cX11_pour 116 = .ok (.goto (-90), 3) := by decide +kernel
theorem dX11_pour_119 : decode cX11_pour 119 = .ok (.iload_n 2, 1) := by decide +kernel
theorem dX11_pour_120 : decode cX11_pour 120 = .ok (.ireturn, 1) := by decide +kernel
theorem dX11_reads_0 : decode cX11_reads 0 = .ok (.iload_n 1, 1) := by decide +kernel
theorem dX11_reads_1 : decode cX11_reads 1 = .ok (.invokestatic 178, 3) := by decide +kernel
theorem dX11_reads_4 : decode cX11_reads 4 = .ok (.ifCond .ne 6, 3) := by decide +kernel
theorem dX11_reads_7 : decode cX11_reads 7 = .ok (.ldc 90, 2) := by decide +kernel
theorem dX11_reads_9 : decode cX11_reads 9 = .ok (.ireturn, 1) := by decide +kernel
theorem dX11_reads_10 : decode cX11_reads 10 = .ok (.aload_n 0, 1) := by decide +kernel
theorem dX11_reads_11 : decode cX11_reads 11 = .ok (.getfield 51, 3) := by decide +kernel
theorem dX11_reads_14 : decode cX11_reads 14 = .ok (.iload_n 1, 1) := by decide +kernel
theorem dX11_reads_15 : decode cX11_reads 15 = .ok (.iaload, 1) := by decide +kernel
theorem dX11_reads_16 : decode cX11_reads 16 = .ok (.ifCond .ge 6, 3) := by decide +kernel
theorem dX11_reads_19 : decode cX11_reads 19 = .ok (.ldc 181, 2) := by decide +kernel
theorem dX11_reads_21 : decode cX11_reads 21 = .ok (.ireturn, 1) := by decide +kernel
theorem dX11_reads_22 : decode cX11_reads 22 = .ok (.iconst 0, 1) := by decide +kernel
theorem dX11_reads_23 : decode cX11_reads 23 = .ok (.istore_n 2, 1) := by decide +kernel
theorem dX11_reads_24 : decode cX11_reads 24 = .ok (.iload_n 2, 1) := by decide +kernel
theorem dX11_reads_25 : decode cX11_reads 25 = .ok (.aload_n 0, 1) := by decide +kernel
theorem dX11_reads_26 : decode cX11_reads 26 = .ok (.getfield 54, 3) := by decide +kernel
theorem dX11_reads_29 : decode cX11_reads 29 = .ok (.iload_n 1, 1) := by decide +kernel
theorem dX11_reads_30 : decode cX11_reads 30 = .ok (.iaload, 1) := by decide +kernel
theorem dX11_reads_31 : decode cX11_reads 31 = .ok (.if_icmp .ge 57, 3) := by decide +kernel
theorem dX11_reads_34 : decode cX11_reads 34 = .ok (.aload_n 0, 1) := by decide +kernel
theorem dX11_reads_35 : decode cX11_reads 35 = .ok (.getfield 57, 3) := by decide +kernel
theorem dX11_reads_38 : decode cX11_reads 38 = .ok (.bipush 24, 2) := by decide +kernel
theorem dX11_reads_40 : decode cX11_reads 40 = .ok (.iload_n 1, 1) := by decide +kernel
theorem dX11_reads_41 : decode cX11_reads 41 = .ok (.imul, 1) := by decide +kernel
theorem dX11_reads_42 : decode cX11_reads 42 = .ok (.iload_n 2, 1) := by decide +kernel
theorem dX11_reads_43 : decode cX11_reads 43 = .ok (.iadd, 1) := by decide +kernel
theorem dX11_reads_44 : decode cX11_reads 44 = .ok (.iaload, 1) := by decide +kernel
theorem dX11_reads_45 : decode cX11_reads 45 = .ok (.istore_n 3, 1) := by decide +kernel
theorem dX11_reads_46 : decode cX11_reads 46 = .ok (.iload_n 3, 1) := by decide +kernel
theorem dX11_reads_47 : decode cX11_reads 47 = .ok (.ldc 152, 2) := by decide +kernel
theorem dX11_reads_49 : decode cX11_reads 49 = .ok (.if_icmp .eq 33, 3) := by decide +kernel
theorem dX11_reads_52 : decode cX11_reads 52 = .ok (.iload_n 2, 1) := by decide +kernel
theorem dX11_reads_53 : decode cX11_reads 53 = .ok (.aload_n 0, 1) := by decide +kernel
theorem dX11_reads_54 : decode cX11_reads 54 = .ok (.getfield 9, 3) := by decide +kernel
theorem dX11_reads_57 : decode cX11_reads 57 = .ok (.bipush 7, 2) := by decide +kernel
theorem dX11_reads_59 : decode cX11_reads 59 = .ok (.iaload, 1) := by decide +kernel
theorem dX11_reads_60 : decode cX11_reads 60 = .ok (.if_icmp .ge 20, 3) := by decide +kernel
theorem dX11_reads_63 : decode cX11_reads 63 = .ok (.iload_n 3, 1) := by decide +kernel
theorem dX11_reads_64 : decode cX11_reads 64 = .ok (.aload_n 0, 1) := by decide +kernel
theorem dX11_reads_65 : decode cX11_reads 65 = .ok (.getfield 9, 3) := by decide +kernel
theorem dX11_reads_68 : decode cX11_reads 68 = .ok (.bipush 16, 2) := by decide +kernel
theorem dX11_reads_70 : decode cX11_reads 70 = .ok (.iconst 2, 1) := by decide +kernel
theorem dX11_reads_71 : decode cX11_reads 71 = .ok (.iload_n 2, 1) := by decide +kernel
theorem dX11_reads_72 : decode cX11_reads 72 = .ok (.imul, 1) := by decide +kernel
theorem dX11_reads_73 : decode cX11_reads 73 = .ok (.iadd, 1) := by decide +kernel
theorem dX11_reads_74 : decode cX11_reads 74 = .ok (.iconst 1, 1) := by decide +kernel
theorem dX11_reads_75 : decode cX11_reads 75 = .ok (.iadd, 1) := by decide +kernel
theorem dX11_reads_76 : decode cX11_reads 76 = .ok (.iaload, 1) := by decide +kernel
theorem dX11_reads_77 : decode cX11_reads 77 = .ok (.if_icmp .eq 5, 3) := by decide +kernel
theorem dX11_reads_80 : decode cX11_reads 80 = .ok (.iload_n 2, 1) := by decide +kernel
theorem dX11_reads_81 : decode cX11_reads 81 = .ok (.ireturn, 1) := by decide +kernel
theorem dX11_reads_82 : decode cX11_reads 82 = .ok (.iinc 2 1, 3) := by decide +kernel
theorem dX11_reads_85 : decode cX11_reads 85 = .ok (.goto (-61), 3) := by decide +kernel
theorem dX11_reads_88 : decode cX11_reads 88 = .ok (.ldc 152, 2) := by decide +kernel
theorem dX11_reads_90 : decode cX11_reads 90 = .ok (.ireturn, 1) := by decide +kernel
theorem dX11_copy_0 : decode cX11_copy 0 = .ok (.iload_n 1, 1) := by decide +kernel
theorem dX11_copy_1 : decode cX11_copy 1 = .ok (.invokestatic 178, 3) := by decide +kernel
theorem dX11_copy_4 : decode cX11_copy 4 = .ok (.ifCond .eq 10, 3) := by decide +kernel
theorem dX11_copy_7 : decode cX11_copy 7 = .ok (.iload_n 3, 1) := by decide +kernel
theorem dX11_copy_8 : decode cX11_copy 8 = .ok (.invokestatic 178, 3) := by decide +kernel
theorem dX11_copy_11 : decode cX11_copy 11 = .ok (.ifCond .ne 6, 3) := by decide +kernel
theorem dX11_copy_14 : decode cX11_copy 14 = .ok (.ldc 90, 2) := by decide +kernel
theorem dX11_copy_16 : decode cX11_copy 16 = .ok (.ireturn, 1) := by decide +kernel
theorem dX11_copy_17 : decode cX11_copy 17 = .ok (.aload_n 0, 1) := by decide +kernel
theorem dX11_copy_18 : decode cX11_copy 18 = .ok (.getfield 51, 3) := by decide +kernel
theorem dX11_copy_21 : decode cX11_copy 21 = .ok (.iload_n 1, 1) := by decide +kernel
theorem dX11_copy_22 : decode cX11_copy 22 = .ok (.iaload, 1) := by decide +kernel
theorem dX11_copy_23 : decode cX11_copy 23 = .ok (.ifCond .lt 12, 3) := by decide +kernel
theorem dX11_copy_26 : decode cX11_copy 26 = .ok (.aload_n 0, 1) := by decide +kernel
theorem dX11_copy_27 : decode cX11_copy 27 = .ok (.getfield 51, 3) := by decide +kernel
theorem dX11_copy_30 : decode cX11_copy 30 = .ok (.iload_n 3, 1) := by decide +kernel
theorem dX11_copy_31 : decode cX11_copy 31 = .ok (.iaload, 1) := by decide +kernel
theorem dX11_copy_32 : decode cX11_copy 32 = .ok (.ifCond .ge 6, 3) := by decide +kernel
theorem dX11_copy_35 : decode cX11_copy 35 = .ok (.ldc 181, 2) := by decide +kernel
theorem dX11_copy_37 : decode cX11_copy 37 = .ok (.ireturn, 1) := by decide +kernel
theorem dX11_copy_38 : decode cX11_copy 38 = .ok (.aload_n 0, 1) := by decide +kernel
theorem dX11_copy_39 : decode cX11_copy 39 = .ok (.getfield 51, 3) := by decide +kernel
theorem dX11_copy_42 : decode cX11_copy 42 = .ok (.iload_n 1, 1) := by decide +kernel
theorem dX11_copy_43 : decode cX11_copy 43 = .ok (.iaload, 1) := by decide +kernel
theorem dX11_copy_44 : decode cX11_copy 44 = .ok (.aload_n 0, 1) := by decide +kernel
theorem dX11_copy_45 : decode cX11_copy 45 = .ok (.getfield 51, 3) := by decide +kernel
theorem dX11_copy_48 : decode cX11_copy 48 = .ok (.iload_n 3, 1) := by decide +kernel
theorem dX11_copy_49 : decode cX11_copy 49 = .ok (.iaload, 1) := by decide +kernel
theorem dX11_copy_50 : decode cX11_copy 50 = .ok (.if_icmp .eq 6, 3) := by decide +kernel
theorem dX11_copy_53 : decode cX11_copy 53 = .ok (.ldc 133, 2) := by decide +kernel
theorem dX11_copy_55 : decode cX11_copy 55 = .ok (.ireturn, 1) := by decide +kernel
theorem dX11_copy_56 : decode cX11_copy 56 = .ok (.iload_n 2, 1) := by decide +kernel
theorem dX11_copy_57 : decode cX11_copy 57 = .ok (.ifCond .lt 40, 3) := by decide +kernel
theorem dX11_copy_60 : decode cX11_copy 60 = .ok (.iload 4, 2) := by decide +kernel
theorem dX11_copy_62 : decode cX11_copy 62 = .ok (.ifCond .lt 35, 3) := by decide +kernel
theorem dX11_copy_65 : decode cX11_copy 65 = .ok (.iload 5, 2) := by decide +kernel
theorem dX11_copy_67 : decode cX11_copy 67 = .ok (.ifCond .lt 30, 3) := by decide +kernel
theorem dX11_copy_70 : decode cX11_copy 70 = .ok (.iload_n 2, 1) := by decide +kernel
theorem dX11_copy_71 : decode cX11_copy 71 = .ok (.aload_n 0, 1) := by decide +kernel
theorem dX11_copy_72 : decode cX11_copy 72 = .ok (.getfield 54, 3) := by decide +kernel
theorem dX11_copy_75 : decode cX11_copy 75 = .ok (.iload_n 1, 1) := by decide +kernel
theorem dX11_copy_76 : decode cX11_copy 76 = .ok (.iaload, 1) := by decide +kernel
theorem dX11_copy_77 : decode cX11_copy 77 = .ok (.iload 5, 2) := by decide +kernel
theorem dX11_copy_79 : decode cX11_copy 79 = .ok (.isub, 1) := by decide +kernel
theorem dX11_copy_80 : decode cX11_copy 80 = .ok (.if_icmp .gt 17, 3) := by decide +kernel
theorem dX11_copy_83 : decode cX11_copy 83 = .ok (.iload 4, 2) := by decide +kernel
theorem dX11_copy_85 : decode cX11_copy 85 = .ok (.aload_n 0, 1) := by decide +kernel
theorem dX11_copy_86 : decode cX11_copy 86 = .ok (.getfield 54, 3) := by decide +kernel
theorem dX11_copy_89 : decode cX11_copy 89 = .ok (.iload_n 3, 1) := by decide +kernel
theorem dX11_copy_90 : decode cX11_copy 90 = .ok (.iaload, 1) := by decide +kernel
theorem dX11_copy_91 : decode cX11_copy 91 = .ok (.iload 5, 2) := by decide +kernel
theorem dX11_copy_93 : decode cX11_copy 93 = .ok (.isub, 1) := by decide +kernel
theorem dX11_copy_94 : decode cX11_copy 94 = .ok (.if_icmp .le 6, 3) := by decide +kernel
theorem dX11_copy_97 : decode cX11_copy 97 = .ok (.ldc 255, 2) := by decide +kernel
theorem dX11_copy_99 : decode cX11_copy 99 = .ok (.ireturn, 1) := by decide +kernel
theorem dX11_copy_100 : decode cX11_copy 100 = .ok (.iconst 0, 1) := by decide +kernel
theorem dX11_copy_101 : decode cX11_copy 101 = .ok (.istore 6, 2) := by decide +kernel
theorem dX11_copy_103 : decode cX11_copy 103 = .ok (.iload 6, 2) := by decide +kernel
theorem dX11_copy_105 : decode cX11_copy 105 = .ok (.iload 5, 2) := by decide +kernel
theorem dX11_copy_107 : decode cX11_copy 107 = .ok (.if_icmp .ge 30, 3) := by decide +kernel
theorem dX11_copy_110 : decode cX11_copy 110 = .ok (.aload_n 0, 1) := by decide +kernel
theorem dX11_copy_111 : decode cX11_copy 111 = .ok (.getfield 72, 3) := by decide +kernel
theorem dX11_copy_114 : decode cX11_copy 114 = .ok (.iload 6, 2) := by decide +kernel
theorem dX11_copy_116 : decode cX11_copy 116 = .ok (.aload_n 0, 1) := by decide +kernel
theorem dX11_copy_117 : decode cX11_copy 117 = .ok (.getfield 57, 3) := by decide +kernel
theorem dX11_copy_120 : decode cX11_copy 120 = .ok (.bipush 24, 2) := by decide +kernel
theorem dX11_copy_122 : decode cX11_copy 122 = .ok (.iload_n 1, 1) := by decide +kernel
theorem dX11_copy_123 : decode cX11_copy 123 = .ok (.imul, 1) := by decide +kernel
theorem dX11_copy_124 : decode cX11_copy 124 = .ok (.iload_n 2, 1) := by decide +kernel
theorem dX11_copy_125 : decode cX11_copy 125 = .ok (.iadd, 1) := by decide +kernel
theorem dX11_copy_126 : decode cX11_copy 126 = .ok (.iload 6, 2) := by decide +kernel
theorem dX11_copy_128 : decode cX11_copy 128 = .ok (.iadd, 1) := by decide +kernel
theorem dX11_copy_129 : decode cX11_copy 129 = .ok (.iaload, 1) := by decide +kernel
theorem dX11_copy_130 : decode cX11_copy 130 = .ok (.iastore, 1) := by decide +kernel
theorem dX11_copy_131 : decode cX11_copy 131 = .ok (.iinc 6 1, 3) := by decide +kernel
theorem dX11_copy_134 : decode cX11_copy 134 = .ok (.goto (-31), 3) := by decide +kernel
theorem dX11_copy_137 : decode cX11_copy 137 = .ok (.iconst 0, 1) := by decide +kernel
theorem dX11_copy_138 : decode cX11_copy 138 = .ok (.istore 6, 2) := by decide +kernel
theorem dX11_copy_140 : decode cX11_copy 140 = .ok (.iload 6, 2) := by decide +kernel
theorem dX11_copy_142 : decode cX11_copy 142 = .ok (.iload 5, 2) := by decide +kernel
theorem dX11_copy_144 : decode cX11_copy 144 = .ok (.if_icmp .ge 31, 3) := by decide +kernel
theorem dX11_copy_147 : decode cX11_copy 147 = .ok (.aload_n 0, 1) := by decide +kernel
theorem dX11_copy_148 : decode cX11_copy 148 = .ok (.getfield 57, 3) := by decide +kernel
theorem dX11_copy_151 : decode cX11_copy 151 = .ok (.bipush 24, 2) := by decide +kernel
theorem dX11_copy_153 : decode cX11_copy 153 = .ok (.iload_n 3, 1) := by decide +kernel
theorem dX11_copy_154 : decode cX11_copy 154 = .ok (.imul, 1) := by decide +kernel
theorem dX11_copy_155 : decode cX11_copy 155 = .ok (.iload 4, 2) := by decide +kernel
theorem dX11_copy_157 : decode cX11_copy 157 = .ok (.iadd, 1) := by decide +kernel
theorem dX11_copy_158 : decode cX11_copy 158 = .ok (.iload 6, 2) := by decide +kernel
theorem dX11_copy_160 : decode cX11_copy 160 = .ok (.iadd, 1) := by decide +kernel
theorem dX11_copy_161 : decode cX11_copy 161 = .ok (.aload_n 0, 1) := by decide +kernel
theorem dX11_copy_162 : decode cX11_copy 162 = .ok (.getfield 72, 3) := by decide +kernel
theorem dX11_copy_165 : decode cX11_copy 165 = .ok (.iload 6, 2) := by decide +kernel
theorem dX11_copy_167 : decode cX11_copy 167 = .ok (.iaload, 1) := by decide +kernel
theorem dX11_copy_168 : decode cX11_copy 168 = .ok (.iastore, 1) := by decide +kernel
theorem dX11_copy_169 : decode cX11_copy 169 = .ok (.iinc 6 1, 3) := by decide +kernel
theorem dX11_copy_172 : decode cX11_copy 172 = .ok (.goto (-32), 3) := by decide +kernel
theorem dX11_copy_175 : decode cX11_copy 175 = .ok (.iload 5, 2) := by decide +kernel
theorem dX11_copy_177 : decode cX11_copy 177 = .ok (.ireturn, 1) := by decide +kernel
theorem dX11_lay_0 : decode cX11_lay 0 = .ok (.iload_n 1, 1) := by decide +kernel
theorem dX11_lay_1 : decode cX11_lay 1 = .ok (.invokestatic 258, 3) := by decide +kernel
theorem dX11_lay_4 : decode cX11_lay 4 = .ok (.ifCond .eq 37, 3) := by decide +kernel
theorem dX11_lay_7 : decode cX11_lay 7 = .ok (.iload_n 2, 1) := by decide +kernel
theorem dX11_lay_8 : decode cX11_lay 8 = .ok (.iconst 0, 1) := by decide +kernel
theorem dX11_lay_9 : decode cX11_lay 9 = .ok (.iconst 3, 1) := by decide +kernel
theorem dX11_lay_10 : decode cX11_lay 10 = .ok (.invokestatic 78, 3) := by decide +kernel
theorem dX11_lay_13 : decode cX11_lay 13 = .ok (.ifCond .eq 28, 3) := by decide +kernel
theorem dX11_lay_16 : decode cX11_lay 16 = .ok (.iload_n 2, 1) := by decide +kernel
theorem dX11_lay_17 : decode cX11_lay 17 = .ok (.iconst 1, 1) := by decide +kernel
theorem dX11_lay_18 : decode cX11_lay 18 = .ok (.if_icmp .ne 11, 3) := by decide +kernel
theorem dX11_lay_21 : decode cX11_lay 21 = .ok (.aload_n 0, 1) := by decide +kernel
theorem dX11_lay_22 : decode cX11_lay 22 = .ok (.iload_n 3, 1) := by decide +kernel
theorem dX11_lay_23 : decode cX11_lay 23 = .ok (.invokevirtual 114, 3) := by decide +kernel
theorem dX11_lay_26 : decode cX11_lay 26 = .ok (.ifCond .eq 15, 3) := by decide +kernel
theorem dX11_lay_29 : decode cX11_lay 29 = .ok (.iload_n 2, 1) := by decide +kernel
theorem dX11_lay_30 : decode cX11_lay 30 = .ok (.iconst 2, 1) := by decide +kernel
theorem dX11_lay_31 : decode cX11_lay 31 = .ok (.if_icmp .ne 13, 3) := by decide +kernel
theorem dX11_lay_34 : decode cX11_lay 34 = .ok (.iload_n 3, 1) := by decide +kernel
theorem dX11_lay_35 : decode cX11_lay 35 = .ok (.invokestatic 178, 3) := by decide +kernel
theorem dX11_lay_38 : decode cX11_lay 38 = .ok (.ifCond .ne 6, 3) := by decide +kernel
theorem dX11_lay_41 : decode cX11_lay 41 = .ok (.ldc 90, 2) := by decide +kernel
theorem dX11_lay_43 : decode cX11_lay 43 = .ok (.ireturn, 1) := by decide +kernel
theorem dX11_lay_44 : decode cX11_lay 44 = .ok (.iload_n 2, 1) := by decide +kernel
theorem dX11_lay_45 : decode cX11_lay 45 = .ok (.iconst 2, 1) := by decide +kernel
theorem dX11_lay_46 : decode cX11_lay 46 = .ok (.if_icmp .ne 15, 3) := by decide +kernel
theorem dX11_lay_49 : decode cX11_lay 49 = .ok (.aload_n 0, 1) := by decide +kernel
theorem dX11_lay_50 : decode cX11_lay 50 = .ok (.getfield 51, 3) := by decide +kernel
theorem dX11_lay_53 : decode cX11_lay 53 = .ok (.iload_n 3, 1) := by decide +kernel
theorem dX11_lay_54 : decode cX11_lay 54 = .ok (.iaload, 1) := by decide +kernel
theorem dX11_lay_55 : decode cX11_lay 55 = .ok (.ifCond .ge 6, 3) := by decide +kernel
theorem dX11_lay_58 : decode cX11_lay 58 = .ok (.ldc 181, 2) := by decide +kernel
theorem dX11_lay_60 : decode cX11_lay 60 = .ok (.ireturn, 1) := by decide +kernel
theorem dX11_lay_61 : decode cX11_lay 61 = .ok (.aload_n 0, 1) := by decide +kernel
theorem dX11_lay_62 : decode cX11_lay 62 = .ok (.getfield 60, 3) := by decide +kernel
theorem dX11_lay_65 : decode cX11_lay 65 = .ok (.iload_n 1, 1) := by decide +kernel
theorem dX11_lay_66 : decode cX11_lay 66 = .ok (.iaload, 1) := by decide +kernel
theorem dX11_lay_67 : decode cX11_lay 67 = .ok (.istore 4, 2) := by decide +kernel
theorem dX11_lay_69 : decode cX11_lay 69 = .ok (.aload_n 0, 1) := by decide +kernel
theorem dX11_lay_70 : decode cX11_lay 70 = .ok (.getfield 60, 3) := by decide +kernel
theorem dX11_lay_73 : decode cX11_lay 73 = .ok (.iload_n 1, 1) := by decide +kernel
theorem dX11_lay_74 : decode cX11_lay 74 = .ok (.iload_n 2, 1) := by decide +kernel
theorem dX11_lay_75 : decode cX11_lay 75 = .ok (.iastore, 1) := by decide +kernel
theorem dX11_lay_76 : decode cX11_lay 76 = .ok (.aload_n 0, 1) := by decide +kernel
theorem dX11_lay_77 : decode cX11_lay 77 = .ok (.getfield 63, 3) := by decide +kernel
theorem dX11_lay_80 : decode cX11_lay 80 = .ok (.iload_n 1, 1) := by decide +kernel
theorem dX11_lay_81 : decode cX11_lay 81 = .ok (.iload_n 2, 1) := by decide +kernel
theorem dX11_lay_82 : decode cX11_lay 82 = .ok (.iconst 1, 1) := by decide +kernel
theorem dX11_lay_83 : decode cX11_lay 83 = .ok (.if_icmp .ne 12, 3) := by decide +kernel
theorem dX11_lay_86 : decode cX11_lay 86 = .ok (.aload_n 0, 1) := by decide +kernel
theorem dX11_lay_87 : decode cX11_lay 87 = .ok (.iload_n 3, 1) := by decide +kernel
theorem dX11_lay_88 : decode cX11_lay 88 = .ok (.iconst 0, 1) := by decide +kernel
theorem dX11_lay_89 : decode cX11_lay 89 = .ok (.invokevirtual 110, 3) := by decide +kernel
theorem dX11_lay_92 : decode cX11_lay 92 = .ok (.goto 18, 3) := by decide +kernel
theorem dX11_lay_95 : decode cX11_lay 95 = .ok (.iload_n 2, 1) := by decide +kernel
theorem dX11_lay_96 : decode cX11_lay 96 = .ok (.iconst 2, 1) := by decide +kernel
theorem dX11_lay_97 : decode cX11_lay 97 = .ok (.if_icmp .ne 12, 3) := by decide +kernel
theorem dX11_lay_100 : decode cX11_lay 100 = .ok (.aload_n 0, 1) := by decide +kernel
theorem dX11_lay_101 : decode cX11_lay 101 = .ok (.getfield 54, 3) := by decide +kernel
theorem dX11_lay_104 : decode cX11_lay 104 = .ok (.iload_n 3, 1) := by decide +kernel
theorem dX11_lay_105 : decode cX11_lay 105 = .ok (.iaload, 1) := by decide +kernel
theorem dX11_lay_106 : decode cX11_lay 106 = .ok (.goto 4, 3) := by decide +kernel
theorem dX11_lay_109 : decode cX11_lay 109 = .ok (.iload_n 3, 1) := by decide +kernel
theorem dX11_lay_110 : decode cX11_lay 110 = .ok (.iastore, 1) := by decide +kernel
theorem dX11_lay_111 : decode cX11_lay 111 = .ok (.aload_n 0, 1) := by decide +kernel
theorem dX11_lay_112 : decode cX11_lay 112 = .ok (.getfield 66, 3) := by decide +kernel
theorem dX11_lay_115 : decode cX11_lay 115 = .ok (.iload_n 1, 1) := by decide +kernel
theorem dX11_lay_116 : decode cX11_lay 116 = .ok (.iload_n 2, 1) := by decide +kernel
theorem dX11_lay_117 : decode cX11_lay 117 = .ok (.iconst 1, 1) := by decide +kernel
theorem dX11_lay_118 : decode cX11_lay 118 = .ok (.if_icmp .ne 11, 3) := by decide +kernel
theorem dX11_lay_121 : decode cX11_lay 121 = .ok (.aload_n 0, 1) := by decide +kernel
theorem dX11_lay_122 : decode cX11_lay 122 = .ok (.iload_n 3, 1) := by decide +kernel
theorem dX11_lay_123 : decode cX11_lay 123 = .ok (.invokevirtual 124, 3) := by decide +kernel
theorem dX11_lay_126 : decode cX11_lay 126 = .ok (.goto 4, 3) := by decide +kernel
theorem dX11_lay_129 : decode cX11_lay 129 = .ok (.iconst 0, 1) := by decide +kernel
theorem dX11_lay_130 : decode cX11_lay 130 = .ok (.iastore, 1) := by decide +kernel
theorem dX11_lay_131 : decode cX11_lay 131 = .ok (.iconst 0, 1) := by decide +kernel
theorem dX11_lay_132 : decode cX11_lay 132 = .ok (.istore 5, 2) := by decide +kernel
theorem dX11_lay_134 : decode cX11_lay 134 = .ok (.iload 5, 2) := by decide +kernel
theorem dX11_lay_136 : decode cX11_lay 136 = .ok (.bipush 24, 2) := by decide +kernel
theorem dX11_lay_138 : decode cX11_lay 138 = .ok (.if_icmp .ge 38, 3) := by decide +kernel
theorem dX11_lay_141 : decode cX11_lay 141 = .ok (.iload_n 2, 1) := by decide +kernel
theorem dX11_lay_142 : decode cX11_lay 142 = .ok (.iconst 2, 1) := by decide +kernel
theorem dX11_lay_143 : decode cX11_lay 143 = .ok (.if_icmp .ne 33, 3) := by decide +kernel
theorem dX11_lay_146 : decode cX11_lay 146 = .ok (.aload_n 0, 1) := by decide +kernel
theorem dX11_lay_147 : decode cX11_lay 147 = .ok (.getfield 69, 3) := by decide +kernel
theorem dX11_lay_150 : decode cX11_lay 150 = .ok (.bipush 24, 2) := by decide +kernel
theorem dX11_lay_152 : decode cX11_lay 152 = .ok (.iload_n 1, 1) := by decide +kernel
theorem dX11_lay_153 : decode cX11_lay 153 = .ok (.imul, 1) := by decide +kernel
theorem dX11_lay_154 : decode cX11_lay 154 = .ok (.iload 5, 2) := by decide +kernel
theorem dX11_lay_156 : decode cX11_lay 156 = .ok (.iadd, 1) := by decide +kernel
theorem dX11_lay_157 : decode cX11_lay 157 = .ok (.aload_n 0, 1) := by decide +kernel
theorem dX11_lay_158 : decode cX11_lay 158 = .ok (.getfield 57, 3) := by decide +kernel
theorem dX11_lay_161 : decode cX11_lay 161 = .ok (.bipush 24, 2) := by decide +kernel
theorem dX11_lay_163 : decode cX11_lay 163 = .ok (.iload_n 3, 1) := by decide +kernel
theorem dX11_lay_164 : decode cX11_lay 164 = .ok (.imul, 1) := by decide +kernel
theorem dX11_lay_165 : decode cX11_lay 165 = .ok (.iload 5, 2) := by decide +kernel
theorem dX11_lay_167 : decode cX11_lay 167 = .ok (.iadd, 1) := by decide +kernel
theorem dX11_lay_168 : decode cX11_lay 168 = .ok (.iaload, 1) := by decide +kernel
theorem dX11_lay_169 : decode cX11_lay 169 = .ok (.iastore, 1) := by decide +kernel
theorem dX11_lay_170 : decode cX11_lay 170 = .ok (.iinc 5 1, 3) := by decide +kernel
theorem dX11_lay_173 : decode cX11_lay 173 = .ok (.goto (-39), 3) := by decide +kernel
theorem dX11_lay_176 : decode cX11_lay 176 = .ok (.iload 4, 2) := by decide +kernel
theorem dX11_lay_178 : decode cX11_lay 178 = .ok (.ireturn, 1) := by decide +kernel
theorem dX11_ask_0 : decode cX11_ask 0 = .ok (.iload_n 1, 1) := by decide +kernel
theorem dX11_ask_1 : decode cX11_ask 1 = .ok (.invokestatic 258, 3) := by decide +kernel
theorem dX11_ask_4 : decode cX11_ask 4 = .ok (.ifCond .eq 12, 3) := by decide +kernel
theorem dX11_ask_7 : decode cX11_ask 7 = .ok (.iload_n 2, 1) := by decide +kernel
theorem dX11_ask_8 : decode cX11_ask 8 = .ok (.iconst 0, 1) := by decide +kernel
theorem dX11_ask_9 : decode cX11_ask 9 = .ok (.iconst 5, 1) := by decide +kernel
theorem dX11_ask_10 : decode cX11_ask 10 = .ok (.invokestatic 78, 3) := by decide +kernel
theorem dX11_ask_13 : decode cX11_ask 13 = .ok (.ifCond .ne 6, 3) := by decide +kernel
theorem dX11_ask_16 : decode cX11_ask 16 = .ok (.ldc 90, 2) := by decide +kernel
theorem dX11_ask_18 : decode cX11_ask 18 = .ok (.ireturn, 1) := by decide +kernel
theorem dX11_ask_19 : decode cX11_ask 19 = .ok (.aload_n 0, 1) := by decide +kernel
theorem dX11_ask_20 : decode cX11_ask 20 = .ok (.getfield 60, 3) := by decide +kernel
theorem dX11_ask_23 : decode cX11_ask 23 = .ok (.iload_n 1, 1) := by decide +kernel
theorem dX11_ask_24 : decode cX11_ask 24 = .ok (.iaload, 1) := by decide +kernel
theorem dX11_ask_25 : decode cX11_ask 25 = .ok (.ifCond .ne 6, 3) := by decide +kernel
theorem dX11_ask_28 : decode cX11_ask 28 = .ok (.ldc 181, 2) := by decide +kernel
theorem dX11_ask_30 : decode cX11_ask 30 = .ok (.ireturn, 1) := by decide +kernel
theorem dX11_ask_31 : decode cX11_ask 31 = .ok (.aload_n 0, 1) := by decide +kernel
theorem dX11_ask_32 : decode cX11_ask 32 = .ok (.getfield 60, 3) := by decide +kernel
theorem dX11_ask_35 : decode cX11_ask 35 = .ok (.iload_n 1, 1) := by decide +kernel
theorem dX11_ask_36 : decode cX11_ask 36 = .ok (.iaload, 1) := by decide +kernel
theorem dX11_ask_37 : decode cX11_ask 37 = .ok (.iconst 1, 1) := by decide +kernel
theorem dX11_ask_38 : decode cX11_ask 38 = .ok (.if_icmp .ne 25, 3) := by decide +kernel
theorem dX11_ask_41 : decode cX11_ask 41 = .ok (.aload_n 0, 1) := by decide +kernel
theorem dX11_ask_42 : decode cX11_ask 42 = .ok (.getfield 63, 3) := by decide +kernel
theorem dX11_ask_45 : decode cX11_ask 45 = .ok (.iload_n 1, 1) := by decide +kernel
theorem dX11_ask_46 : decode cX11_ask 46 = .ok (.iaload, 1) := by decide +kernel
theorem dX11_ask_47 : decode cX11_ask 47 = .ok (.iload_n 2, 1) := by decide +kernel
theorem dX11_ask_48 : decode cX11_ask 48 = .ok (.invokestatic 130, 3) := by decide +kernel
theorem dX11_ask_51 : decode cX11_ask 51 = .ok (.ifCond .eq 12, 3) := by decide +kernel
theorem dX11_ask_54 : decode cX11_ask 54 = .ok (.aload_n 0, 1) := by decide +kernel
theorem dX11_ask_55 : decode cX11_ask 55 = .ok (.getfield 66, 3) := by decide +kernel
theorem dX11_ask_58 : decode cX11_ask 58 = .ok (.iload_n 1, 1) := by decide +kernel
theorem dX11_ask_59 : decode cX11_ask 59 = .ok (.iaload, 1) := by decide +kernel
theorem dX11_ask_60 : decode cX11_ask 60 = .ok (.goto 5, 3) := by decide +kernel
theorem dX11_ask_63 : decode cX11_ask 63 = .ok (.ldc 133, 2) := by decide +kernel
theorem dX11_ask_65 : decode cX11_ask 65 = .ok (.ireturn, 1) := by decide +kernel
theorem dX11_item_0 : decode cX11_item 0 = .ok (.iload_n 1, 1) := by decide +kernel
theorem dX11_item_1 : decode cX11_item 1 = .ok (.invokestatic 258, 3) := by decide +kernel
theorem dX11_item_4 : decode cX11_item 4 = .ok (.ifCond .ne 6, 3) := by decide +kernel
theorem dX11_item_7 : decode cX11_item 7 = .ok (.ldc 90, 2) := by decide +kernel
theorem dX11_item_9 : decode cX11_item 9 = .ok (.ireturn, 1) := by decide +kernel
theorem dX11_item_10 : decode cX11_item 10 = .ok (.aload_n 0, 1) := by decide +kernel
theorem dX11_item_11 : decode cX11_item 11 = .ok (.getfield 60, 3) := by decide +kernel
theorem dX11_item_14 : decode cX11_item 14 = .ok (.iload_n 1, 1) := by decide +kernel
theorem dX11_item_15 : decode cX11_item 15 = .ok (.iaload, 1) := by decide +kernel
theorem dX11_item_16 : decode cX11_item 16 = .ok (.ifCond .ne 6, 3) := by decide +kernel
theorem dX11_item_19 : decode cX11_item 19 = .ok (.ldc 181, 2) := by decide +kernel
theorem dX11_item_21 : decode cX11_item 21 = .ok (.ireturn, 1) := by decide +kernel
theorem dX11_item_22 : decode cX11_item 22 = .ok (.aload_n 0, 1) := by decide +kernel
theorem dX11_item_23 : decode cX11_item 23 = .ok (.getfield 60, 3) := by decide +kernel
theorem dX11_item_26 : decode cX11_item 26 = .ok (.iload_n 1, 1) := by decide +kernel
theorem dX11_item_27 : decode cX11_item 27 = .ok (.iaload, 1) := by decide +kernel
theorem dX11_item_28 : decode cX11_item 28 = .ok (.iconst 2, 1) := by decide +kernel
theorem dX11_item_29 : decode cX11_item 29 = .ok (.if_icmp .eq 6, 3) := by decide +kernel
theorem dX11_item_32 : decode cX11_item 32 = .ok (.ldc 133, 2) := by decide +kernel
theorem dX11_item_34 : decode cX11_item 34 = .ok (.ireturn, 1) := by decide +kernel
theorem dX11_item_35 : decode cX11_item 35 = .ok (.iload_n 2, 1) := by decide +kernel
theorem dX11_item_36 : decode cX11_item 36 = .ok (.iconst 0, 1) := by decide +kernel
theorem dX11_item_37 : decode cX11_item 37 = .ok (.aload_n 0, 1) := by decide +kernel
theorem dX11_item_38 : decode cX11_item 38 = .ok (.getfield 63, 3) := by decide +kernel
theorem dX11_item_41 : decode cX11_item 41 = .ok (.iload_n 1, 1) := by decide +kernel
theorem dX11_item_42 : decode cX11_item 42 = .ok (.iaload, 1) := by decide +kernel
theorem dX11_item_43 : decode cX11_item 43 = .ok (.iconst 1, 1) := by decide +kernel
theorem dX11_item_44 : decode cX11_item 44 = .ok (.isub, 1) := by decide +kernel
theorem dX11_item_45 : decode cX11_item 45 = .ok (.invokestatic 78, 3) := by decide +kernel
theorem dX11_item_48 : decode cX11_item 48 = .ok (.ifCond .ne 6, 3) := by decide +kernel
theorem dX11_item_51 : decode cX11_item 51 = .ok (.ldc 255, 2) := by decide +kernel
theorem dX11_item_53 : decode cX11_item 53 = .ok (.ireturn, 1) := by decide +kernel
theorem dX11_item_54 : decode cX11_item 54 = .ok (.aload_n 0, 1) := by decide +kernel
theorem dX11_item_55 : decode cX11_item 55 = .ok (.getfield 69, 3) := by decide +kernel
theorem dX11_item_58 : decode cX11_item 58 = .ok (.bipush 24, 2) := by decide +kernel
theorem dX11_item_60 : decode cX11_item 60 = .ok (.iload_n 1, 1) := by decide +kernel
theorem dX11_item_61 : decode cX11_item 61 = .ok (.imul, 1) := by decide +kernel
theorem dX11_item_62 : decode cX11_item 62 = .ok (.iload_n 2, 1) := by decide +kernel
theorem dX11_item_63 : decode cX11_item 63 = .ok (.iadd, 1) := by decide +kernel
theorem dX11_item_64 : decode cX11_item 64 = .ok (.iaload, 1) := by decide +kernel
theorem dX11_item_65 : decode cX11_item 65 = .ok (.istore_n 3, 1) := by decide +kernel
theorem dX11_item_66 : decode cX11_item 66 = .ok (.iload_n 3, 1) := by decide +kernel
theorem dX11_item_67 : decode cX11_item 67 = .ok (.ldc 152, 2) := by decide +kernel
theorem dX11_item_69 : decode cX11_item 69 = .ok (.if_icmp .ne 8, 3) := by decide +kernel
theorem dX11_item_72 : decode cX11_item 72 = .ok (.ldc 133, 2) := by decide +kernel
theorem dX11_item_74 : decode cX11_item 74 = .ok (.goto 4, 3) := by decide +kernel
theorem dX11_item_77 : decode cX11_item 77 = .ok (.iload_n 3, 1) := by decide +kernel
theorem dX11_item_78 : decode cX11_item 78 = .ok (.ireturn, 1) := by decide +kernel
theorem dX11_rest_0 : decode cX11_rest 0 = .ok (.iload_n 1, 1) := by decide +kernel
theorem dX11_rest_1 : decode cX11_rest 1 = .ok (.invokestatic 258, 3) := by decide +kernel
theorem dX11_rest_4 : decode cX11_rest 4 = .ok (.ifCond .ne 6, 3) := by decide +kernel
theorem dX11_rest_7 : decode cX11_rest 7 = .ok (.ldc 90, 2) := by decide +kernel
theorem dX11_rest_9 : decode cX11_rest 9 = .ok (.ireturn, 1) := by decide +kernel
theorem dX11_rest_10 : decode cX11_rest 10 = .ok (.aload_n 0, 1) := by decide +kernel
theorem dX11_rest_11 : decode cX11_rest 11 = .ok (.getfield 60, 3) := by decide +kernel
theorem dX11_rest_14 : decode cX11_rest 14 = .ok (.iload_n 1, 1) := by decide +kernel
theorem dX11_rest_15 : decode cX11_rest 15 = .ok (.iaload, 1) := by decide +kernel
theorem dX11_rest_16 : decode cX11_rest 16 = .ok (.ifCond .ne 6, 3) := by decide +kernel
theorem dX11_rest_19 : decode cX11_rest 19 = .ok (.ldc 181, 2) := by decide +kernel
theorem dX11_rest_21 : decode cX11_rest 21 = .ok (.ireturn, 1) := by decide +kernel
theorem dX11_rest_22 : decode cX11_rest 22 = .ok (.aload_n 0, 1) := by decide +kernel
theorem dX11_rest_23 : decode cX11_rest 23 = .ok (.getfield 60, 3) := by decide +kernel
theorem dX11_rest_26 : decode cX11_rest 26 = .ok (.iload_n 1, 1) := by decide +kernel
theorem dX11_rest_27 : decode cX11_rest 27 = .ok (.iaload, 1) := by decide +kernel
theorem dX11_rest_28 : decode cX11_rest 28 = .ok (.iconst 3, 1) := by decide +kernel
theorem dX11_rest_29 : decode cX11_rest 29 = .ok (.if_icmp .eq 6, 3) := by decide +kernel
theorem dX11_rest_32 : decode cX11_rest 32 = .ok (.ldc 133, 2) := by decide +kernel
theorem dX11_rest_34 : decode cX11_rest 34 = .ok (.ireturn, 1) := by decide +kernel
theorem dX11_rest_35 : decode cX11_rest 35 = .ok (.iload_n 2, 1) := by decide +kernel
theorem dX11_rest_36 : decode cX11_rest 36 = .ok (.ifCond .ne 8, 3) := by decide +kernel
theorem dX11_rest_39 : decode cX11_rest 39 = .ok (.ldc 151, 2) := by decide +kernel
theorem dX11_rest_41 : decode cX11_rest 41 = .ok (.goto 20, 3) := by decide +kernel
theorem dX11_rest_44 : decode cX11_rest 44 = .ok (.iload_n 2, 1) := by decide +kernel
theorem dX11_rest_45 : decode cX11_rest 45 = .ok (.iconst (-1), 1) := by decide +kernel
theorem dX11_rest_46 : decode cX11_rest 46 = .ok (.if_icmp .ne 7, 3) := by decide +kernel
theorem dX11_rest_49 : decode cX11_rest 49 = .ok (.iconst 0, 1) := by decide +kernel
theorem dX11_rest_50 : decode cX11_rest 50 = .ok (.goto 11, 3) := by decide +kernel
theorem dX11_rest_53 : decode cX11_rest 53 = .ok (.aload_n 0, 1) := by decide +kernel
theorem dX11_rest_54 : decode cX11_rest 54 = .ok (.getfield 63, 3) := by decide +kernel
theorem dX11_rest_57 : decode cX11_rest 57 = .ok (.iload_n 1, 1) := by decide +kernel
theorem dX11_rest_58 : decode cX11_rest 58 = .ok (.iaload, 1) := by decide +kernel
theorem dX11_rest_59 : decode cX11_rest 59 = .ok (.iload_n 2, 1) := by decide +kernel
theorem dX11_rest_60 : decode cX11_rest 60 = .ok (.irem, 1) := by decide +kernel
theorem dX11_rest_61 : decode cX11_rest 61 = .ok (.ireturn, 1) := by decide +kernel
theorem dX11_tell_0 : decode cX11_tell 0 = .ok (.aload_n 0, 1) := by decide +kernel
theorem dX11_tell_1 : decode cX11_tell 1 = .ok (.getfield 261, 3) := by decide +kernel
theorem dX11_tell_4 : decode cX11_tell 4 = .ok (.bipush 60, 2) := by decide +kernel
theorem dX11_tell_6 : decode cX11_tell 6 = .ok (.if_icmp .ne 6, 3) := by decide +kernel
theorem dX11_tell_9 : decode cX11_tell 9 = .ok (.ldc 91, 2) := by decide +kernel
theorem dX11_tell_11 : decode cX11_tell 11 = .ok (.ireturn, 1) := by decide +kernel
theorem dX11_tell_12 : decode cX11_tell 12 = .ok (.aload_n 0, 1) := by decide +kernel
theorem dX11_tell_13 : decode cX11_tell 13 = .ok (.getfield 75, 3) := by decide +kernel
theorem dX11_tell_16 : decode cX11_tell 16 = .ok (.aload_n 0, 1) := by decide +kernel
theorem dX11_tell_17 : decode cX11_tell 17 = .ok (.getfield 261, 3) := by decide +kernel
theorem dX11_tell_20 : decode cX11_tell 20 = .ok (.iload_n 1, 1) := by decide +kernel
theorem dX11_tell_21 : decode cX11_tell 21 = .ok (.iastore, 1) := by decide +kernel
theorem dX11_tell_22 : decode cX11_tell 22 = .ok (.aload_n 0, 1) := by decide +kernel
theorem dX11_tell_23 : decode cX11_tell 23 = .ok (.dup, 1) := by decide +kernel
theorem dX11_tell_24 : decode cX11_tell 24 = .ok (.getfield 261, 3) := by decide +kernel
theorem dX11_tell_27 : decode cX11_tell 27 = .ok (.iconst 1, 1) := by decide +kernel
theorem dX11_tell_28 : decode cX11_tell 28 = .ok (.iadd, 1) := by decide +kernel
theorem dX11_tell_29 : decode cX11_tell 29 = .ok (.putfield 261, 3) := by decide +kernel
theorem dX11_tell_32 : decode cX11_tell 32 = .ok (.aload_n 0, 1) := by decide +kernel
theorem dX11_tell_33 : decode cX11_tell 33 = .ok (.getfield 261, 3) := by decide +kernel
theorem dX11_tell_36 : decode cX11_tell 36 = .ok (.ireturn, 1) := by decide +kernel
theorem dX11_check_0 : decode cX11_check 0 = .ok (.aload_n 0, 1) := by decide +kernel
theorem dX11_check_1 : decode cX11_check 1 = .ok (.getfield 261, 3) := by decide +kernel
theorem dX11_check_4 : decode cX11_check 4 = .ok (.istore_n 2, 1) := by decide +kernel
theorem dX11_check_5 : decode cX11_check 5 = .ok (.aload_n 0, 1) := by decide +kernel
theorem dX11_check_6 : decode cX11_check 6 = .ok (.iconst 0, 1) := by decide +kernel
theorem dX11_check_7 : decode cX11_check 7 = .ok (.putfield 261, 3) := by decide +kernel
theorem dX11_check_10 : decode cX11_check 10 = .ok (.iload_n 1, 1) := by decide +kernel
theorem dX11_check_11 : decode cX11_check 11 = .ok (.iconst 1, 1) := by decide +kernel
theorem dX11_check_12 : decode cX11_check 12 = .ok (.bipush 30, 2) := by decide +kernel
theorem dX11_check_14 : decode cX11_check 14 = .ok (.invokestatic 78, 3) := by decide +kernel
theorem dX11_check_17 : decode cX11_check 17 = .ok (.ifCond .ne 6, 3) := by decide +kernel
theorem dX11_check_20 : decode cX11_check 20 = .ok (.ldc 90, 2) := by decide +kernel
theorem dX11_check_22 : decode cX11_check 22 = .ok (.ireturn, 1) := by decide +kernel
theorem dX11_check_23 : decode cX11_check 23 = .ok (.aload_n 0, 1) := by decide +kernel
theorem dX11_check_24 : decode cX11_check 24 = .ok (.getfield 264, 3) := by decide +kernel
theorem dX11_check_27 : decode cX11_check 27 = .ok (.ifCond .ne 6, 3) := by decide +kernel
theorem dX11_check_30 : decode cX11_check 30 = .ok (.ldc 151, 2) := by decide +kernel
theorem dX11_check_32 : decode cX11_check 32 = .ok (.ireturn, 1) := by decide +kernel
theorem dX11_check_33 : decode cX11_check 33 = .ok (.aload_n 0, 1) := by decide +kernel
theorem dX11_check_34 : decode cX11_check 34 = .ok (.getfield 9, 3) := by decide +kernel
theorem dX11_check_37 : decode cX11_check 37 = .ok (.aload_n 0, 1) := by decide +kernel
theorem dX11_check_38 : decode cX11_check 38 = .ok (.getfield 16, 3) := by decide +kernel
theorem dX11_check_41 : decode cX11_check 41 = .ok (.invokestatic 268, 3) := by decide +kernel
theorem dX11_check_44 : decode cX11_check 44 = .ok (.aload_n 0, 1) := by decide +kernel
theorem dX11_check_45 : decode cX11_check 45 = .ok (.getfield 13, 3) := by decide +kernel
theorem dX11_check_48 : decode cX11_check 48 = .ok (.aload_n 0, 1) := by decide +kernel
theorem dX11_check_49 : decode cX11_check 49 = .ok (.getfield 9, 3) := by decide +kernel
theorem dX11_check_52 : decode cX11_check 52 = .ok (.invokestatic 268, 3) := by decide +kernel
theorem dX11_check_55 : decode cX11_check 55 = .ok (.iconst 2, 1) := by decide +kernel
theorem dX11_check_56 : decode cX11_check 56 = .ok (.sipush 9999, 3) := by decide +kernel
theorem dX11_check_59 : decode cX11_check 59 = .ok (.aload_n 0, 1) := by decide +kernel
theorem dX11_check_60 : decode cX11_check 60 = .ok (.getfield 9, 3) := by decide +kernel
theorem dX11_check_63 : decode cX11_check 63 = .ok (.iconst 2, 1) := by decide +kernel
theorem dX11_check_64 : decode cX11_check 64 = .ok (.iaload, 1) := by decide +kernel
theorem dX11_check_65 : decode cX11_check 65 = .ok (.isub, 1) := by decide +kernel
theorem dX11_check_66 : decode cX11_check 66 = .ok (.iconst 0, 1) := by decide +kernel
theorem dX11_check_67 : decode cX11_check 67 = .ok (.iload_n 1, 1) := by decide +kernel
theorem dX11_check_68 : decode cX11_check 68 = .ok (.invokestatic 107, 3) := by decide +kernel
theorem dX11_check_71 : decode cX11_check 71 = .ok (.imul, 1) := by decide +kernel
theorem dX11_check_72 : decode cX11_check 72 = .ok (.istore_n 3, 1) := by decide +kernel
theorem dX11_check_73 : decode cX11_check 73 = .ok (.iconst 0, 1) := by decide +kernel
theorem dX11_check_74 : decode cX11_check 74 = .ok (.istore 4, 2) := by decide +kernel
theorem dX11_check_76 : decode cX11_check 76 = .ok (.iconst 0, 1) := by decide +kernel
theorem dX11_check_77 : decode cX11_check 77 = .ok (.istore 5, 2) := by decide +kernel
theorem dX11_check_79 : decode cX11_check 79 = .ok (.iconst 2, 1) := by decide +kernel
theorem dX11_check_80 : decode cX11_check 80 = .ok (.iload 5, 2) := by decide +kernel
theorem dX11_check_82 : decode cX11_check 82 = .ok (.imul, 1) := by decide +kernel
theorem dX11_check_83 : decode cX11_check 83 = .ok (.iload_n 3, 1) := by decide +kernel
theorem dX11_check_84 : decode cX11_check 84 = .ok (.if_icmp .ge 104, 3) := by decide +kernel
theorem dX11_check_87 : decode cX11_check 87 = .ok (.iload 4, 2) := by decide +kernel
theorem dX11_check_89 : decode cX11_check 89 = .ok (.iconst 2, 1) := by decide +kernel
theorem dX11_check_90 : decode cX11_check 90 = .ok (.iload 5, 2) := by decide +kernel
theorem dX11_check_92 : decode cX11_check 92 = .ok (.imul, 1) := by decide +kernel
theorem dX11_check_93 : decode cX11_check 93 = .ok (.if_icmp .ne 95, 3) := by decide +kernel
theorem dX11_check_96 : decode cX11_check 96 = .ok (.aload_n 0, 1) := by decide +kernel
theorem dX11_check_97 : decode cX11_check 97 = .ok (.aload_n 0, 1) := by decide +kernel
theorem dX11_check_98 : decode cX11_check 98 = .ok (.getfield 9, 3) := by decide +kernel
theorem dX11_check_101 : decode cX11_check 101 = .ok (.iconst 5, 1) := by decide +kernel
theorem dX11_check_102 : decode cX11_check 102 = .ok (.iaload, 1) := by decide +kernel
theorem dX11_check_103 : decode cX11_check 103 = .ok (.invokevirtual 160, 3) := by decide +kernel
theorem dX11_check_106 : decode cX11_check 106 = .ok (.istore 6, 2) := by decide +kernel
theorem dX11_check_108 : decode cX11_check 108 = .ok (.iload 4, 2) := by decide +kernel
theorem dX11_check_110 : decode cX11_check 110 = .ok (.iload 4, 2) := by decide +kernel
theorem dX11_check_112 : decode cX11_check 112 = .ok (.iload_n 2, 1) := by decide +kernel
theorem dX11_check_113 : decode cX11_check 113 = .ok (.if_icmp .ge 21, 3) := by decide +kernel
theorem dX11_check_116 : decode cX11_check 116 = .ok (.aload_n 0, 1) := by decide +kernel
theorem dX11_check_117 : decode cX11_check 117 = .ok (.getfield 75, 3) := by decide +kernel
theorem dX11_check_120 : decode cX11_check 120 = .ok (.iload 4, 2) := by decide +kernel
theorem dX11_check_122 : decode cX11_check 122 = .ok (.iaload, 1) := by decide +kernel
theorem dX11_check_123 : decode cX11_check 123 = .ok (.aload_n 0, 1) := by decide +kernel
theorem dX11_check_124 : decode cX11_check 124 = .ok (.invokevirtual 100, 3) := by decide +kernel
theorem dX11_check_127 : decode cX11_check 127 = .ok (.if_icmp .ne 7, 3) := by decide +kernel
theorem dX11_check_130 : decode cX11_check 130 = .ok (.iconst 1, 1) := by decide +kernel
theorem dX11_check_131 : decode cX11_check 131 = .ok (.goto 4, 3) := by decide +kernel
theorem dX11_check_134 : decode cX11_check 134 = .ok (.iconst 0, 1) := by decide +kernel
theorem dX11_check_135 : decode cX11_check 135 = .ok (.iadd, 1) := by decide +kernel
theorem dX11_check_136 : decode cX11_check 136 = .ok (.istore 4, 2) := by decide +kernel
theorem dX11_check_138 : decode cX11_check 138 = .ok (.iload 4, 2) := by decide +kernel
theorem dX11_check_140 : decode cX11_check 140 = .ok (.iload 4, 2) := by decide +kernel
theorem dX11_check_142 : decode cX11_check 142 = .ok (.iconst 2, 1) := by decide +kernel
theorem dX11_check_143 : decode cX11_check 143 = .ok (.iload 5, 2) := by decide +kernel
theorem dX11_check_145 : decode cX11_check 145 = .ok (.imul, 1) := by decide +kernel
theorem dX11_check_146 : decode cX11_check 146 = .ok (.iconst 1, 1) := by decide +kernel
theorem dX11_check_147 : decode cX11_check 147 = .ok (.iadd, 1) := by decide +kernel
theorem dX11_check_148 : decode cX11_check 148 = .ok (.if_icmp .ne 30, 3) := by decide +kernel
theorem dX11_check_151 : decode cX11_check 151 = .ok (.iload 4, 2) := by decide +kernel
theorem dX11_check_153 : decode cX11_check 153 = .ok (.iload_n 2, 1) := by decide +kernel
theorem dX11_check_154 : decode cX11_check 154 = .ok (.if_icmp .ge 24, 3) := by decide +kernel
theorem dX11_check_157 : decode cX11_check 157 = .ok (.aload_n 0, 1) := by decide +kernel
theorem dX11_check_158 : decode cX11_check 158 = .ok (.getfield 75, 3) := by decide +kernel
theorem dX11_check_161 : decode cX11_check 161 = .ok (.iload 4, 2) := by decide +kernel
theorem dX11_check_163 : decode cX11_check 163 = .ok (.iaload, 1) := by decide +kernel
theorem dX11_check_164 : decode cX11_check 164 = .ok (.aload_n 0, 1) := by decide +kernel
theorem dX11_check_165 : decode cX11_check 165 = .ok (.getfield 9, 3) := by decide +kernel
theorem dX11_check_168 : decode cX11_check 168 = .ok (.bipush 6, 2) := by decide +kernel
theorem dX11_check_170 : decode cX11_check 170 = .ok (.iaload, 1) := by decide +kernel
theorem dX11_check_171 : decode cX11_check 171 = .ok (.if_icmp .ne 7, 3) := by decide +kernel
theorem dX11_check_174 : decode cX11_check 174 = .ok (.iconst 1, 1) := by decide +kernel
theorem dX11_check_175 : decode cX11_check 175 = .ok (.goto 4, 3) := by decide +kernel
theorem dX11_check_178 : decode cX11_check 178 = .ok (.iconst 0, 1) := by decide +kernel
theorem dX11_check_179 : decode cX11_check 179 = .ok (.iadd, 1) := by decide +kernel
theorem dX11_check_180 : decode cX11_check 180 = .ok (.istore 4, 2) := by decide +kernel
theorem dX11_check_182 : decode cX11_check 182 = .ok (.iinc 5 1, 3) := by decide +kernel
theorem dX11_check_185 : decode cX11_check 185 = .ok (.goto (-106), 3) := by decide +kernel
theorem dX11_check_188 : decode cX11_check 188 = .ok (.aload_n 0, 1) := by decide +kernel
theorem dX11_check_189 : decode cX11_check 189 = .ok (.getfield 16, 3) := by decide +kernel
theorem dX11_check_192 : decode cX11_check 192 = .ok (.aload_n 0, 1) := by decide +kernel
theorem dX11_check_193 : decode cX11_check 193 = .ok (.getfield 9, 3) := by decide +kernel
theorem dX11_check_196 : decode cX11_check 196 = .ok (.invokestatic 268, 3) := by decide +kernel
theorem dX11_check_199 : decode cX11_check 199 = .ok (.iload 4, 2) := by decide +kernel
theorem dX11_check_201 : decode cX11_check 201 = .ok (.iload_n 2, 1) := by decide +kernel
theorem dX11_check_202 : decode cX11_check 202 = .ok (.if_icmp .ne 13, 3) := by decide +kernel
theorem dX11_check_205 : decode cX11_check 205 = .ok (.iload 4, 2) := by decide +kernel
theorem dX11_check_207 : decode cX11_check 207 = .ok (.iload_n 3, 1) := by decide +kernel
theorem dX11_check_208 : decode cX11_check 208 = .ok (.if_icmp .ne 7, 3) := by decide +kernel
theorem dX11_check_211 : decode cX11_check 211 = .ok (.iconst 0, 1) := by decide +kernel
theorem dX11_check_212 : decode cX11_check 212 = .ok (.goto 7, 3) := by decide +kernel
theorem dX11_check_215 : decode cX11_check 215 = .ok (.iconst 1, 1) := by decide +kernel
theorem dX11_check_216 : decode cX11_check 216 = .ok (.iload 4, 2) := by decide +kernel
theorem dX11_check_218 : decode cX11_check 218 = .ok (.iadd, 1) := by decide +kernel
theorem dX11_check_219 : decode cX11_check 219 = .ok (.ireturn, 1) := by decide +kernel
theorem dX11_keep_0 : decode cX11_keep 0 = .ok (.aload_n 0, 1) := by decide +kernel
theorem dX11_keep_1 : decode cX11_keep 1 = .ok (.getfield 9, 3) := by decide +kernel
theorem dX11_keep_4 : decode cX11_keep 4 = .ok (.aload_n 0, 1) := by decide +kernel
theorem dX11_keep_5 : decode cX11_keep 5 = .ok (.getfield 13, 3) := by decide +kernel
theorem dX11_keep_8 : decode cX11_keep 8 = .ok (.invokestatic 268, 3) := by decide +kernel
theorem dX11_keep_11 : decode cX11_keep 11 = .ok (.aload_n 0, 1) := by decide +kernel
theorem dX11_keep_12 : decode cX11_keep 12 = .ok (.iconst 1, 1) := by decide +kernel
theorem dX11_keep_13 : decode cX11_keep 13 = .ok (.putfield 264, 3) := by decide +kernel
theorem dX11_keep_16 : decode cX11_keep 16 = .ok (.aload_n 0, 1) := by decide +kernel
theorem dX11_keep_17 : decode cX11_keep 17 = .ok (.getfield 9, 3) := by decide +kernel
theorem dX11_keep_20 : decode cX11_keep 20 = .ok (.iconst 1, 1) := by decide +kernel
theorem dX11_keep_21 : decode cX11_keep 21 = .ok (.iaload, 1) := by decide +kernel
theorem dX11_keep_22 : decode cX11_keep 22 = .ok (.ireturn, 1) := by decide +kernel
theorem dX11_back_0 : decode cX11_back 0 = .ok (.aload_n 0, 1) := by decide +kernel
theorem dX11_back_1 : decode cX11_back 1 = .ok (.getfield 264, 3) := by decide +kernel
theorem dX11_back_4 : decode cX11_back 4 = .ok (.ifCond .ne 6, 3) := by decide +kernel
theorem dX11_back_7 : decode cX11_back 7 = .ok (.ldc 151, 2) := by decide +kernel
theorem dX11_back_9 : decode cX11_back 9 = .ok (.ireturn, 1) := by decide +kernel
theorem dX11_back_10 : decode cX11_back 10 = .ok (.aload_n 0, 1) := by decide +kernel
theorem dX11_back_11 : decode cX11_back 11 = .ok (.getfield 13, 3) := by decide +kernel
theorem dX11_back_14 : decode cX11_back 14 = .ok (.aload_n 0, 1) := by decide +kernel
theorem dX11_back_15 : decode cX11_back 15 = .ok (.getfield 9, 3) := by decide +kernel
theorem dX11_back_18 : decode cX11_back 18 = .ok (.invokestatic 268, 3) := by decide +kernel
theorem dX11_back_21 : decode cX11_back 21 = .ok (.aload_n 0, 1) := by decide +kernel
theorem dX11_back_22 : decode cX11_back 22 = .ok (.getfield 9, 3) := by decide +kernel
theorem dX11_back_25 : decode cX11_back 25 = .ok (.iconst 1, 1) := by decide +kernel
theorem dX11_back_26 : decode cX11_back 26 = .ok (.iaload, 1) := by decide +kernel
theorem dX11_back_27 : decode cX11_back 27 = .ok (.ireturn, 1) := by decide +kernel
theorem dX11_count_0 : decode cX11_count 0 = .ok (.iload_n 1, 1) := by decide +kernel
theorem dX11_count_1 : decode cX11_count 1 = .ok (.tableswitch 112 0 10 #[59, 66, 66, 66, 66, 75, 81, 87, 95, 100, 105], 59) := by decide +kernel
theorem dX11_count_60 : decode cX11_count 60 = .ok (.aload_n 0, 1) := by decide +kernel
theorem dX11_count_61 : decode cX11_count 61 = .ok (.getfield 9, 3) := by decide +kernel
theorem dX11_count_64 : decode cX11_count 64 = .ok (.iconst 1, 1) := by decide +kernel
theorem dX11_count_65 : decode cX11_count 65 = .ok (.iaload, 1) := by decide +kernel
theorem dX11_count_66 : decode cX11_count 66 = .ok (.ireturn, 1) := by decide +kernel
theorem dX11_count_67 : decode cX11_count 67 = .ok (.aload_n 0, 1) := by decide +kernel
theorem dX11_count_68 : decode cX11_count 68 = .ok (.getfield 9, 3) := by decide +kernel
theorem dX11_count_71 : decode cX11_count 71 = .ok (.iconst 1, 1) := by decide +kernel
theorem dX11_count_72 : decode cX11_count 72 = .ok (.iload_n 1, 1) := by decide +kernel
theorem dX11_count_73 : decode cX11_count 73 = .ok (.iadd, 1) := by decide +kernel
theorem dX11_count_74 : decode cX11_count 74 = .ok (.iaload, 1) := by decide +kernel
theorem dX11_count_75 : decode cX11_count 75 = .ok (.ireturn, 1) := by decide +kernel
theorem dX11_count_76 : decode cX11_count 76 = .ok (.aload_n 0, 1) := by decide +kernel
theorem dX11_count_77 : decode cX11_count 77 = .ok (.iconst 3, 1) := by decide +kernel
theorem dX11_count_78 : decode cX11_count 78 = .ok (.invokevirtual 169, 3) := by decide +kernel
theorem dX11_count_81 : decode cX11_count 81 = .ok (.ireturn, 1) := by decide +kernel
theorem dX11_count_82 : decode cX11_count 82 = .ok (.aload_n 0, 1) := by decide +kernel
theorem dX11_count_83 : decode cX11_count 83 = .ok (.iconst 1, 1) := by decide +kernel
theorem dX11_count_84 : decode cX11_count 84 = .ok (.invokevirtual 169, 3) := by decide +kernel
theorem dX11_count_87 : decode cX11_count 87 = .ok (.ireturn, 1) := by decide +kernel
theorem dX11_count_88 : decode cX11_count 88 = .ok (.aload_n 0, 1) := by decide +kernel
theorem dX11_count_89 : decode cX11_count 89 = .ok (.getfield 9, 3) := by decide +kernel
theorem dX11_count_92 : decode cX11_count 92 = .ok (.bipush 9, 2) := by decide +kernel
theorem dX11_count_94 : decode cX11_count 94 = .ok (.iaload, 1) := by decide +kernel
theorem dX11_count_95 : decode cX11_count 95 = .ok (.ireturn, 1) := by decide +kernel
theorem dX11_count_96 : decode cX11_count 96 = .ok (.aload_n 0, 1) := by decide +kernel
theorem dX11_count_97 : decode cX11_count 97 = .ok (.getfield 261, 3) := by decide +kernel
theorem dX11_count_100 : decode cX11_count 100 = .ok (.ireturn, 1) := by decide +kernel
theorem dX11_count_101 : decode cX11_count 101 = .ok (.aload_n 0, 1) := by decide +kernel
theorem dX11_count_102 : decode cX11_count 102 = .ok (.getfield 186, 3) := by decide +kernel
theorem dX11_count_105 : decode cX11_count 105 = .ok (.ireturn, 1) := by decide +kernel
theorem dX11_count_106 : decode cX11_count 106 = .ok (.aload_n 0, 1) := by decide +kernel
theorem dX11_count_107 : decode cX11_count 107 = .ok (.getfield 9, 3) := by decide +kernel
theorem dX11_count_110 : decode cX11_count 110 = .ok (.iconst 0, 1) := by decide +kernel
theorem dX11_count_111 : decode cX11_count 111 = .ok (.iaload, 1) := by decide +kernel
theorem dX11_count_112 : decode cX11_count 112 = .ok (.ireturn, 1) := by decide +kernel
theorem dX11_count_113 : decode cX11_count 113 = .ok (.ldc 90, 2) := by decide +kernel
theorem dX11_count_115 : decode cX11_count 115 = .ok (.ireturn, 1) := by decide +kernel
theorem dJ11_isValidCodePoint_9a6ad_0 : decode cJ11_isValidCodePoint_9a6ad 0 = .ok (.iload_n 0, 1) := by decide +kernel
theorem dJ11_isValidCodePoint_9a6ad_1 : decode cJ11_isValidCodePoint_9a6ad 1 = .ok (.bipush 16, 2) := by decide +kernel
theorem dJ11_isValidCodePoint_9a6ad_3 : decode cJ11_isValidCodePoint_9a6ad 3 = .ok (.iushr, 1) := by decide +kernel
theorem dJ11_isValidCodePoint_9a6ad_4 : decode cJ11_isValidCodePoint_9a6ad 4 = .ok (.istore_n 1, 1) := by decide +kernel
theorem dJ11_isValidCodePoint_9a6ad_5 : decode cJ11_isValidCodePoint_9a6ad 5 = .ok (.iload_n 1, 1) := by decide +kernel
theorem dJ11_isValidCodePoint_9a6ad_6 : decode cJ11_isValidCodePoint_9a6ad 6 = .ok (.bipush 17, 2) := by decide +kernel
theorem dJ11_isValidCodePoint_9a6ad_8 : decode cJ11_isValidCodePoint_9a6ad 8 = .ok (.if_icmp .ge 7, 3) := by decide +kernel
theorem dJ11_isValidCodePoint_9a6ad_11 : decode cJ11_isValidCodePoint_9a6ad 11 = .ok (.iconst 1, 1) := by decide +kernel
theorem dJ11_isValidCodePoint_9a6ad_12 : decode cJ11_isValidCodePoint_9a6ad 12 = .ok (.goto 4, 3) := by decide +kernel
theorem dJ11_isValidCodePoint_9a6ad_15 : decode cJ11_isValidCodePoint_9a6ad 15 = .ok (.iconst 0, 1) := by decide +kernel
theorem dJ11_isValidCodePoint_9a6ad_16 : decode cJ11_isValidCodePoint_9a6ad 16 = .ok (.ireturn, 1) := by decide +kernel
theorem dJ11_highSurrogate_5068e_0 : decode cJ11_highSurrogate_5068e 0 = .ok (.iload_n 0, 1) := by decide +kernel
theorem dJ11_highSurrogate_5068e_1 : decode cJ11_highSurrogate_5068e 1 = .ok (.bipush 10, 2) := by decide +kernel
theorem dJ11_highSurrogate_5068e_3 : decode cJ11_highSurrogate_5068e 3 = .ok (.iushr, 1) := by decide +kernel
theorem dJ11_highSurrogate_5068e_4 : decode cJ11_highSurrogate_5068e 4 = .ok (.ldc 110, 2) := by decide +kernel
theorem dJ11_highSurrogate_5068e_6 : decode cJ11_highSurrogate_5068e 6 = .ok (.iadd, 1) := by decide +kernel
theorem dJ11_highSurrogate_5068e_7 : decode cJ11_highSurrogate_5068e 7 = .ok (.i2c, 1) := by decide +kernel
theorem dJ11_highSurrogate_5068e_8 : decode cJ11_highSurrogate_5068e 8 = .ok (.ireturn, 1) := by decide +kernel
theorem dJ11_lowSurrogate_5068e_0 : decode cJ11_lowSurrogate_5068e 0 = .ok (.iload_n 0, 1) := by decide +kernel
theorem dJ11_lowSurrogate_5068e_1 : decode cJ11_lowSurrogate_5068e 1 = .ok (.sipush 1023, 3) := by decide +kernel
theorem dJ11_lowSurrogate_5068e_4 : decode cJ11_lowSurrogate_5068e 4 = .ok (.iand, 1) := by decide +kernel
theorem dJ11_lowSurrogate_5068e_5 : decode cJ11_lowSurrogate_5068e 5 = .ok (.ldc 76, 2) := by decide +kernel
theorem dJ11_lowSurrogate_5068e_7 : decode cJ11_lowSurrogate_5068e 7 = .ok (.iadd, 1) := by decide +kernel
theorem dJ11_lowSurrogate_5068e_8 : decode cJ11_lowSurrogate_5068e 8 = .ok (.i2c, 1) := by decide +kernel
theorem dJ11_lowSurrogate_5068e_9 : decode cJ11_lowSurrogate_5068e 9 = .ok (.ireturn, 1) := by decide +kernel
theorem dJ9_abs_0f7a4_0 : decode cJ9_abs_0f7a4 0 = .ok (.iload_n 0, 1) := by decide +kernel
theorem dJ9_abs_0f7a4_1 : decode cJ9_abs_0f7a4 1 = .ok (.ifCond .ge 8, 3) := by decide +kernel
theorem dJ9_abs_0f7a4_4 : decode cJ9_abs_0f7a4 4 = .ok (.iload_n 0, 1) := by decide +kernel
theorem dJ9_abs_0f7a4_5 : decode cJ9_abs_0f7a4 5 = .ok (.ineg, 1) := by decide +kernel
theorem dJ9_abs_0f7a4_6 : decode cJ9_abs_0f7a4 6 = .ok (.goto 4, 3) := by decide +kernel
theorem dJ9_abs_0f7a4_9 : decode cJ9_abs_0f7a4 9 = .ok (.iload_n 0, 1) := by decide +kernel
theorem dJ9_abs_0f7a4_10 : decode cJ9_abs_0f7a4 10 = .ok (.ireturn, 1) := by decide +kernel
theorem dJ9_max_7cf53_0 : decode cJ9_max_7cf53 0 = .ok (.iload_n 0, 1) := by decide +kernel
theorem dJ9_max_7cf53_1 : decode cJ9_max_7cf53 1 = .ok (.iload_n 1, 1) := by decide +kernel
theorem dJ9_max_7cf53_2 : decode cJ9_max_7cf53 2 = .ok (.if_icmp .lt 7, 3) := by decide +kernel
theorem dJ9_max_7cf53_5 : decode cJ9_max_7cf53 5 = .ok (.iload_n 0, 1) := by decide +kernel
theorem dJ9_max_7cf53_6 : decode cJ9_max_7cf53 6 = .ok (.goto 4, 3) := by decide +kernel
theorem dJ9_max_7cf53_9 : decode cJ9_max_7cf53 9 = .ok (.iload_n 1, 1) := by decide +kernel
theorem dJ9_max_7cf53_10 : decode cJ9_max_7cf53 10 = .ok (.ireturn, 1) := by decide +kernel
theorem dJ9_min_7cf53_0 : decode cJ9_min_7cf53 0 = .ok (.iload_n 0, 1) := by decide +kernel
theorem dJ9_min_7cf53_1 : decode cJ9_min_7cf53 1 = .ok (.iload_n 1, 1) := by decide +kernel
theorem dJ9_min_7cf53_2 : decode cJ9_min_7cf53 2 = .ok (.if_icmp .gt 7, 3) := by decide +kernel
theorem dJ9_min_7cf53_5 : decode cJ9_min_7cf53 5 = .ok (.iload_n 0, 1) := by decide +kernel
theorem dJ9_min_7cf53_6 : decode cJ9_min_7cf53 6 = .ok (.goto 4, 3) := by decide +kernel
theorem dJ9_min_7cf53_9 : decode cJ9_min_7cf53 9 = .ok (.iload_n 1, 1) := by decide +kernel
theorem dJ9_min_7cf53_10 : decode cJ9_min_7cf53 10 = .ok (.ireturn, 1) := by decide +kernel
theorem dJ0_length_8abf5_0 : decode cJ0_length_8abf5 0 = .ok (.aload_n 0, 1) := by decide +kernel
theorem dJ0_length_8abf5_1 : decode cJ0_length_8abf5 1 = .ok (.getfield 9, 3) := by decide +kernel
theorem dJ0_length_8abf5_4 : decode cJ0_length_8abf5 4 = .ok (.arraylength, 1) := by decide +kernel
theorem dJ0_length_8abf5_5 : decode cJ0_length_8abf5 5 = .ok (.aload_n 0, 1) := by decide +kernel
theorem dJ0_length_8abf5_6 : decode cJ0_length_8abf5 6 = .ok (.invokevirtual 335, 3) := by decide +kernel
theorem dJ0_length_8abf5_9 : decode cJ0_length_8abf5 9 = .ok (.ishr, 1) := by decide +kernel
theorem dJ0_length_8abf5_10 : decode cJ0_length_8abf5 10 = .ok (.ireturn, 1) := by decide +kernel
theorem dJ0_charAt_5068e_0 : decode cJ0_charAt_5068e 0 = .ok (.aload_n 0, 1) := by decide +kernel
theorem dJ0_charAt_5068e_1 : decode cJ0_charAt_5068e 1 = .ok (.invokevirtual 492, 3) := by decide +kernel
theorem dJ0_charAt_5068e_4 : decode cJ0_charAt_5068e 4 = .ok (.ifCond .eq 12, 3) := by decide +kernel
theorem dJ0_charAt_5068e_7 : decode cJ0_charAt_5068e 7 = .ok (.aload_n 0, 1) := by decide +kernel
theorem dJ0_charAt_5068e_8 : decode cJ0_charAt_5068e 8 = .ok (.getfield 9, 3) := by decide +kernel
theorem dJ0_charAt_5068e_11 : decode cJ0_charAt_5068e 11 = .ok (.iload_n 1, 1) := by decide +kernel
theorem dJ0_charAt_5068e_12 : decode cJ0_charAt_5068e 12 = .ok (.invokestatic 495, 3) := by decide +kernel
theorem dJ0_charAt_5068e_15 : decode cJ0_charAt_5068e 15 = .ok (.ireturn, 1) := by decide +kernel
theorem dJ0_charAt_5068e_16 : decode cJ0_charAt_5068e 16 = .ok (.aload_n 0, 1) := by decide +kernel
theorem dJ0_charAt_5068e_17 : decode cJ0_charAt_5068e 17 = .ok (.getfield 9, 3) := by decide +kernel
theorem dJ0_charAt_5068e_20 : decode cJ0_charAt_5068e 20 = .ok (.iload_n 1, 1) := by decide +kernel
theorem dJ0_charAt_5068e_21 : decode cJ0_charAt_5068e 21 = .ok (.invokestatic 498, 3) := by decide +kernel
theorem dJ0_charAt_5068e_24 : decode cJ0_charAt_5068e 24 = .ok (.ireturn, 1) := by decide +kernel
theorem dJ0_indexOf_0f7a4_0 : decode cJ0_indexOf_0f7a4 0 = .ok (.aload_n 0, 1) := by decide +kernel
theorem dJ0_indexOf_0f7a4_1 : decode cJ0_indexOf_0f7a4 1 = .ok (.iload_n 1, 1) := by decide +kernel
theorem dJ0_indexOf_0f7a4_2 : decode cJ0_indexOf_0f7a4 2 = .ok (.iconst 0, 1) := by decide +kernel
theorem dJ0_indexOf_0f7a4_3 : decode cJ0_indexOf_0f7a4 3 = .ok (.invokevirtual 633, 3) := by decide +kernel
theorem dJ0_indexOf_0f7a4_6 : decode cJ0_indexOf_0f7a4 6 = .ok (.ireturn, 1) := by decide +kernel
theorem dJ0_indexOf_7cf53_0 : decode cJ0_indexOf_7cf53 0 = .ok (.aload_n 0, 1) := by decide +kernel
theorem dJ0_indexOf_7cf53_1 : decode cJ0_indexOf_7cf53 1 = .ok (.invokevirtual 492, 3) := by decide +kernel
theorem dJ0_indexOf_7cf53_4 : decode cJ0_indexOf_7cf53 4 = .ok (.ifCond .eq 19, 3) := by decide +kernel
theorem dJ0_indexOf_7cf53_7 : decode cJ0_indexOf_7cf53 7 = .ok (.aload_n 0, 1) := by decide +kernel
theorem dJ0_indexOf_7cf53_8 : decode cJ0_indexOf_7cf53 8 = .ok (.getfield 9, 3) := by decide +kernel
theorem dJ0_indexOf_7cf53_11 : decode cJ0_indexOf_7cf53 11 = .ok (.iload_n 1, 1) := by decide +kernel
theorem dJ0_indexOf_7cf53_12 : decode cJ0_indexOf_7cf53 12 = .ok (.iload_n 2, 1) := by decide +kernel
theorem dJ0_indexOf_7cf53_13 : decode cJ0_indexOf_7cf53 13 = .ok (.aload_n 0, 1) := by decide +kernel
theorem dJ0_indexOf_7cf53_14 : decode cJ0_indexOf_7cf53 14 = .ok (.invokevirtual 505, 3) := by decide +kernel
theorem dJ0_indexOf_7cf53_17 : decode cJ0_indexOf_7cf53 17 = .ok (.invokestatic 637, 3) := by decide +kernel
theorem dJ0_indexOf_7cf53_20 : decode cJ0_indexOf_7cf53 20 = .ok (.goto 16, 3) := by decide +kernel
theorem dJ0_indexOf_7cf53_23 : decode cJ0_indexOf_7cf53 23 = .ok (.aload_n 0, 1) := by decide +kernel
theorem dJ0_indexOf_7cf53_24 : decode cJ0_indexOf_7cf53 24 = .ok (.getfield 9, 3) := by decide +kernel
theorem dJ0_indexOf_7cf53_27 : decode cJ0_indexOf_7cf53 27 = .ok (.iload_n 1, 1) := by decide +kernel
theorem dJ0_indexOf_7cf53_28 : decode cJ0_indexOf_7cf53 28 = .ok (.iload_n 2, 1) := by decide +kernel
theorem dJ0_indexOf_7cf53_29 : decode cJ0_indexOf_7cf53 29 = .ok (.aload_n 0, 1) := by decide +kernel
theorem dJ0_indexOf_7cf53_30 : decode cJ0_indexOf_7cf53 30 = .ok (.invokevirtual 505, 3) := by decide +kernel
theorem dJ0_indexOf_7cf53_33 : decode cJ0_indexOf_7cf53 33 = .ok (.invokestatic 640, 3) := by decide +kernel
theorem dJ0_indexOf_7cf53_36 : decode cJ0_indexOf_7cf53 36 = .ok (.ireturn, 1) := by decide +kernel
theorem dJ0_coder_7d493_0 : decode cJ0_coder_7d493 0 = .ok (.getstatic 38, 3) := by decide +kernel
theorem dJ0_coder_7d493_3 : decode cJ0_coder_7d493 3 = .ok (.ifCond .eq 10, 3) := by decide +kernel
theorem dJ0_coder_7d493_6 : decode cJ0_coder_7d493 6 = .ok (.aload_n 0, 1) := by decide +kernel
theorem dJ0_coder_7d493_7 : decode cJ0_coder_7d493 7 = .ok (.getfield 15, 3) := by decide +kernel
theorem dJ0_coder_7d493_10 : decode cJ0_coder_7d493 10 = .ok (.goto 4, 3) := by decide +kernel
theorem dJ0_coder_7d493_13 : decode cJ0_coder_7d493 13 = .ok (.iconst 1, 1) := by decide +kernel
theorem dJ0_coder_7d493_14 : decode cJ0_coder_7d493 14 = .ok (.ireturn, 1) := by decide +kernel
theorem dJ0_isLatin1_aae02_0 : decode cJ0_isLatin1_aae02 0 = .ok (.getstatic 38, 3) := by decide +kernel
theorem dJ0_isLatin1_aae02_3 : decode cJ0_isLatin1_aae02 3 = .ok (.ifCond .eq 14, 3) := by decide +kernel
theorem dJ0_isLatin1_aae02_6 : decode cJ0_isLatin1_aae02 6 = .ok (.aload_n 0, 1) := by decide +kernel
theorem dJ0_isLatin1_aae02_7 : decode cJ0_isLatin1_aae02 7 = .ok (.getfield 15, 3) := by decide +kernel
theorem dJ0_isLatin1_aae02_10 : decode cJ0_isLatin1_aae02 10 = .ok (.ifCond .ne 7, 3) := by decide +kernel
theorem dJ0_isLatin1_aae02_13 : decode cJ0_isLatin1_aae02 13 = .ok (.iconst 1, 1) := by decide +kernel
theorem dJ0_isLatin1_aae02_14 : decode cJ0_isLatin1_aae02 14 = .ok (.goto 4, 3) := by decide +kernel
theorem dJ0_isLatin1_aae02_17 : decode cJ0_isLatin1_aae02 17 = .ok (.iconst 0, 1) := by decide +kernel
theorem dJ0_isLatin1_aae02_18 : decode cJ0_isLatin1_aae02 18 = .ok (.ireturn, 1) := by decide +kernel
theorem dJ0_checkIndex_df160_0 : decode cJ0_checkIndex_df160 0 = .ok (.iload_n 0, 1) := by decide +kernel
theorem dJ0_checkIndex_df160_1 : decode cJ0_checkIndex_df160 1 = .ok (.iload_n 1, 1) := by decide +kernel
theorem dJ0_checkIndex_df160_2 : decode cJ0_checkIndex_df160 2 = .ok (.getstatic 1053, 3) := by decide +kernel
theorem dJ0_checkIndex_df160_5 : decode cJ0_checkIndex_df160 5 = .ok (.invokestatic 1059, 3) := by decide +kernel
theorem dJ0_checkIndex_df160_8 : decode cJ0_checkIndex_df160 8 = .ok (.pop, 1) := by decide +kernel
theorem dJ0_checkIndex_df160_9 : decode cJ0_checkIndex_df160 9 = .ok (.return_, 1) := by decide +kernel
theorem dJ0_checkBoundsBeginEnd_23922_0 : decode cJ0_checkBoundsBeginEnd_23922 0 = .ok (.iload_n 0, 1) := by decide +kernel
theorem dJ0_checkBoundsBeginEnd_23922_1 : decode cJ0_checkBoundsBeginEnd_23922 1 = .ok (.iload_n 1, 1) := by decide +kernel
theorem dJ0_checkBoundsBeginEnd_23922_2 : decode cJ0_checkBoundsBeginEnd_23922 2 = .ok (.iload_n 2, 1) := by decide +kernel
theorem dJ0_checkBoundsBeginEnd_23922_3 : decode cJ0_checkBoundsBeginEnd_23922 3 = .ok (.getstatic 1053, 3) := by decide +kernel
theorem dJ0_checkBoundsBeginEnd_23922_6 : decode cJ0_checkBoundsBeginEnd_23922 6 = .ok (.invokestatic 1062, 3) := by decide +kernel
theorem dJ0_checkBoundsBeginEnd_23922_9 : decode cJ0_checkBoundsBeginEnd_23922 9 = .ok (.pop, 1) := by decide +kernel
theorem dJ0_checkBoundsBeginEnd_23922_10 : decode cJ0_checkBoundsBeginEnd_23922 10 = .ok (.return_, 1) := by decide +kernel
theorem dJ1_charAt_3b067_0 : decode cJ1_charAt_3b067 0 = .ok (.iload_n 1, 1) := by decide +kernel
theorem dJ1_charAt_3b067_1 : decode cJ1_charAt_3b067 1 = .ok (.aload_n 0, 1) := by decide +kernel
theorem dJ1_charAt_3b067_2 : decode cJ1_charAt_3b067 2 = .ok (.arraylength, 1) := by decide +kernel
theorem dJ1_charAt_3b067_3 : decode cJ1_charAt_3b067 3 = .ok (.invokestatic 9, 3) := by decide +kernel
theorem dJ1_charAt_3b067_6 : decode cJ1_charAt_3b067 6 = .ok (.aload_n 0, 1) := by decide +kernel
theorem dJ1_charAt_3b067_7 : decode cJ1_charAt_3b067 7 = .ok (.iload_n 1, 1) := by decide +kernel
theorem dJ1_charAt_3b067_8 : decode cJ1_charAt_3b067 8 = .ok (.baload, 1) := by decide +kernel
theorem dJ1_charAt_3b067_9 : decode cJ1_charAt_3b067 9 = .ok (.sipush 255, 3) := by decide +kernel
theorem dJ1_charAt_3b067_12 : decode cJ1_charAt_3b067 12 = .ok (.iand, 1) := by decide +kernel
theorem dJ1_charAt_3b067_13 : decode cJ1_charAt_3b067 13 = .ok (.i2c, 1) := by decide +kernel
theorem dJ1_charAt_3b067_14 : decode cJ1_charAt_3b067 14 = .ok (.ireturn, 1) := by decide +kernel
theorem dJ1_canEncode_9a6ad_0 : decode cJ1_canEncode_9a6ad 0 = .ok (.iload_n 0, 1) := by decide +kernel
theorem dJ1_canEncode_9a6ad_1 : decode cJ1_canEncode_9a6ad 1 = .ok (.ifCond .lt 14, 3) := by decide +kernel
theorem dJ1_canEncode_9a6ad_4 : decode cJ1_canEncode_9a6ad 4 = .ok (.iload_n 0, 1) := by decide +kernel
theorem dJ1_canEncode_9a6ad_5 : decode cJ1_canEncode_9a6ad 5 = .ok (.sipush 255, 3) := by decide +kernel
theorem dJ1_canEncode_9a6ad_8 : decode cJ1_canEncode_9a6ad 8 = .ok (.if_icmp .gt 7, 3) := by decide +kernel
theorem dJ1_canEncode_9a6ad_11 : decode cJ1_canEncode_9a6ad 11 = .ok (.iconst 1, 1) := by decide +kernel
theorem dJ1_canEncode_9a6ad_12 : decode cJ1_canEncode_9a6ad 12 = .ok (.goto 4, 3) := by decide +kernel
theorem dJ1_canEncode_9a6ad_15 : decode cJ1_canEncode_9a6ad 15 = .ok (.iconst 0, 1) := by decide +kernel
theorem dJ1_canEncode_9a6ad_16 : decode cJ1_canEncode_9a6ad 16 = .ok (.ireturn, 1) := by decide +kernel
theorem dJ1_indexOf_4cfef_0 : decode cJ1_indexOf_4cfef 0 = .ok (.iload_n 1, 1) := by decide +kernel
theorem dJ1_indexOf_4cfef_1 : decode cJ1_indexOf_4cfef 1 = .ok (.invokestatic 88, 3) := by decide +kernel
theorem dJ1_indexOf_4cfef_4 : decode cJ1_indexOf_4cfef 4 = .ok (.ifCond .ne 5, 3) := by decide +kernel
theorem dJ1_indexOf_4cfef_7 : decode cJ1_indexOf_4cfef 7 = .ok (.iconst (-1), 1) := by decide +kernel
theorem dJ1_indexOf_4cfef_8 : decode cJ1_indexOf_4cfef 8 = .ok (.ireturn, 1) := by decide +kernel
theorem dJ1_indexOf_4cfef_9 : decode cJ1_indexOf_4cfef 9 = .ok (.iload_n 2, 1) := by decide +kernel
theorem dJ1_indexOf_4cfef_10 : decode cJ1_indexOf_4cfef 10 = .ok (.iconst 0, 1) := by decide +kernel
theorem dJ1_indexOf_4cfef_11 : decode cJ1_indexOf_4cfef 11 = .ok (.invokestatic 92, 3) := by decide +kernel
theorem dJ1_indexOf_4cfef_14 : decode cJ1_indexOf_4cfef 14 = .ok (.istore_n 2, 1) := by decide +kernel
theorem dJ1_indexOf_4cfef_15 : decode cJ1_indexOf_4cfef 15 = .ok (.iload_n 3, 1) := by decide +kernel
theorem dJ1_indexOf_4cfef_16 : decode cJ1_indexOf_4cfef 16 = .ok (.aload_n 0, 1) := by decide +kernel
theorem dJ1_indexOf_4cfef_17 : decode cJ1_indexOf_4cfef 17 = .ok (.arraylength, 1) := by decide +kernel
theorem dJ1_indexOf_4cfef_18 : decode cJ1_indexOf_4cfef 18 = .ok (.invokestatic 38, 3) := by decide +kernel
theorem dJ1_indexOf_4cfef_21 : decode cJ1_indexOf_4cfef 21 = .ok (.istore_n 3, 1) := by decide +kernel
theorem dJ1_indexOf_4cfef_22 : decode cJ1_indexOf_4cfef 22 = .ok (.iload_n 2, 1) := by decide +kernel
theorem dJ1_indexOf_4cfef_23 : decode cJ1_indexOf_4cfef 23 = .ok (.iload_n 3, 1) := by decide +kernel
theorem dJ1_indexOf_4cfef_24 : decode cJ1_indexOf_4cfef 24 = .ok (.if_icmp .lt 5, 3) := by decide +kernel
theorem dJ1_indexOf_4cfef_27 : decode cJ1_indexOf_4cfef 27 = .ok (.iconst (-1), 1) := by decide +kernel
theorem dJ1_indexOf_4cfef_28 : decode cJ1_indexOf_4cfef 28 = .ok (.ireturn, 1) := by decide +kernel
theorem dJ1_indexOf_4cfef_29 : decode cJ1_indexOf_4cfef 29 = .ok (.aload_n 0, 1) := by decide +kernel
theorem dJ1_indexOf_4cfef_30 : decode cJ1_indexOf_4cfef 30 = .ok (.iload_n 1, 1) := by decide +kernel
theorem dJ1_indexOf_4cfef_31 : decode cJ1_indexOf_4cfef 31 = .ok (.iload_n 2, 1) := by decide +kernel
theorem dJ1_indexOf_4cfef_32 : decode cJ1_indexOf_4cfef 32 = .ok (.iload_n 3, 1) := by decide +kernel
theorem dJ1_indexOf_4cfef_33 : decode cJ1_indexOf_4cfef 33 = .ok (.invokestatic 95, 3) := by decide +kernel
theorem dJ1_indexOf_4cfef_36 : decode cJ1_indexOf_4cfef 36 = .ok (.ireturn, 1) := by decide +kernel
theorem dJ1_indexOfChar_4cfef_0 : decode cJ1_indexOfChar_4cfef 0 = .ok (.iload_n 1, 1) := by decide +kernel
theorem dJ1_indexOfChar_4cfef_1 : decode cJ1_indexOfChar_4cfef 1 = .ok (.i2b, 1) := by decide +kernel
theorem dJ1_indexOfChar_4cfef_2 : decode cJ1_indexOfChar_4cfef 2 = .ok (.istore 4, 2) := by decide +kernel
theorem dJ1_indexOfChar_4cfef_4 : decode cJ1_indexOfChar_4cfef 4 = .ok (.iload_n 2, 1) := by decide +kernel
theorem dJ1_indexOfChar_4cfef_5 : decode cJ1_indexOfChar_4cfef 5 = .ok (.istore 5, 2) := by decide +kernel
theorem dJ1_indexOfChar_4cfef_7 : decode cJ1_indexOfChar_4cfef 7 = .ok (.iload 5, 2) := by decide +kernel
theorem dJ1_indexOfChar_4cfef_9 : decode cJ1_indexOfChar_4cfef 9 = .ok (.iload_n 3, 1) := by decide +kernel
theorem dJ1_indexOfChar_4cfef_10 : decode cJ1_indexOfChar_4cfef 10 = .ok (.if_icmp .ge 21, 3) := by decide +kernel
theorem dJ1_indexOfChar_4cfef_13 : decode cJ1_indexOfChar_4cfef 13 = .ok (.aload_n 0, 1) := by decide +kernel
theorem dJ1_indexOfChar_4cfef_14 : decode cJ1_indexOfChar_4cfef 14 = .ok (.iload 5, 2) := by decide +kernel
theorem dJ1_indexOfChar_4cfef_16 : decode cJ1_indexOfChar_4cfef 16 = .ok (.baload, 1) := by decide +kernel
theorem dJ1_indexOfChar_4cfef_17 : decode cJ1_indexOfChar_4cfef 17 = .ok (.iload 4, 2) := by decide +kernel
theorem dJ1_indexOfChar_4cfef_19 : decode cJ1_indexOfChar_4cfef 19 = .ok (.if_icmp .ne 6, 3) := by decide +kernel
theorem dJ1_indexOfChar_4cfef_22 : decode cJ1_indexOfChar_4cfef 22 = .ok (.iload 5, 2) := by decide +kernel
theorem dJ1_indexOfChar_4cfef_24 : decode cJ1_indexOfChar_4cfef 24 = .ok (.ireturn, 1) := by decide +kernel
theorem dJ1_indexOfChar_4cfef_25 : decode cJ1_indexOfChar_4cfef 25 = .ok (.iinc 5 1, 3) := by decide +kernel
theorem dJ1_indexOfChar_4cfef_28 : decode cJ1_indexOfChar_4cfef 28 = .ok (.goto (-21), 3) := by decide +kernel
theorem dJ1_indexOfChar_4cfef_31 : decode cJ1_indexOfChar_4cfef 31 = .ok (.iconst (-1), 1) := by decide +kernel
theorem dJ1_indexOfChar_4cfef_32 : decode cJ1_indexOfChar_4cfef 32 = .ok (.ireturn, 1) := by decide +kernel
theorem dJ2_getChar_3b067_0 : decode cJ2_getChar_3b067 0 = .ok (.getstatic 44, 3) := by decide +kernel
theorem dJ2_getChar_3b067_3 : decode cJ2_getChar_3b067 3 = .ok (.ifCond .ne 25, 3) := by decide +kernel
theorem dJ2_getChar_3b067_6 : decode cJ2_getChar_3b067 6 = .ok (.iload_n 1, 1) := by decide +kernel
theorem dJ2_getChar_3b067_7 : decode cJ2_getChar_3b067 7 = .ok (.ifCond .lt 11, 3) := by decide +kernel
theorem dJ2_getChar_3b067_10 : decode cJ2_getChar_3b067 10 = .ok (.iload_n 1, 1) := by decide +kernel
theorem dJ2_getChar_3b067_11 : decode cJ2_getChar_3b067 11 = .ok (.aload_n 0, 1) := by decide +kernel
theorem dJ2_getChar_3b067_12 : decode cJ2_getChar_3b067 12 = .ok (.invokestatic 48, 3) := by decide +kernel
theorem dJ2_getChar_3b067_15 : decode cJ2_getChar_3b067 15 = .ok (.if_icmp .lt 13, 3) := by decide +kernel
theorem dJ2_getChar_3b067_18 : decode cJ2_getChar_3b067 18 = .ok (.new 52, 3) := by decide +kernel
theorem dJ2_getChar_3b067_21 : decode cJ2_getChar_3b067 21 = .ok (.dup, 1) := by decide +kernel
theorem dJ2_getChar_3b067_22 : decode cJ2_getChar_3b067 22 = .ok (.ldc 54, 2) := by decide +kernel
theorem dJ2_getChar_3b067_24 : decode cJ2_getChar_3b067 24 = .ok (.invokespecial 56, 3) := by decide +kernel
theorem dJ2_getChar_3b067_27 : decode cJ2_getChar_3b067 27 = .ok (.athrow, 1) := by decide +kernel
theorem dJ2_getChar_3b067_28 : decode cJ2_getChar_3b067 28 = .ok (.iload_n 1, 1) := by decide +kernel
theorem dJ2_getChar_3b067_29 : decode cJ2_getChar_3b067 29 = .ok (.iconst 1, 1) := by decide +kernel
theorem dJ2_getChar_3b067_30 : decode cJ2_getChar_3b067 30 = .ok (.ishl, 1) := by decide +kernel
theorem dJ2_getChar_3b067_31 : decode cJ2_getChar_3b067 31 = .ok (.istore_n 1, 1) := by decide +kernel
theorem dJ2_getChar_3b067_32 : decode cJ2_getChar_3b067 32 = .ok (.aload_n 0, 1) := by decide +kernel
theorem dJ2_getChar_3b067_33 : decode cJ2_getChar_3b067 33 = .ok (.iload_n 1, 1) := by decide +kernel
theorem dJ2_getChar_3b067_34 : decode cJ2_getChar_3b067 34 = .ok (.iinc 1 1, 3) := by decide +kernel
theorem dJ2_getChar_3b067_37 : decode cJ2_getChar_3b067 37 = .ok (.baload, 1) := by decide +kernel
theorem dJ2_getChar_3b067_38 : decode cJ2_getChar_3b067 38 = .ok (.sipush 255, 3) := by decide +kernel
theorem dJ2_getChar_3b067_41 : decode cJ2_getChar_3b067 41 = .ok (.iand, 1) := by decide +kernel
theorem dJ2_getChar_3b067_42 : decode cJ2_getChar_3b067 42 = .ok (.getstatic 59, 3) := by decide +kernel
theorem dJ2_getChar_3b067_45 : decode cJ2_getChar_3b067 45 = .ok (.ishl, 1) := by decide +kernel
theorem dJ2_getChar_3b067_46 : decode cJ2_getChar_3b067 46 = .ok (.aload_n 0, 1) := by decide +kernel
theorem dJ2_getChar_3b067_47 : decode cJ2_getChar_3b067 47 = .ok (.iload_n 1, 1) := by decide +kernel
theorem dJ2_getChar_3b067_48 : decode cJ2_getChar_3b067 48 = .ok (.baload, 1) := by decide +kernel
theorem dJ2_getChar_3b067_49 : decode cJ2_getChar_3b067 49 = .ok (.sipush 255, 3) := by decide +kernel
theorem dJ2_getChar_3b067_52 : decode cJ2_getChar_3b067 52 = .ok (.iand, 1) := by decide +kernel
theorem dJ2_getChar_3b067_53 : decode cJ2_getChar_3b067 53 = .ok (.getstatic 63, 3) := by decide +kernel
theorem dJ2_getChar_3b067_56 : decode cJ2_getChar_3b067 56 = .ok (.ishl, 1) := by decide +kernel
theorem dJ2_getChar_3b067_57 : decode cJ2_getChar_3b067 57 = .ok (.ior, 1) := by decide +kernel
theorem dJ2_getChar_3b067_58 : decode cJ2_getChar_3b067 58 = .ok (.i2c, 1) := by decide +kernel
theorem dJ2_getChar_3b067_59 : decode cJ2_getChar_3b067 59 = .ok (.ireturn, 1) := by decide +kernel
theorem dJ2_length_9d52b_0 : decode cJ2_length_9d52b 0 = .ok (.aload_n 0, 1) := by decide +kernel
theorem dJ2_length_9d52b_1 : decode cJ2_length_9d52b 1 = .ok (.arraylength, 1) := by decide +kernel
theorem dJ2_length_9d52b_2 : decode cJ2_length_9d52b 2 = .ok (.iconst 1, 1) := by decide +kernel
theorem dJ2_length_9d52b_3 : decode cJ2_length_9d52b 3 = .ok (.ishr, 1) := by decide +kernel
theorem dJ2_length_9d52b_4 : decode cJ2_length_9d52b 4 = .ok (.ireturn, 1) := by decide +kernel
theorem dJ2_indexOf_4cfef_0 : decode cJ2_indexOf_4cfef 0 = .ok (.iload_n 2, 1) := by decide +kernel
theorem dJ2_indexOf_4cfef_1 : decode cJ2_indexOf_4cfef 1 = .ok (.iconst 0, 1) := by decide +kernel
theorem dJ2_indexOf_4cfef_2 : decode cJ2_indexOf_4cfef 2 = .ok (.invokestatic 224, 3) := by decide +kernel
theorem dJ2_indexOf_4cfef_5 : decode cJ2_indexOf_4cfef 5 = .ok (.istore_n 2, 1) := by decide +kernel
theorem dJ2_indexOf_4cfef_6 : decode cJ2_indexOf_4cfef 6 = .ok (.iload_n 3, 1) := by decide +kernel
theorem dJ2_indexOf_4cfef_7 : decode cJ2_indexOf_4cfef 7 = .ok (.aload_n 0, 1) := by decide +kernel
theorem dJ2_indexOf_4cfef_8 : decode cJ2_indexOf_4cfef 8 = .ok (.arraylength, 1) := by decide +kernel
theorem dJ2_indexOf_4cfef_9 : decode cJ2_indexOf_4cfef 9 = .ok (.iconst 1, 1) := by decide +kernel
theorem dJ2_indexOf_4cfef_10 : decode cJ2_indexOf_4cfef 10 = .ok (.ishr, 1) := by decide +kernel
theorem dJ2_indexOf_4cfef_11 : decode cJ2_indexOf_4cfef 11 = .ok (.invokestatic 183, 3) := by decide +kernel
theorem dJ2_indexOf_4cfef_14 : decode cJ2_indexOf_4cfef 14 = .ok (.istore_n 3, 1) := by decide +kernel
theorem dJ2_indexOf_4cfef_15 : decode cJ2_indexOf_4cfef 15 = .ok (.iload_n 2, 1) := by decide +kernel
theorem dJ2_indexOf_4cfef_16 : decode cJ2_indexOf_4cfef 16 = .ok (.iload_n 3, 1) := by decide +kernel
theorem dJ2_indexOf_4cfef_17 : decode cJ2_indexOf_4cfef 17 = .ok (.if_icmp .lt 5, 3) := by decide +kernel
theorem dJ2_indexOf_4cfef_20 : decode cJ2_indexOf_4cfef 20 = .ok (.iconst (-1), 1) := by decide +kernel
theorem dJ2_indexOf_4cfef_21 : decode cJ2_indexOf_4cfef 21 = .ok (.ireturn, 1) := by decide +kernel
theorem dJ2_indexOf_4cfef_22 : decode cJ2_indexOf_4cfef 22 = .ok (.iload_n 1, 1) := by decide +kernel
theorem dJ2_indexOf_4cfef_23 : decode cJ2_indexOf_4cfef 23 = .ok (.ldc 227, 2) := by decide +kernel
theorem dJ2_indexOf_4cfef_25 : decode cJ2_indexOf_4cfef 25 = .ok (.if_icmp .ge 11, 3) := by decide +kernel
theorem dJ2_indexOf_4cfef_28 : decode cJ2_indexOf_4cfef 28 = .ok (.aload_n 0, 1) := by decide +kernel
theorem dJ2_indexOf_4cfef_29 : decode cJ2_indexOf_4cfef 29 = .ok (.iload_n 1, 1) := by decide +kernel
theorem dJ2_indexOf_4cfef_30 : decode cJ2_indexOf_4cfef 30 = .ok (.iload_n 2, 1) := by decide +kernel
theorem dJ2_indexOf_4cfef_31 : decode cJ2_indexOf_4cfef 31 = .ok (.iload_n 3, 1) := by decide +kernel
theorem dJ2_indexOf_4cfef_32 : decode cJ2_indexOf_4cfef 32 = .ok (.invokestatic 228, 3) := by decide +kernel
theorem dJ2_indexOf_4cfef_35 : decode cJ2_indexOf_4cfef 35 = .ok (.ireturn, 1) := by decide +kernel
theorem dJ2_indexOf_4cfef_36 : decode cJ2_indexOf_4cfef 36 = .ok (.aload_n 0, 1) := by decide +kernel
theorem dJ2_indexOf_4cfef_37 : decode cJ2_indexOf_4cfef 37 = .ok (.iload_n 1, 1) := by decide +kernel
theorem dJ2_indexOf_4cfef_38 : decode cJ2_indexOf_4cfef 38 = .ok (.iload_n 2, 1) := by decide +kernel
theorem dJ2_indexOf_4cfef_39 : decode cJ2_indexOf_4cfef 39 = .ok (.iload_n 3, 1) := by decide +kernel
theorem dJ2_indexOf_4cfef_40 : decode cJ2_indexOf_4cfef 40 = .ok (.invokestatic 232, 3) := by decide +kernel
theorem dJ2_indexOf_4cfef_43 : decode cJ2_indexOf_4cfef 43 = .ok (.ireturn, 1) := by decide +kernel
theorem dJ2_indexOfChar_4cfef_0 : decode cJ2_indexOfChar_4cfef 0 = .ok (.iload_n 2, 1) := by decide +kernel
theorem dJ2_indexOfChar_4cfef_1 : decode cJ2_indexOfChar_4cfef 1 = .ok (.iload_n 3, 1) := by decide +kernel
theorem dJ2_indexOfChar_4cfef_2 : decode cJ2_indexOfChar_4cfef 2 = .ok (.aload_n 0, 1) := by decide +kernel
theorem dJ2_indexOfChar_4cfef_3 : decode cJ2_indexOfChar_4cfef 3 = .ok (.invokestatic 96, 3) := by decide +kernel
theorem dJ2_indexOfChar_4cfef_6 : decode cJ2_indexOfChar_4cfef 6 = .ok (.aload_n 0, 1) := by decide +kernel
theorem dJ2_indexOfChar_4cfef_7 : decode cJ2_indexOfChar_4cfef 7 = .ok (.iload_n 1, 1) := by decide +kernel
theorem dJ2_indexOfChar_4cfef_8 : decode cJ2_indexOfChar_4cfef 8 = .ok (.iload_n 2, 1) := by decide +kernel
theorem dJ2_indexOfChar_4cfef_9 : decode cJ2_indexOfChar_4cfef 9 = .ok (.iload_n 3, 1) := by decide +kernel
theorem dJ2_indexOfChar_4cfef_10 : decode cJ2_indexOfChar_4cfef 10 = .ok (.invokestatic 244, 3) := by decide +kernel
theorem dJ2_indexOfChar_4cfef_13 : decode cJ2_indexOfChar_4cfef 13 = .ok (.ireturn, 1) := by decide +kernel
theorem dJ2_indexOfCharUnsafe_4cfef_0 : decode cJ2_indexOfCharUnsafe_4cfef 0 = .ok (.iload_n 2, 1) := by decide +kernel
theorem dJ2_indexOfCharUnsafe_4cfef_1 : decode cJ2_indexOfCharUnsafe_4cfef 1 = .ok (.istore 4, 2) := by decide +kernel
theorem dJ2_indexOfCharUnsafe_4cfef_3 : decode cJ2_indexOfCharUnsafe_4cfef 3 = .ok (.iload 4, 2) := by decide +kernel
theorem dJ2_indexOfCharUnsafe_4cfef_5 : decode cJ2_indexOfCharUnsafe_4cfef 5 = .ok (.iload_n 3, 1) := by decide +kernel
theorem dJ2_indexOfCharUnsafe_4cfef_6 : decode cJ2_indexOfCharUnsafe_4cfef 6 = .ok (.if_icmp .ge 22, 3) := by decide +kernel
theorem dJ2_indexOfCharUnsafe_4cfef_9 : decode cJ2_indexOfCharUnsafe_4cfef 9 = .ok (.aload_n 0, 1) := by decide +kernel
theorem dJ2_indexOfCharUnsafe_4cfef_10 : decode cJ2_indexOfCharUnsafe_4cfef 10 = .ok (.iload 4, 2) := by decide +kernel
theorem dJ2_indexOfCharUnsafe_4cfef_12 : decode cJ2_indexOfCharUnsafe_4cfef 12 = .ok (.invokestatic 71, 3) := by decide +kernel
theorem dJ2_indexOfCharUnsafe_4cfef_15 : decode cJ2_indexOfCharUnsafe_4cfef 15 = .ok (.iload_n 1, 1) := by decide +kernel
theorem dJ2_indexOfCharUnsafe_4cfef_16 : decode cJ2_indexOfCharUnsafe_4cfef 16 = .ok (.if_icmp .ne 6, 3) := by decide +kernel
theorem dJ2_indexOfCharUnsafe_4cfef_19 : decode cJ2_indexOfCharUnsafe_4cfef 19 = .ok (.iload 4, 2) := by decide +kernel
theorem dJ2_indexOfCharUnsafe_4cfef_21 : decode cJ2_indexOfCharUnsafe_4cfef 21 = .ok (.ireturn, 1) := by decide +kernel
theorem dJ2_indexOfCharUnsafe_4cfef_22 : decode cJ2_indexOfCharUnsafe_4cfef 22 = .ok (.iinc 4 1, 3) := by decide +kernel
theorem dJ2_indexOfCharUnsafe_4cfef_25 : decode cJ2_indexOfCharUnsafe_4cfef 25 = .ok (.goto (-22), 3) := by decide +kernel
theorem dJ2_indexOfCharUnsafe_4cfef_28 : decode cJ2_indexOfCharUnsafe_4cfef 28 = .ok (.iconst (-1), 1) := by decide +kernel
theorem dJ2_indexOfCharUnsafe_4cfef_29 : decode cJ2_indexOfCharUnsafe_4cfef 29 = .ok (.ireturn, 1) := by decide +kernel
theorem dJ2_indexOfSupplementary_4cfef_0 : decode cJ2_indexOfSupplementary_4cfef 0 = .ok (.iload_n 1, 1) := by decide +kernel
theorem dJ2_indexOfSupplementary_4cfef_1 : decode cJ2_indexOfSupplementary_4cfef 1 = .ok (.invokestatic 164, 3) := by decide +kernel
theorem dJ2_indexOfSupplementary_4cfef_4 : decode cJ2_indexOfSupplementary_4cfef 4 = .ok (.ifCond .eq 65, 3) := by decide +kernel
theorem dJ2_indexOfSupplementary_4cfef_7 : decode cJ2_indexOfSupplementary_4cfef 7 = .ok (.iload_n 1, 1) := by decide +kernel
theorem dJ2_indexOfSupplementary_4cfef_8 : decode cJ2_indexOfSupplementary_4cfef 8 = .ok (.invokestatic 157, 3) := by decide +kernel
theorem dJ2_indexOfSupplementary_4cfef_11 : decode cJ2_indexOfSupplementary_4cfef 11 = .ok (.istore 4, 2) := by decide +kernel
theorem dJ2_indexOfSupplementary_4cfef_13 : decode cJ2_indexOfSupplementary_4cfef 13 = .ok (.iload_n 1, 1) := by decide +kernel
theorem dJ2_indexOfSupplementary_4cfef_14 : decode cJ2_indexOfSupplementary_4cfef 14 = .ok (.invokestatic 161, 3) := by decide +kernel
theorem dJ2_indexOfSupplementary_4cfef_17 : decode cJ2_indexOfSupplementary_4cfef 17 = .ok (.istore 5, 2) := by decide +kernel
theorem dJ2_indexOfSupplementary_4cfef_19 : decode cJ2_indexOfSupplementary_4cfef 19 = .ok (.iload_n 2, 1) := by decide +kernel
theorem dJ2_indexOfSupplementary_4cfef_20 : decode cJ2_indexOfSupplementary_4cfef 20 = .ok (.iload_n 3, 1) := by decide +kernel
theorem dJ2_indexOfSupplementary_4cfef_21 : decode cJ2_indexOfSupplementary_4cfef 21 = .ok (.aload_n 0, 1) := by decide +kernel
theorem dJ2_indexOfSupplementary_4cfef_22 : decode cJ2_indexOfSupplementary_4cfef 22 = .ok (.invokestatic 96, 3) := by decide +kernel
theorem dJ2_indexOfSupplementary_4cfef_25 : decode cJ2_indexOfSupplementary_4cfef 25 = .ok (.iload_n 2, 1) := by decide +kernel
theorem dJ2_indexOfSupplementary_4cfef_26 : decode cJ2_indexOfSupplementary_4cfef 26 = .ok (.istore 6, 2) := by decide +kernel
theorem dJ2_indexOfSupplementary_4cfef_28 : decode cJ2_indexOfSupplementary_4cfef 28 = .ok (.iload 6, 2) := by decide +kernel
theorem dJ2_indexOfSupplementary_4cfef_30 : decode cJ2_indexOfSupplementary_4cfef 30 = .ok (.iload_n 3, 1) := by decide +kernel
theorem dJ2_indexOfSupplementary_4cfef_31 : decode cJ2_indexOfSupplementary_4cfef 31 = .ok (.iconst 1, 1) := by decide +kernel
theorem dJ2_indexOfSupplementary_4cfef_32 : decode cJ2_indexOfSupplementary_4cfef 32 = .ok (.isub, 1) := by decide +kernel
theorem dJ2_indexOfSupplementary_4cfef_33 : decode cJ2_indexOfSupplementary_4cfef 33 = .ok (.if_icmp .ge 36, 3) := by decide +kernel
theorem dJ2_indexOfSupplementary_4cfef_36 : decode cJ2_indexOfSupplementary_4cfef 36 = .ok (.aload_n 0, 1) := by decide +kernel
theorem dJ2_indexOfSupplementary_4cfef_37 : decode cJ2_indexOfSupplementary_4cfef 37 = .ok (.iload 6, 2) := by decide +kernel
theorem dJ2_indexOfSupplementary_4cfef_39 : decode cJ2_indexOfSupplementary_4cfef 39 = .ok (.invokestatic 71, 3) := by decide +kernel
theorem dJ2_indexOfSupplementary_4cfef_42 : decode cJ2_indexOfSupplementary_4cfef 42 = .ok (.iload 4, 2) := by decide +kernel
theorem dJ2_indexOfSupplementary_4cfef_44 : decode cJ2_indexOfSupplementary_4cfef 44 = .ok (.if_icmp .ne 19, 3) := by decide +kernel
theorem dJ2_indexOfSupplementary_4cfef_47 : decode cJ2_indexOfSupplementary_4cfef 47 = .ok (.aload_n 0, 1) := by decide +kernel
theorem dJ2_indexOfSupplementary_4cfef_48 : decode cJ2_indexOfSupplementary_4cfef 48 = .ok (.iload 6, 2) := by decide +kernel
theorem dJ2_indexOfSupplementary_4cfef_50 : decode cJ2_indexOfSupplementary_4cfef 50 = .ok (.iconst 1, 1) := by decide +kernel
theorem dJ2_indexOfSupplementary_4cfef_51 : decode cJ2_indexOfSupplementary_4cfef 51 = .ok (.iadd, 1) := by decide +kernel
theorem dJ2_indexOfSupplementary_4cfef_52 : decode cJ2_indexOfSupplementary_4cfef 52 = .ok (.invokestatic 71, 3) := by decide +kernel
theorem dJ2_indexOfSupplementary_4cfef_55 : decode cJ2_indexOfSupplementary_4cfef 55 = .ok (.iload 5, 2) := by decide +kernel
theorem dJ2_indexOfSupplementary_4cfef_57 : decode cJ2_indexOfSupplementary_4cfef 57 = .ok (.if_icmp .ne 6, 3) := by decide +kernel
theorem dJ2_indexOfSupplementary_4cfef_60 : decode cJ2_indexOfSupplementary_4cfef 60 = .ok (.iload 6, 2) := by decide +kernel
theorem dJ2_indexOfSupplementary_4cfef_62 : decode cJ2_indexOfSupplementary_4cfef 62 = .ok (.ireturn, 1) := by decide +kernel
theorem dJ2_indexOfSupplementary_4cfef_63 : decode cJ2_indexOfSupplementary_4cfef 63 = .ok (.iinc 6 1, 3) := by decide +kernel
theorem dJ2_indexOfSupplementary_4cfef_66 : decode cJ2_indexOfSupplementary_4cfef 66 = .ok (.goto (-38), 3) := by decide +kernel
theorem dJ2_indexOfSupplementary_4cfef_69 : decode cJ2_indexOfSupplementary_4cfef 69 = .ok (.iconst (-1), 1) := by decide +kernel
theorem dJ2_indexOfSupplementary_4cfef_70 : decode cJ2_indexOfSupplementary_4cfef 70 = .ok (.ireturn, 1) := by decide +kernel
theorem dJ2_charAt_3b067_0 : decode cJ2_charAt_3b067 0 = .ok (.iload_n 1, 1) := by decide +kernel
theorem dJ2_charAt_3b067_1 : decode cJ2_charAt_3b067 1 = .ok (.aload_n 0, 1) := by decide +kernel
theorem dJ2_charAt_3b067_2 : decode cJ2_charAt_3b067 2 = .ok (.invokestatic 67, 3) := by decide +kernel
theorem dJ2_charAt_3b067_5 : decode cJ2_charAt_3b067 5 = .ok (.aload_n 0, 1) := by decide +kernel
theorem dJ2_charAt_3b067_6 : decode cJ2_charAt_3b067 6 = .ok (.iload_n 1, 1) := by decide +kernel
theorem dJ2_charAt_3b067_7 : decode cJ2_charAt_3b067 7 = .ok (.invokestatic 71, 3) := by decide +kernel
theorem dJ2_charAt_3b067_10 : decode cJ2_charAt_3b067 10 = .ok (.ireturn, 1) := by decide +kernel
theorem dJ2_checkIndex_2214a_0 : decode cJ2_checkIndex_2214a 0 = .ok (.iload_n 0, 1) := by decide +kernel
theorem dJ2_checkIndex_2214a_1 : decode cJ2_checkIndex_2214a 1 = .ok (.aload_n 1, 1) := by decide +kernel
theorem dJ2_checkIndex_2214a_2 : decode cJ2_checkIndex_2214a 2 = .ok (.invokestatic 48, 3) := by decide +kernel
theorem dJ2_checkIndex_2214a_5 : decode cJ2_checkIndex_2214a 5 = .ok (.invokestatic 414, 3) := by decide +kernel
theorem dJ2_checkIndex_2214a_8 : decode cJ2_checkIndex_2214a 8 = .ok (.return_, 1) := by decide +kernel
theorem dJ2_checkBoundsBeginEnd_d044e_0 : decode cJ2_checkBoundsBeginEnd_d044e 0 = .ok (.iload_n 0, 1) := by decide +kernel
theorem dJ2_checkBoundsBeginEnd_d044e_1 : decode cJ2_checkBoundsBeginEnd_d044e 1 = .ok (.iload_n 1, 1) := by decide +kernel
theorem dJ2_checkBoundsBeginEnd_d044e_2 : decode cJ2_checkBoundsBeginEnd_d044e 2 = .ok (.aload_n 2, 1) := by decide +kernel
theorem dJ2_checkBoundsBeginEnd_d044e_3 : decode cJ2_checkBoundsBeginEnd_d044e 3 = .ok (.invokestatic 48, 3) := by decide +kernel
theorem dJ2_checkBoundsBeginEnd_d044e_6 : decode cJ2_checkBoundsBeginEnd_d044e 6 = .ok (.invokestatic 241, 3) := by decide +kernel
theorem dJ2_checkBoundsBeginEnd_d044e_9 : decode cJ2_checkBoundsBeginEnd_d044e 9 = .ok (.return_, 1) := by decide +kernel
theorem dJ3_checkIndex_8e157_0 : decode cJ3_checkIndex_8e157 0 = .ok (.iload_n 0, 1) := by decide +kernel
theorem dJ3_checkIndex_8e157_1 : decode cJ3_checkIndex_8e157 1 = .ok (.ifCond .lt 8, 3) := by decide +kernel
theorem dJ3_checkIndex_8e157_4 : decode cJ3_checkIndex_8e157 4 = .ok (.iload_n 0, 1) := by decide +kernel
theorem dJ3_checkIndex_8e157_5 : decode cJ3_checkIndex_8e157 5 = .ok (.iload_n 1, 1) := by decide +kernel
theorem dJ3_checkIndex_8e157_6 : decode cJ3_checkIndex_8e157 6 = .ok (.if_icmp .lt 10, 3) := by decide +kernel
theorem dJ3_checkIndex_8e157_9 : decode cJ3_checkIndex_8e157 9 = .ok (.aload_n 2, 1) := by decide +kernel
theorem dJ3_checkIndex_8e157_10 : decode cJ3_checkIndex_8e157 10 = .ok (.iload_n 0, 1) := by decide +kernel
theorem dJ3_checkIndex_8e157_11 : decode cJ3_checkIndex_8e157 11 = .ok (.iload_n 1, 1) := by decide +kernel
theorem dJ3_checkIndex_8e157_12 : decode cJ3_checkIndex_8e157 12 = .ok (.invokestatic 95, 3) := by decide +kernel
theorem dJ3_checkIndex_8e157_15 : decode cJ3_checkIndex_8e157 15 = .ok (.athrow, 1) := by decide +kernel
theorem dJ3_checkIndex_8e157_16 : decode cJ3_checkIndex_8e157 16 = .ok (.iload_n 0, 1) := by decide +kernel
theorem dJ3_checkIndex_8e157_17 : decode cJ3_checkIndex_8e157 17 = .ok (.ireturn, 1) := by decide +kernel
theorem dJ3_checkFromToIndex_8c36e_0 : decode cJ3_checkFromToIndex_8c36e 0 = .ok (.iload_n 0, 1) := by decide +kernel
theorem dJ3_checkFromToIndex_8c36e_1 : decode cJ3_checkFromToIndex_8c36e 1 = .ok (.ifCond .lt 13, 3) := by decide +kernel
theorem dJ3_checkFromToIndex_8c36e_4 : decode cJ3_checkFromToIndex_8c36e 4 = .ok (.iload_n 0, 1) := by decide +kernel
theorem dJ3_checkFromToIndex_8c36e_5 : decode cJ3_checkFromToIndex_8c36e 5 = .ok (.iload_n 1, 1) := by decide +kernel
theorem dJ3_checkFromToIndex_8c36e_6 : decode cJ3_checkFromToIndex_8c36e 6 = .ok (.if_icmp .gt 8, 3) := by decide +kernel
theorem dJ3_checkFromToIndex_8c36e_9 : decode cJ3_checkFromToIndex_8c36e 9 = .ok (.iload_n 1, 1) := by decide +kernel
theorem dJ3_checkFromToIndex_8c36e_10 : decode cJ3_checkFromToIndex_8c36e 10 = .ok (.iload_n 2, 1) := by decide +kernel
theorem dJ3_checkFromToIndex_8c36e_11 : decode cJ3_checkFromToIndex_8c36e 11 = .ok (.if_icmp .le 11, 3) := by decide +kernel
theorem dJ3_checkFromToIndex_8c36e_14 : decode cJ3_checkFromToIndex_8c36e 14 = .ok (.aload_n 3, 1) := by decide +kernel
theorem dJ3_checkFromToIndex_8c36e_15 : decode cJ3_checkFromToIndex_8c36e 15 = .ok (.iload_n 0, 1) := by decide +kernel
theorem dJ3_checkFromToIndex_8c36e_16 : decode cJ3_checkFromToIndex_8c36e 16 = .ok (.iload_n 1, 1) := by decide +kernel
theorem dJ3_checkFromToIndex_8c36e_17 : decode cJ3_checkFromToIndex_8c36e 17 = .ok (.iload_n 2, 1) := by decide +kernel
theorem dJ3_checkFromToIndex_8c36e_18 : decode cJ3_checkFromToIndex_8c36e 18 = .ok (.invokestatic 99, 3) := by decide +kernel
theorem dJ3_checkFromToIndex_8c36e_21 : decode cJ3_checkFromToIndex_8c36e 21 = .ok (.athrow, 1) := by decide +kernel
theorem dJ3_checkFromToIndex_8c36e_22 : decode cJ3_checkFromToIndex_8c36e 22 = .ok (.iload_n 0, 1) := by decide +kernel
theorem dJ3_checkFromToIndex_8c36e_23 : decode cJ3_checkFromToIndex_8c36e 23 = .ok (.ireturn, 1) := by decide +kernel
end
section
/-! ===== the working layer: a heap by functions (shapes, ints, references), a frame by lists; V: 'from this frame the method comes to its end'; Ok: a method's contract ===== -/
def GW : List Cond := lw_tbl.filter goodWord
theorem mem_gw {w : Cond} (i : Nat) (h : lw_tbl[i]? = some w) (g : goodWord w = true) : w ∈ GW := List.mem_filter.mpr ⟨List.mem_of_getElem? h, g⟩
theorem gw_good {w : Cond} (h : w ∈ GW) : (w.onTables && w.keeps) = true ∨ ∃ ty, w = .arrayClass ty := good_of_word (List.mem_filter.mp h).2
theorem gw_in : GoodIn GW GW := fun w h => ⟨h, gw_good h⟩
abbrev Sh : Type := Nat → Option (Nat × Nat)
abbrev Gr : Type := Nat → Nat → Value
abbrev In : Type := Nat → Nat → Int32
/-- shapes, references, the next address -/
abbrev St : Type := Sh × Gr × Nat
/-- what stands ahead and is never written: the table ABOVE; the script; the String constants, their bytes -/
abbrev Ro : Type := Nat × (Nat × Nat × (Nat → Int32)) × (Nat → Nat) × (Nat → Nat)
abbrev Wd : Type := va_G × (Nat → ClassId) × Heap
abbrev wA (w : Wd) : Nat → Prop := fun q => w.2.2.size ≤ q
def fC (ci : Nat) : vw_C := vwCl.getD ci ("", TX1, 0)
def fty (ci : Nat) : Nat → FieldType := match ci with
  | 0 => tyX0
  | 1 => tyX2
  | 2 => tyX3
  | 3 => tyX4
  | 4 => tyX5
  | 5 => tyX6
  | 6 => tyX7
  | 7 => tyX8
  | 8 => tyX9
  | 9 => tyX10
  | _ => tyX11
def isR (ci k : Nat) : Bool := (fty ci k).isReference
def aty (t : Nat) : FieldType := match t with
  | 0 => .int
  | 1 => .boolean
  | 2 => .char
  | 3 => .object RX9
  | 4 => .object RX2
  | 5 => .object RX6
  | _ => .object RX7
/-- the class of an array's objects, by the array's kind -/
def aci (t : Nat) : Nat := match t with
  | 3 => 8
  | 4 => 1
  | 5 => 5
  | _ => 6
def tyL (TA : Nat → ClassId) : List (ClassId × FieldType) := (List.range 7).map fun t => (TA t, aty t)
def aboveT (j : Nat) : Int32 := match j with
  | 0 => -1
  | 3 => 1
  | 4 => 2
  | _ => 0
def strTx (i : Nat) : String := match i with
  | 0 => "sizegivefine"
  | 1 => "wl"
  | 2 => "wsd"
  | _ => "wb"
def strIx (i : Nat) : Nat := match i with
  | 0 => 79
  | 1 => 87
  | 2 => 89
  | _ => 91
def strBy : List (List Int32) := [[115, 105, 122, 101, 103, 105, 118, 101, 102, 105, 110, 101], [119, 108], [119, 115, 100], [119, 98]]
def strLen : List Nat := [12, 2, 3, 2]
def nestL : List (String × Nat × MethodName × String) := [("SnowOwed", 9, ⟨"SnowOwed$Village", "<init>", "()V"⟩, "SnowOwed"), ("SnowOwed$Village", 11, ⟨"SnowOwed$Ring", "<init>", "()V"⟩, "SnowOwed"), ("SnowOwed$Paths", 31, ⟨"SnowOwed$Village", "<init>", "()V"⟩, "SnowOwed"), ("SnowOwed", 32, ⟨"SnowOwed$Tape", "<init>", "()V"⟩, "SnowOwed"), ("SnowOwed", 39, ⟨"SnowOwed$Reader", "<init>", "()V"⟩, "SnowOwed"), ("SnowOwed", 70, ⟨"SnowOwed$Sheet", "<init>", "()V"⟩, "SnowOwed"), ("SnowOwed", 71, ⟨"SnowOwed$Slot", "<init>", "()V"⟩, "SnowOwed"), ("SnowOwed$Slot", 11, ⟨"SnowOwed$Sheet", "<init>", "()V"⟩, "SnowOwed"), ("SnowOwed$Village", 71, ⟨"SnowOwed", "held", "(II)I"⟩, "SnowOwed")]
/-- what the tables and the old heap say, of a state -/
def KK (w : Wd) (ro : Ro) (U : State) : Prop :=
  va_K w.1 vwCl (tyL w.2.1) U ∧ (∀ t, 3 ≤ t → t < 7 → va_AO (fC (aci t)).1 U) ∧ (∀ q ∈ nestL, va_Nw (.methodLinkNest q.1 q.2.1 q.2.2.1 q.2.2.2) U) ∧
  va_X ro.2.1.1 ro.2.1.2.1 ro.2.1.2.2 U w.2.2 ∧ va_Z "SnowOwed$Kinds" "ABOVE" "[I" (.ref ro.1) (wA w) U w.2.2 ∧ va_T .int ro.1 6 (fun j => .int (aboveT j)) (wA w) U w.2.2 ∧
  vk_S 4 strLen strBy ro.2.2.1 ro.2.2.2 (wA w) U w.2.2 ∧ (∀ i, i < 4 → vk_R RX4 (strIx i) (strTx i) (ro.2.2.1 i) U) ∧ va_Z "java/lang/String" "COMPACT_STRINGS" "Z" (.int 1) (wA w) U w.2.2
theorem KK.warm {w : Wd} {ro : Ro} {s U : State} (hW : s.WarmedH U.vm) (h : KK w ro s) : KK w ro U := by
  obtain ⟨h1, h2, h3, h4, h5, h6, h7, h8, h9⟩ := h
  exact ⟨h1.moved hW.alike, fun t a b => (h2 t a b).moved hW.alike, fun q hq => (h3 q hq).warmM hW, h4.moved hW.alike, h5.moved hW.alike, h6.moved hW.alike, h7.moved hW.alike, fun i hi => (h8 i hi).warm hW, h9.moved hW.alike⟩
theorem KK.same {w : Wd} {ro : Ro} {s U : State} (hv : U.vm = s.vm) (h : KK w ro s) : KK w ro U := by
  obtain ⟨h1, h2, h3, h4, h5, h6, h7, h8, h9⟩ := h
  have ha : s.vm.Alike U.vm := hv ▸ Vm.Alike.refl s.vm
  exact ⟨h1.moved ha, fun t a b => (h2 t a b).moved ha, fun q hq => (h3 q hq).same rfl hv.symm, h4.moved ha, h5.moved ha, h6.moved ha, h7.moved ha, fun i hi => (h8 i hi).same hv, h9.moved ha⟩
def fv (S : St) (I : In) (ci a k : Nat) : Value := if isR ci k = true then S.2.1 a k else .int (I a k)
def av (S : St) (I : In) (t a j : Nat) : Value := if 3 ≤ t then S.2.1 a j else .int (I a j)
/-- a cell: an object of a class (its number in vwCl, below 11), an array (20 and its kind, its length) -/
def cellOk (w : Wd) (S : St) (I : In) (H : Heap) (a : Nat) (q : Nat × Nat) : Prop :=
  (q.1 < 11 → t_OB a (w.1.1 q.1) (fC q.1).2.2 (w.1.2 q.1) H (fv S I q.1 a)) ∧ (11 ≤ q.1 → H[a]? = some (arrV (w.2.1 (q.1 - 20)) q.2 (av S I (q.1 - 20) a)))
def RepH (w : Wd) (S : St) (I : In) (H : Heap) : Prop :=
  w.2.2.size ≤ H.size ∧ (∀ q : Nat, q < w.2.2.size → H[q]? = w.2.2[q]?) ∧ H.size = S.2.2 ∧ ∀ (a : Nat) (q : Nat × Nat), S.1 a = some q → wA w a ∧ cellOk w S I H a q
def Rep (w : Wd) (S : St) (I : In) (H : Heap) (locs : List Loc) : Prop := RepH w S I H ∧ ∀ q ∈ locs, wA w q.base
theorem Rep.S {w : Wd} {S : St} {I : In} {H : Heap} {locs : List Loc} (h : Rep w S I H locs) : va_S (wA w) w.2.2 H locs := ⟨h.1.1, fun q h1 _ => h.1.2.1 q h1, h.2⟩
theorem cell_lt {w : Wd} {S : St} {I : In} {H : Heap} {a : Nat} {q : Nat × Nat} (h : cellOk w S I H a q) : a < H.size := by
  by_cases h1 : q.1 < 11
  · obtain ⟨cell, h2, -⟩ := h.1 h1
    exact (Array.getElem?_eq_some_iff.mp h2).1
  · exact (Array.getElem?_eq_some_iff.mp (h.2 (by omega))).1
theorem cell_kept {w : Wd} {S S' : St} {I I' : In} {H H1 : Heap} {a : Nat} {q : Nat × Nat} (h : cellOk w S I H a q) (h1 : H1[a]? = H[a]?) (hG : S'.2.1 a = S.2.1 a) (hI : I' a = I a) : cellOk w S' I' H1 a q := by
  refine ⟨fun hq => ?_, fun hq => ?_⟩
  · exact ((h.1 hq).kept h1).to (fun k _ => by unfold fv; rw [hG, hI])
  · rw [h1, h.2 hq]
    congr 2
    funext j
    unfold av
    rw [hG, hI]
/-- a place of the ints, of the references, is written -/
def setI (I : In) (a k : Nat) (x : Int32) : In := fun b j => if b = a ∧ j = k then x else I b j
def setG (G : Gr) (a k : Nat) (x : Value) : Gr := fun b j => if b = a ∧ j = k then x else G b j
theorem setI_ne {I : In} {a b k : Nat} {x : Int32} (h : b ≠ a) : setI I a k x b = I b := by
  funext j
  exact if_neg (fun q => h q.1)
theorem setG_ne {G : Gr} {a b k : Nat} {x : Value} (h : b ≠ a) : setG G a k x b = G b := by
  funext j
  exact if_neg (fun q => h q.1)
/-- the heap behind a change of one cell -/
theorem rep_set {w : Wd} {S : St} {I I' : In} {G' : Gr} {H H1 : Heap} {locs : List Loc} {a k : Nat} {q : Nat × Nat} (hR : Rep w S I H locs) (hs : S.1 a = some q) (hz : H1.size = H.size) (ho : ∀ x : Nat, x ≠ a → H1[x]? = H[x]?)
    (hI : ∀ b, b ≠ a → I' b = I b) (hG : ∀ b, b ≠ a → G' b = S.2.1 b) (hc : cellOk w (S.1, G', S.2.2) I' H1 a q) : Rep w (S.1, G', S.2.2) I' H1 (locs ++ [⟨a, k⟩]) := by
  obtain ⟨⟨r1, r2, r3, r4⟩, r5⟩ := hR
  have hA := (r4 a q hs).1
  refine ⟨⟨by rw [hz]; exact r1, fun x hx => ?_, by rw [hz]; exact r3, fun b p hp => ?_⟩, fun x hx => ?_⟩
  · have : a ≠ x := fun e => Nat.not_le.mpr (e ▸ hx) hA
    rw [ho x (Ne.symm this)]
    exact r2 x hx
  · by_cases hb : b = a
    · subst hb
      cases hs.symm.trans hp
      exact ⟨hA, hc⟩
    · exact ⟨(r4 b p hp).1, cell_kept (r4 b p hp).2 (ho b hb) (hG b hb) (hI b hb)⟩
  · rcases List.mem_append.mp hx with h | h
    · exact r5 x h
    · rw [List.mem_singleton.mp h]
      exact hA
/-- locals by a list; 'retAddr' stands for what isn't known -/
def junk (v : Value) : Bool := match v with
  | .retAddr _ => true
  | _ => false
abbrev JJ : Value := .retAddr 0
def prsF : Nat → List Value → List (Nat × Value)
  | _, [] => []
  | i, v :: vs => cond (junk v) (prsF (i + 1) vs) ((i, v) :: prsF (i + 1) vs)
def prs (al : List Value) : List (Nat × Value) := prsF 0 al
theorem mem_prsF {i : Nat} {v : Value} : ∀ (al : List Value) (n : Nat), (i, v) ∈ prsF n al ↔ ∃ j, i = n + j ∧ al[j]? = some v ∧ junk v = false
  | [], n => by simp [prsF]
  | x :: al, n => by
    have ih := mem_prsF (i := i) (v := v) al (n + 1)
    have hx : (∃ j, i = n + j ∧ (x :: al)[j]? = some v ∧ junk v = false) ↔ (i = n ∧ x = v ∧ junk v = false) ∨ ∃ j, i = n + 1 + j ∧ al[j]? = some v ∧ junk v = false := by
      constructor
      · rintro ⟨j, h1, h2, h3⟩
        cases j with
        | zero => exact Or.inl ⟨h1, by simpa using h2, h3⟩
        | succ j => exact Or.inr ⟨j, by omega, by simpa using h2, h3⟩
      · rintro (⟨h1, h2, h3⟩ | ⟨j, h1, h2, h3⟩)
        · exact ⟨0, h1, by simpa using h2, h3⟩
        · exact ⟨j + 1, by omega, by simpa using h2, h3⟩
    rw [hx]
    cases hj : junk x with
    | true =>
      simp only [prsF, hj, cond_true, ih]
      constructor
      · exact Or.inr
      · rintro (⟨-, rfl, h⟩ | h)
        · rw [hj] at h; cases h
        · exact h
    | false =>
      simp only [prsF, hj, cond_false, List.mem_cons, ih]
      constructor
      · rintro (h | h)
        · cases h; exact Or.inl ⟨rfl, rfl, hj⟩
        · exact Or.inr h
      · rintro (⟨rfl, rfl, -⟩ | h)
        · exact Or.inl rfl
        · exact Or.inr h
theorem mem_prs {i : Nat} {v : Value} {al : List Value} : (i, v) ∈ prs al ↔ al[i]? = some v ∧ junk v = false := by
  rw [prs, mem_prsF]
  simp
theorem prs_get {ls : Array Slot} {nL i : Nat} {v : Value} {al : List Value} (h : lv_has ls nL (prs al)) (hi : al[i]? = some v) (hv : junk v = false) : ls[i]? = some (.val v) := h.2.2 (i, v) (mem_prs.mpr ⟨hi, hv⟩)
/-- the place ahead doesn't hold a long, as far as is known -/
def nlong (al : List Value) (k : Nat) : Bool := match k with
  | 0 => true
  | k + 1 => match al[k]? with
    | some v => v.category == 1
    | none => true
theorem prs_set {ls : Array Slot} {nL k : Nat} {v : Value} {al : List Value} (hn : nlong al k = true) (hv : junk v = false) (hk : k < al.length)
    (h : lv_has ls nL ((k, v) :: (prs al).filter (fun q => !(q.1 == k) && !(q.1 + 1 == k && q.2.category == 2)))) : lv_has ls nL (prs (al.set k v)) := by
  refine ⟨h.1, h.2.1, fun q hq => ?_⟩
  obtain ⟨i, x⟩ := q
  obtain ⟨h1, h2⟩ := mem_prs.mp hq
  by_cases hi : i = k
  · subst hi
    rw [List.getElem?_set_self hk] at h1
    cases h1
    exact h.2.2 _ List.mem_cons_self
  · rw [List.getElem?_set_ne (fun e => hi e.symm)] at h1
    refine h.2.2 (i, x) (List.mem_cons_of_mem _ (List.mem_filter.mpr ⟨mem_prs.mpr ⟨h1, h2⟩, ?_⟩))
    by_cases h3 : i + 1 = k
    · subst h3
      simp only [nlong, h1] at hn
      simp at hn
      simp [hn]
    · simp [hi, h3]
theorem prs_set2 {ls : Array Slot} {nL k : Nat} {v : Value} {al : List Value} (hn : nlong al k = true) (hv : junk v = false) (hk : k < al.length)
    (h : lv_has ls nL ((k, v) :: (prs al).filter (fun q => !(q.1 == k) && (!(q.1 == k + 1) && !(q.1 + 1 == k && q.2.category == 2))))) : lv_has ls nL (prs ((al.set k v).set (k + 1) JJ)) := by
  refine ⟨h.1, h.2.1, fun q hq => ?_⟩
  obtain ⟨i, x⟩ := q
  obtain ⟨h1, h2⟩ := mem_prs.mp hq
  by_cases h4 : i = k + 1
  · subst h4
    by_cases h5 : k + 1 < (al.set k v).length
    · rw [List.getElem?_set_self h5] at h1
      cases h1
      cases h2
    · rw [List.getElem?_eq_none (by simp at h5 ⊢; omega)] at h1
      cases h1
  · rw [List.getElem?_set_ne (fun e => h4 e.symm)] at h1
    by_cases hi : i = k
    · subst hi
      rw [List.getElem?_set_self hk] at h1
      cases h1
      exact h.2.2 _ List.mem_cons_self
    · rw [List.getElem?_set_ne (fun e => hi e.symm)] at h1
      refine h.2.2 (i, x) (List.mem_cons_of_mem _ (List.mem_filter.mpr ⟨mem_prs.mpr ⟨h1, h2⟩, ?_⟩))
      by_cases h3 : i + 1 = k
      · subst h3
        simp only [nlong, h1] at hn
        simp at hn
        simp [hn, h4]
      · simp [hi, h3, h4]
/-- what a method's walk has at hand -/
def Cx (own : String) (cc : ByteArray) (nL : Nat) (ret : Option FieldType) (nm : String) (ro : Ro) (w : Wd) (p : Program) (s : State) (m : MethodId) (args : Array Value) (meth : Method) (c : Code) : Prop :=
  p.tables.exec = Jvm.exec ∧ c.code = cc ∧ c.maxLocals = nL ∧ meth.sig.returnType = ret ∧ meth.name = nm ∧ meth.locks = false ∧ s.vm.findClass own = some m.cls ∧ (∀ x ∈ GW, x.before args s = true) ∧ KK w ro s
def V (own : String) (cc : ByteArray) (nL : Nat) (ret : Option FieldType) (nm : String) (ro : Ro) (R : Room) (Qf : Wd → List Frame → Array Value → State → State → Prop) (cells slots pc : Nat) (al st : List Value) (S : St) (I : In) : Prop :=
  ∀ (w : Wd) (p : Program) (l : Launch) (e : Env) (s : State) (m : MethodId) (args : Array Value) (below : List Frame) (meth : Method) (c : Code), Cx own cc nL ret nm ro w p s m args meth c →
    ∀ (H : Heap) (locs : List Loc) (ls : Array Slot), Rep w S I H locs → lv_has ls nL (prs al) → W p l e R s m args below meth c H locs cells slots (Qf w below args s) (F0 m pc ls st)
abbrev Mth : Type := MethodName × ByteArray × Nat × Option FieldType
def rmD (d mc ms : Nat) : Room := { frames := d, cells := mc, slots := ms, locals := 64 * d }
def QcM (w : Wd) (Q : Option Value → St → In → Prop) : Array Value → State → Outcome → State → Prop := fun _ _ o t => ∃ r S I, o = .returned r ∧ Q r S I ∧ RepH w S I t.heap
/-- how a method of ours ends -/
def QM (mc ms : Nat) (Q : Option Value → St → In → Prop) : Wd → List Frame → Array Value → State → State → Prop := fun w below args s => MQ below (QcM w Q) args s mc ms (wA w)
/-- a method's contract: from these arguments and this heap it comes to its end, with Q; at most mc cells of ms slots are new; calls that stand open at once: d at most -/
def Ok (m : Mth) (ro : Ro) (d mc ms : Nat) (args : List Value) (S : St) (I : In) (Q : Option Value → St → In → Prop) : Prop :=
  ∀ (l : Launch) (w : Wd), Met l m.1 (Cond.code m.1 m.2.1 m.2.2.1 m.2.2.2 :: GW) (rmD d mc ms) (va_Pc args (fun U => RepH w S I U.heap ∧ KK w ro U)) (QcM w Q) mc ms (wA w)
theorem ok_of {y : MethodName} {cc : ByteArray} {nL : Nat} {ret : Option FieldType} {ro : Ro} {d mc ms : Nat} {args al : List Value} {S : St} {I : In} {Q : Option Value → St → In → Prop} (hy : plainName y.cls = true) (hlen : (lg_sl args).length ≤ nL) (hal : prs al = lv_args 0 args)
    (h : V y.cls cc nL ret y.name ro (rmD d mc ms) (QM mc ms Q) 0 0 0 al [] S I) : Ok (y, cc, nL, ret) ro d mc ms args S I Q := by
  intro l w
  refine Met.ofW (cc := cc) (maxL := nL) (ret := ret) hy rfl ?_
  intro p e s m args' below meth c s₁ B hml hv
  obtain ⟨rfl, hR, hK⟩ := hv
  have hl := lv_entry args (n := nL) hlen
  rw [lg_entry_eq]
  refine h w p l e s m _ below meth c ⟨B.exec, B.bytes, hml, B.returns, (name_of_methodNamed B.named B.method).1, B.notSynchronized, findClass_of_methodNamed B.named, fun x hx => atoms_spec B.pre x (List.mem_cons_of_mem _ hx), hK⟩ s.heap [] _ ⟨hR, fun q hq => by cases hq⟩ ?_
  rw [hal]
  exact hl
theorem Ok.mono {m : Mth} {ro : Ro} {d mc ms : Nat} {args : List Value} {S : St} {I : In} {Q Q' : Option Value → St → In → Prop} (h : Ok m ro d mc ms args S I Q) (hq : ∀ r S' I', Q r S' I' → Q' r S' I') : Ok m ro d mc ms args S I Q' := by
  intro l w p e ha hc hk s m' a below hf hfit hheap hpre
  obtain ⟨k, o, h1, h2, h3, ⟨r, S', I', e1, e2, e3⟩, h4⟩ := h l w p e ha hc hk s m' a below hf hfit hheap hpre
  exact ⟨k, o, h1, h2, h3, ⟨r, S', I', e1, hq _ _ _ e2, e3⟩, h4⟩
end
section
section RULES
variable {own : String} {cc : ByteArray} {nL : Nat} {ret : Option FieldType} {nm : String} {ro : Ro} {R : Room} {Qf : Wd → List Frame → Array Value → State → State → Prop} {cells slots pc n : Nat} {al st : List Value} {S : St} {I : In}
theorem v_iconst {z : Int} {v : Int32} (hd : decode cc pc = .ok (.iconst z, 1)) (hv : Int32.ofInt z = v) (hn : pc + 1 = n) (k : V own cc nL ret nm ro R Qf cells slots n al (.int v :: st) S I) : V own cc nL ret nm ro R Qf cells slots pc al (st) S I := by
  subst hn
  intro w p l e s m args below meth c C H locs ls hR hl
  exact lv_iconst C.1 C.2.1 hd hv (k w p l e s m args below meth c C H locs ls hR hl)
theorem v_bipush {z : Int} {v : Int32} (hd : decode cc pc = .ok (.bipush z, 2)) (hv : (Int8.ofInt z).toInt32 = v) (hn : pc + 2 = n) (k : V own cc nL ret nm ro R Qf cells slots n al (.int v :: st) S I) : V own cc nL ret nm ro R Qf cells slots pc al (st) S I := by
  subst hn
  intro w p l e s m args below meth c C H locs ls hR hl
  exact lv_bipush C.1 C.2.1 hd hv (k w p l e s m args below meth c C H locs ls hR hl)
theorem v_sipush {z : Int} {v : Int32} (hd : decode cc pc = .ok (.sipush z, 3)) (hv : (Int16.ofInt z).toInt32 = v) (hn : pc + 3 = n) (k : V own cc nL ret nm ro R Qf cells slots n al (.int v :: st) S I) : V own cc nL ret nm ro R Qf cells slots pc al (st) S I := by
  subst hn
  intro w p l e s m args below meth c C H locs ls hR hl
  exact lv_sipush C.1 C.2.1 hd hv (k w p l e s m args below meth c C H locs ls hR hl)
theorem v_lconst {z : Fin 2} {v : Int64} (hd : decode cc pc = .ok (.lconst z, 1)) (hv : Int64.ofNat (z : Nat) = v) (hn : pc + 1 = n) (k : V own cc nL ret nm ro R Qf cells slots n al (.long v :: st) S I) : V own cc nL ret nm ro R Qf cells slots pc al (st) S I := by
  subst hn
  intro w p l e s m args below meth c C H locs ls hR hl
  exact lv_lconst C.1 C.2.1 hd hv (k w p l e s m args below meth c C H locs ls hR hl)
theorem v_ldc {index : Nat} {v : Int32} (hw : Cond.constant own index v ∈ GW) (hd : decode cc pc = .ok (.ldc index, 2)) (hn : pc + 2 = n) (k : V own cc nL ret nm ro R Qf cells slots n al (.int v :: st) S I) : V own cc nL ret nm ro R Qf cells slots pc al (st) S I := by
  subst hn
  intro w p l e s m args below meth c C H locs ls hR hl
  exact lv_ldc C.1 C.2.1 C.2.2.2.2.2.2.1 (C.2.2.2.2.2.2.2.1 _ hw) hd (k w p l e s m args below meth c C H locs ls hR hl)
theorem v_iload_n {kk : Fin 4} {i : Nat} {x : Int32} (hd : decode cc pc = .ok (.iload_n kk, 1)) (hi : (kk : Nat) = i) (ha : al[i]? = some (.int x)) (hn : pc + 1 = n) (k : V own cc nL ret nm ro R Qf cells slots n al (.int x :: st) S I) : V own cc nL ret nm ro R Qf cells slots pc al (st) S I := by
  subst hn
  intro w p l e s m args below meth c C H locs ls hR hl
  exact lv_iload_n C.1 C.2.1 hd hi (prs_get hl ha rfl) (k w p l e s m args below meth c C H locs ls hR hl)
theorem v_iload {i : Nat} {x : Int32} (hd : decode cc pc = .ok (.iload i, 2)) (ha : al[i]? = some (.int x)) (hn : pc + 2 = n) (k : V own cc nL ret nm ro R Qf cells slots n al (.int x :: st) S I) : V own cc nL ret nm ro R Qf cells slots pc al (st) S I := by
  subst hn
  intro w p l e s m args below meth c C H locs ls hR hl
  exact lv_iload C.1 C.2.1 hd (prs_get hl ha rfl) (k w p l e s m args below meth c C H locs ls hR hl)
theorem v_lload_n {kk : Fin 4} {i : Nat} {x : Int64} (hd : decode cc pc = .ok (.lload_n kk, 1)) (hi : (kk : Nat) = i) (ha : al[i]? = some (.long x)) (hn : pc + 1 = n) (k : V own cc nL ret nm ro R Qf cells slots n al (.long x :: st) S I) : V own cc nL ret nm ro R Qf cells slots pc al (st) S I := by
  subst hn
  intro w p l e s m args below meth c C H locs ls hR hl
  exact lv_lload_n C.1 C.2.1 hd hi (prs_get hl ha rfl) (k w p l e s m args below meth c C H locs ls hR hl)
theorem v_lload {i : Nat} {x : Int64} (hd : decode cc pc = .ok (.lload i, 2)) (ha : al[i]? = some (.long x)) (hn : pc + 2 = n) (k : V own cc nL ret nm ro R Qf cells slots n al (.long x :: st) S I) : V own cc nL ret nm ro R Qf cells slots pc al (st) S I := by
  subst hn
  intro w p l e s m args below meth c C H locs ls hR hl
  exact lv_lload C.1 C.2.1 hd (prs_get hl ha rfl) (k w p l e s m args below meth c C H locs ls hR hl)
theorem v_aload_n {kk : Fin 4} {i : Nat} {x : Nat} (hd : decode cc pc = .ok (.aload_n kk, 1)) (hi : (kk : Nat) = i) (ha : al[i]? = some (.ref x)) (hn : pc + 1 = n) (k : V own cc nL ret nm ro R Qf cells slots n al (.ref x :: st) S I) : V own cc nL ret nm ro R Qf cells slots pc al (st) S I := by
  subst hn
  intro w p l e s m args below meth c C H locs ls hR hl
  exact lv_aload_n C.1 C.2.1 hd hi (prs_get hl ha rfl) (k w p l e s m args below meth c C H locs ls hR hl)
theorem v_aload {i : Nat} {x : Nat} (hd : decode cc pc = .ok (.aload i, 2)) (ha : al[i]? = some (.ref x)) (hn : pc + 2 = n) (k : V own cc nL ret nm ro R Qf cells slots n al (.ref x :: st) S I) : V own cc nL ret nm ro R Qf cells slots pc al (st) S I := by
  subst hn
  intro w p l e s m args below meth c C H locs ls hR hl
  exact lv_aload C.1 C.2.1 hd (prs_get hl ha rfl) (k w p l e s m args below meth c C H locs ls hR hl)
theorem v_aload_nN {kk : Fin 4} {i : Nat} (hd : decode cc pc = .ok (.aload_n kk, 1)) (hi : (kk : Nat) = i) (ha : al[i]? = some .null) (hn : pc + 1 = n) (k : V own cc nL ret nm ro R Qf cells slots n al (.null :: st) S I) : V own cc nL ret nm ro R Qf cells slots pc al (st) S I := by
  subst hn
  intro w p l e s m args below meth c C H locs ls hR hl
  exact lv_aload_nN C.1 C.2.1 hd hi (prs_get hl ha rfl) (k w p l e s m args below meth c C H locs ls hR hl)
theorem v_aloadN {i : Nat} (hd : decode cc pc = .ok (.aload i, 2)) (ha : al[i]? = some .null) (hn : pc + 2 = n) (k : V own cc nL ret nm ro R Qf cells slots n al (.null :: st) S I) : V own cc nL ret nm ro R Qf cells slots pc al (st) S I := by
  subst hn
  intro w p l e s m args below meth c C H locs ls hR hl
  exact lv_aloadN C.1 C.2.1 hd (prs_get hl ha rfl) (k w p l e s m args below meth c C H locs ls hR hl)
theorem v_istore_n {kk : Fin 4} {i : Nat} {x : Int32} (hd : decode cc pc = .ok (.istore_n kk, 1)) (hi : (kk : Nat) = i) (hb : (i + 1 ≤ nL ∧ i < al.length) ∧ nlong al i = true) (hn : pc + 1 = n) (k : V own cc nL ret nm ro R Qf cells slots n (al.set i (Value.int x)) st S I) : V own cc nL ret nm ro R Qf cells slots pc al (Value.int x :: st) S I := by
  subst hn
  intro w p l e s m args below meth c C H locs ls hR hl
  exact lv_istore_n C.1 C.2.1 hd hi hl (by omega) rfl (fun ls hl => k w p l e s m args below meth c C H locs ls hR (prs_set hb.2 rfl hb.1.2 hl))
theorem v_lstore_n {kk : Fin 4} {i : Nat} {x : Int64} (hd : decode cc pc = .ok (.lstore_n kk, 1)) (hi : (kk : Nat) = i) (hb : (i + 2 ≤ nL ∧ i < al.length) ∧ nlong al i = true) (hn : pc + 1 = n) (k : V own cc nL ret nm ro R Qf cells slots n ((al.set i (Value.long x)).set (i + 1) JJ) st S I) : V own cc nL ret nm ro R Qf cells slots pc al (Value.long x :: st) S I := by
  subst hn
  intro w p l e s m args below meth c C H locs ls hR hl
  exact lv_lstore_n C.1 C.2.1 hd hi hl (by omega) rfl (fun ls hl => k w p l e s m args below meth c C H locs ls hR (prs_set2 hb.2 rfl hb.1.2 hl))
theorem v_astore_n {kk : Fin 4} {i : Nat} {x : Nat} (hd : decode cc pc = .ok (.astore_n kk, 1)) (hi : (kk : Nat) = i) (hb : (i + 1 ≤ nL ∧ i < al.length) ∧ nlong al i = true) (hn : pc + 1 = n) (k : V own cc nL ret nm ro R Qf cells slots n (al.set i (Value.ref x)) st S I) : V own cc nL ret nm ro R Qf cells slots pc al (Value.ref x :: st) S I := by
  subst hn
  intro w p l e s m args below meth c C H locs ls hR hl
  exact lv_astore_n C.1 C.2.1 hd hi hl (by omega) rfl (fun ls hl => k w p l e s m args below meth c C H locs ls hR (prs_set hb.2 rfl hb.1.2 hl))
theorem v_astore_nN {kk : Fin 4} {i : Nat} (hd : decode cc pc = .ok (.astore_n kk, 1)) (hi : (kk : Nat) = i) (hb : (i + 1 ≤ nL ∧ i < al.length) ∧ nlong al i = true) (hn : pc + 1 = n) (k : V own cc nL ret nm ro R Qf cells slots n (al.set i (Value.null)) st S I) : V own cc nL ret nm ro R Qf cells slots pc al (Value.null :: st) S I := by
  subst hn
  intro w p l e s m args below meth c C H locs ls hR hl
  exact lv_astore_nN C.1 C.2.1 hd hi hl (by omega) rfl (fun ls hl => k w p l e s m args below meth c C H locs ls hR (prs_set hb.2 rfl hb.1.2 hl))
theorem v_istore {i : Nat} {x : Int32} (hd : decode cc pc = .ok (.istore i, 2)) (hb : (i + 1 ≤ nL ∧ i < al.length) ∧ nlong al i = true) (hn : pc + 2 = n) (k : V own cc nL ret nm ro R Qf cells slots n (al.set i (Value.int x)) st S I) : V own cc nL ret nm ro R Qf cells slots pc al (Value.int x :: st) S I := by
  subst hn
  intro w p l e s m args below meth c C H locs ls hR hl
  exact lv_istore C.1 C.2.1 hd hl (by omega) rfl (fun ls hl => k w p l e s m args below meth c C H locs ls hR (prs_set hb.2 rfl hb.1.2 hl))
theorem v_lstore {i : Nat} {x : Int64} (hd : decode cc pc = .ok (.lstore i, 2)) (hb : (i + 2 ≤ nL ∧ i < al.length) ∧ nlong al i = true) (hn : pc + 2 = n) (k : V own cc nL ret nm ro R Qf cells slots n ((al.set i (Value.long x)).set (i + 1) JJ) st S I) : V own cc nL ret nm ro R Qf cells slots pc al (Value.long x :: st) S I := by
  subst hn
  intro w p l e s m args below meth c C H locs ls hR hl
  exact lv_lstore C.1 C.2.1 hd hl (by omega) rfl (fun ls hl => k w p l e s m args below meth c C H locs ls hR (prs_set2 hb.2 rfl hb.1.2 hl))
theorem v_astore {i : Nat} {x : Nat} (hd : decode cc pc = .ok (.astore i, 2)) (hb : (i + 1 ≤ nL ∧ i < al.length) ∧ nlong al i = true) (hn : pc + 2 = n) (k : V own cc nL ret nm ro R Qf cells slots n (al.set i (Value.ref x)) st S I) : V own cc nL ret nm ro R Qf cells slots pc al (Value.ref x :: st) S I := by
  subst hn
  intro w p l e s m args below meth c C H locs ls hR hl
  exact lv_astore C.1 C.2.1 hd hl (by omega) rfl (fun ls hl => k w p l e s m args below meth c C H locs ls hR (prs_set hb.2 rfl hb.1.2 hl))
theorem v_astoreN {i : Nat} (hd : decode cc pc = .ok (.astore i, 2)) (hb : (i + 1 ≤ nL ∧ i < al.length) ∧ nlong al i = true) (hn : pc + 2 = n) (k : V own cc nL ret nm ro R Qf cells slots n (al.set i (Value.null)) st S I) : V own cc nL ret nm ro R Qf cells slots pc al (Value.null :: st) S I := by
  subst hn
  intro w p l e s m args below meth c C H locs ls hR hl
  exact lv_astoreN C.1 C.2.1 hd hl (by omega) rfl (fun ls hl => k w p l e s m args below meth c C H locs ls hR (prs_set hb.2 rfl hb.1.2 hl))
theorem v_iinc {i : Nat} {z : Int} {x v : Int32} (hd : decode cc pc = .ok (.iinc i z, 3)) (ha : al[i]? = some (.int x)) (hv : x + Int32.ofInt z = v) (hb : i + 1 ≤ nL ∧ nlong al i = true) (hn : pc + 3 = n) (k : V own cc nL ret nm ro R Qf cells slots n (al.set i (.int v)) st S I) : V own cc nL ret nm ro R Qf cells slots pc al st S I := by
  subst hn
  intro w p l e s m args below meth c C H locs ls hR hl
  obtain ⟨j, hj⟩ := List.getElem?_of_mem (mem_prs.mpr ⟨ha, rfl⟩)
  exact lv_iinc C.1 C.2.1 hd hl hj hv (by omega) rfl (fun ls hl => k w p l e s m args below meth c C H locs ls hR (prs_set hb.2 rfl (List.getElem?_eq_some_iff.mp ha).1 hl))
theorem v_iadd {x y : Int32} (hd : decode cc pc = .ok (.iadd, 1)) (hn : pc + 1 = n) (k : V own cc nL ret nm ro R Qf cells slots n al (.int (x + y) :: st) S I) : V own cc nL ret nm ro R Qf cells slots pc al (.int y :: .int x :: st) S I := by
  subst hn
  intro w p l e s m args below meth c C H locs ls hR hl
  exact lv_iadd C.1 C.2.1 hd (k w p l e s m args below meth c C H locs ls hR hl)
theorem v_isub {x y : Int32} (hd : decode cc pc = .ok (.isub, 1)) (hn : pc + 1 = n) (k : V own cc nL ret nm ro R Qf cells slots n al (.int (x - y) :: st) S I) : V own cc nL ret nm ro R Qf cells slots pc al (.int y :: .int x :: st) S I := by
  subst hn
  intro w p l e s m args below meth c C H locs ls hR hl
  exact lv_isub C.1 C.2.1 hd (k w p l e s m args below meth c C H locs ls hR hl)
theorem v_imul {x y : Int32} (hd : decode cc pc = .ok (.imul, 1)) (hn : pc + 1 = n) (k : V own cc nL ret nm ro R Qf cells slots n al (.int (x * y) :: st) S I) : V own cc nL ret nm ro R Qf cells slots pc al (.int y :: .int x :: st) S I := by
  subst hn
  intro w p l e s m args below meth c C H locs ls hR hl
  exact lv_imul C.1 C.2.1 hd (k w p l e s m args below meth c C H locs ls hR hl)
theorem v_iand {x y : Int32} (hd : decode cc pc = .ok (.iand, 1)) (hn : pc + 1 = n) (k : V own cc nL ret nm ro R Qf cells slots n al (.int (x &&& y) :: st) S I) : V own cc nL ret nm ro R Qf cells slots pc al (.int y :: .int x :: st) S I := by
  subst hn
  intro w p l e s m args below meth c C H locs ls hR hl
  exact lv_iand C.1 C.2.1 hd (k w p l e s m args below meth c C H locs ls hR hl)
theorem v_ior {x y : Int32} (hd : decode cc pc = .ok (.ior, 1)) (hn : pc + 1 = n) (k : V own cc nL ret nm ro R Qf cells slots n al (.int (x ||| y) :: st) S I) : V own cc nL ret nm ro R Qf cells slots pc al (.int y :: .int x :: st) S I := by
  subst hn
  intro w p l e s m args below meth c C H locs ls hR hl
  exact lv_ior C.1 C.2.1 hd (k w p l e s m args below meth c C H locs ls hR hl)
theorem v_ixor {x y : Int32} (hd : decode cc pc = .ok (.ixor, 1)) (hn : pc + 1 = n) (k : V own cc nL ret nm ro R Qf cells slots n al (.int (x ^^^ y) :: st) S I) : V own cc nL ret nm ro R Qf cells slots pc al (.int y :: .int x :: st) S I := by
  subst hn
  intro w p l e s m args below meth c C H locs ls hR hl
  exact lv_ixor C.1 C.2.1 hd (k w p l e s m args below meth c C H locs ls hR hl)
theorem v_idiv {x y : Int32} (hd : decode cc pc = .ok (.idiv, 1)) (hne : ¬ y = 0) (hn : pc + 1 = n) (k : V own cc nL ret nm ro R Qf cells slots n al (.int (x / y) :: st) S I) : V own cc nL ret nm ro R Qf cells slots pc al (.int y :: .int x :: st) S I := by
  subst hn
  intro w p l e s m args below meth c C H locs ls hR hl
  exact lv_idiv C.1 C.2.1 hd hne (k w p l e s m args below meth c C H locs ls hR hl)
theorem rem_mod (x y : Int32) : x - x / y * y = x % y := by rw [irem_eq_mod]
theorem v_irem {x y : Int32} (hd : decode cc pc = .ok (.irem, 1)) (hne : ¬ y = 0) (hn : pc + 1 = n) (k : V own cc nL ret nm ro R Qf cells slots n al (.int (x % y) :: st) S I) : V own cc nL ret nm ro R Qf cells slots pc al (.int y :: .int x :: st) S I := by
  subst hn
  intro w p l e s m args below meth c C H locs ls hR hl
  refine lv_irem C.1 C.2.1 hd hne ?_
  rw [rem_mod]
  exact k w p l e s m args below meth c C H locs ls hR hl
theorem v_ineg {x : Int32} (hd : decode cc pc = .ok (.ineg, 1)) (hn : pc + 1 = n) (k : V own cc nL ret nm ro R Qf cells slots n al (.int (-x) :: st) S I) : V own cc nL ret nm ro R Qf cells slots pc al (.int x :: st) S I := by
  subst hn
  intro w p l e s m args below meth c C H locs ls hR hl
  exact lv_ineg C.1 C.2.1 hd (k w p l e s m args below meth c C H locs ls hR hl)
theorem v_ladd {x y : Int64} (hd : decode cc pc = .ok (.ladd, 1)) (hn : pc + 1 = n) (k : V own cc nL ret nm ro R Qf cells slots n al (.long (x + y) :: st) S I) : V own cc nL ret nm ro R Qf cells slots pc al (.long y :: .long x :: st) S I := by
  subst hn
  intro w p l e s m args below meth c C H locs ls hR hl
  exact lv_ladd C.1 C.2.1 hd (k w p l e s m args below meth c C H locs ls hR hl)
theorem v_lsub {x y : Int64} (hd : decode cc pc = .ok (.lsub, 1)) (hn : pc + 1 = n) (k : V own cc nL ret nm ro R Qf cells slots n al (.long (x - y) :: st) S I) : V own cc nL ret nm ro R Qf cells slots pc al (.long y :: .long x :: st) S I := by
  subst hn
  intro w p l e s m args below meth c C H locs ls hR hl
  exact lv_lsub C.1 C.2.1 hd (k w p l e s m args below meth c C H locs ls hR hl)
theorem v_lneg {x : Int64} (hd : decode cc pc = .ok (.lneg, 1)) (hn : pc + 1 = n) (k : V own cc nL ret nm ro R Qf cells slots n al (.long (-x) :: st) S I) : V own cc nL ret nm ro R Qf cells slots pc al (.long x :: st) S I := by
  subst hn
  intro w p l e s m args below meth c C H locs ls hR hl
  exact lv_lneg C.1 C.2.1 hd (k w p l e s m args below meth c C H locs ls hR hl)
theorem v_ishl {x y : Int32} (hd : decode cc pc = .ok (.ishl, 1)) (hn : pc + 1 = n) (k : V own cc nL ret nm ro R Qf cells slots n al (.int (x <<< (y &&& 31)) :: st) S I) : V own cc nL ret nm ro R Qf cells slots pc al (.int y :: .int x :: st) S I := by
  subst hn
  intro w p l e s m args below meth c C H locs ls hR hl
  exact lv_ishl C.1 C.2.1 hd (k w p l e s m args below meth c C H locs ls hR hl)
theorem v_ishr {x y : Int32} (hd : decode cc pc = .ok (.ishr, 1)) (hn : pc + 1 = n) (k : V own cc nL ret nm ro R Qf cells slots n al (.int (x >>> (y &&& 31)) :: st) S I) : V own cc nL ret nm ro R Qf cells slots pc al (.int y :: .int x :: st) S I := by
  subst hn
  intro w p l e s m args below meth c C H locs ls hR hl
  exact lv_ishr C.1 C.2.1 hd (k w p l e s m args below meth c C H locs ls hR hl)
def ushr (x y : Int32) : Int32 := (x.toUInt32 >>> (y.toUInt32 &&& Int32.toUInt32 31)).toInt32
theorem v_iushr {x y : Int32} (hd : decode cc pc = .ok (.iushr, 1)) (hn : pc + 1 = n) (k : V own cc nL ret nm ro R Qf cells slots n al (.int (ushr x y) :: st) S I) : V own cc nL ret nm ro R Qf cells slots pc al (.int y :: .int x :: st) S I := by
  subst hn
  intro w p l e s m args below meth c C H locs ls hR hl
  exact lv_iushr C.1 C.2.1 hd rfl (k w p l e s m args below meth c C H locs ls hR hl)
theorem v_i2l {x : Int32} (hd : decode cc pc = .ok (.i2l, 1)) (hn : pc + 1 = n) (k : V own cc nL ret nm ro R Qf cells slots n al (.long x.toInt64 :: st) S I) : V own cc nL ret nm ro R Qf cells slots pc al (.int x :: st) S I := by
  subst hn
  intro w p l e s m args below meth c C H locs ls hR hl
  exact lv_i2l C.1 C.2.1 hd rfl (k w p l e s m args below meth c C H locs ls hR hl)
theorem v_l2i {x : Int64} (hd : decode cc pc = .ok (.l2i, 1)) (hn : pc + 1 = n) (k : V own cc nL ret nm ro R Qf cells slots n al (.int x.toInt32 :: st) S I) : V own cc nL ret nm ro R Qf cells slots pc al (.long x :: st) S I := by
  subst hn
  intro w p l e s m args below meth c C H locs ls hR hl
  exact lv_l2i C.1 C.2.1 hd rfl (k w p l e s m args below meth c C H locs ls hR hl)
theorem v_i2b {x : Int32} (hd : decode cc pc = .ok (.i2b, 1)) (hn : pc + 1 = n) (k : V own cc nL ret nm ro R Qf cells slots n al (.int x.toInt8.toInt32 :: st) S I) : V own cc nL ret nm ro R Qf cells slots pc al (.int x :: st) S I := by
  subst hn
  intro w p l e s m args below meth c C H locs ls hR hl
  exact lv_i2b C.1 C.2.1 hd rfl (k w p l e s m args below meth c C H locs ls hR hl)
theorem v_i2s {x : Int32} (hd : decode cc pc = .ok (.i2s, 1)) (hn : pc + 1 = n) (k : V own cc nL ret nm ro R Qf cells slots n al (.int x.toInt16.toInt32 :: st) S I) : V own cc nL ret nm ro R Qf cells slots pc al (.int x :: st) S I := by
  subst hn
  intro w p l e s m args below meth c C H locs ls hR hl
  exact lv_i2s C.1 C.2.1 hd rfl (k w p l e s m args below meth c C H locs ls hR hl)
theorem v_i2c {x : Int32} (hd : decode cc pc = .ok (.i2c, 1)) (hn : pc + 1 = n) (k : V own cc nL ret nm ro R Qf cells slots n al (.int (x.toUInt32 % 65536).toInt32 :: st) S I) : V own cc nL ret nm ro R Qf cells slots pc al (.int x :: st) S I := by
  subst hn
  intro w p l e s m args below meth c C H locs ls hR hl
  exact lv_i2c C.1 C.2.1 hd rfl (k w p l e s m args below meth c C H locs ls hR hl)
theorem v_dup {v : Value} (hd : decode cc pc = .ok (.dup, 1)) (hc : v.category = 1) (hn : pc + 1 = n) (k : V own cc nL ret nm ro R Qf cells slots n al (v :: v :: st) S I) : V own cc nL ret nm ro R Qf cells slots pc al (v :: st) S I := by
  subst hn
  intro w p l e s m args below meth c C H locs ls hR hl
  exact lv_dup C.1 C.2.1 hd hc (k w p l e s m args below meth c C H locs ls hR hl)
theorem v_pop {v : Value} (hd : decode cc pc = .ok (.pop, 1)) (hc : v.category = 1) (hn : pc + 1 = n) (k : V own cc nL ret nm ro R Qf cells slots n al (st) S I) : V own cc nL ret nm ro R Qf cells slots pc al (v :: st) S I := by
  subst hn
  intro w p l e s m args below meth c C H locs ls hR hl
  exact lv_pop C.1 C.2.1 hd hc (k w p l e s m args below meth c C H locs ls hR hl)
theorem v_dup2 {v u : Value} (hd : decode cc pc = .ok (.dup2, 1)) (hc : v.category = 1 ∧ u.category = 1) (hn : pc + 1 = n) (k : V own cc nL ret nm ro R Qf cells slots n al (v :: u :: v :: u :: st) S I) : V own cc nL ret nm ro R Qf cells slots pc al (v :: u :: st) S I := by
  subst hn
  intro w p l e s m args below meth c C H locs ls hR hl
  exact lv_dup2_11 C.1 C.2.1 hd hc.1 hc.2 (k w p l e s m args below meth c C H locs ls hR hl)
theorem v_dup_x1 {v u : Value} (hd : decode cc pc = .ok (.dup_x1, 1)) (hc : v.category = 1 ∧ u.category = 1) (hn : pc + 1 = n) (k : V own cc nL ret nm ro R Qf cells slots n al (v :: u :: v :: st) S I) : V own cc nL ret nm ro R Qf cells slots pc al (v :: u :: st) S I := by
  subst hn
  intro w p l e s m args below meth c C H locs ls hR hl
  exact lv_dup_x1 C.1 C.2.1 hd hc.1 hc.2 (k w p l e s m args below meth c C H locs ls hR hl)
theorem v_if_eq {x : Int32} {off : Int} {tgt : Nat} (hd : decode cc pc = .ok (.ifCond .eq off, 3)) (ht : (pc : Int) + off = (tgt : Int)) (hn : pc + 3 = n) (kt : x = 0 → V own cc nL ret nm ro R Qf cells slots tgt al st S I) (kf : ¬ x = 0 → V own cc nL ret nm ro R Qf cells slots n al st S I) : V own cc nL ret nm ro R Qf cells slots pc al (.int x :: st) S I := by
  subst hn
  intro w p l e s m args below meth c C H locs ls hR hl
  exact lv_if_eq C.1 C.2.1 hd ht (fun h => kt h w p l e s m args below meth c C H locs ls hR hl) (fun h => kf h w p l e s m args below meth c C H locs ls hR hl)
theorem v_icmp_eq {x y : Int32} {off : Int} {tgt : Nat} (hd : decode cc pc = .ok (.if_icmp .eq off, 3)) (ht : (pc : Int) + off = (tgt : Int)) (hn : pc + 3 = n) (kt : x = y → V own cc nL ret nm ro R Qf cells slots tgt al st S I) (kf : ¬ x = y → V own cc nL ret nm ro R Qf cells slots n al st S I) : V own cc nL ret nm ro R Qf cells slots pc al (.int y :: .int x :: st) S I := by
  subst hn
  intro w p l e s m args below meth c C H locs ls hR hl
  exact lv_icmp_eq C.1 C.2.1 hd ht (fun h => kt h w p l e s m args below meth c C H locs ls hR hl) (fun h => kf h w p l e s m args below meth c C H locs ls hR hl)
theorem v_if_ne {x : Int32} {off : Int} {tgt : Nat} (hd : decode cc pc = .ok (.ifCond .ne off, 3)) (ht : (pc : Int) + off = (tgt : Int)) (hn : pc + 3 = n) (kt : ¬ x = 0 → V own cc nL ret nm ro R Qf cells slots tgt al st S I) (kf : x = 0 → V own cc nL ret nm ro R Qf cells slots n al st S I) : V own cc nL ret nm ro R Qf cells slots pc al (.int x :: st) S I := by
  subst hn
  intro w p l e s m args below meth c C H locs ls hR hl
  exact lv_if_ne C.1 C.2.1 hd ht (fun h => kt h w p l e s m args below meth c C H locs ls hR hl) (fun h => kf h w p l e s m args below meth c C H locs ls hR hl)
theorem v_icmp_ne {x y : Int32} {off : Int} {tgt : Nat} (hd : decode cc pc = .ok (.if_icmp .ne off, 3)) (ht : (pc : Int) + off = (tgt : Int)) (hn : pc + 3 = n) (kt : ¬ x = y → V own cc nL ret nm ro R Qf cells slots tgt al st S I) (kf : x = y → V own cc nL ret nm ro R Qf cells slots n al st S I) : V own cc nL ret nm ro R Qf cells slots pc al (.int y :: .int x :: st) S I := by
  subst hn
  intro w p l e s m args below meth c C H locs ls hR hl
  exact lv_icmp_ne C.1 C.2.1 hd ht (fun h => kt h w p l e s m args below meth c C H locs ls hR hl) (fun h => kf h w p l e s m args below meth c C H locs ls hR hl)
theorem v_if_lt {x : Int32} {off : Int} {tgt : Nat} (hd : decode cc pc = .ok (.ifCond .lt off, 3)) (ht : (pc : Int) + off = (tgt : Int)) (hn : pc + 3 = n) (kt : x < 0 → V own cc nL ret nm ro R Qf cells slots tgt al st S I) (kf : ¬ x < 0 → V own cc nL ret nm ro R Qf cells slots n al st S I) : V own cc nL ret nm ro R Qf cells slots pc al (.int x :: st) S I := by
  subst hn
  intro w p l e s m args below meth c C H locs ls hR hl
  exact lv_if_lt C.1 C.2.1 hd ht (fun h => kt h w p l e s m args below meth c C H locs ls hR hl) (fun h => kf h w p l e s m args below meth c C H locs ls hR hl)
theorem v_icmp_lt {x y : Int32} {off : Int} {tgt : Nat} (hd : decode cc pc = .ok (.if_icmp .lt off, 3)) (ht : (pc : Int) + off = (tgt : Int)) (hn : pc + 3 = n) (kt : x < y → V own cc nL ret nm ro R Qf cells slots tgt al st S I) (kf : ¬ x < y → V own cc nL ret nm ro R Qf cells slots n al st S I) : V own cc nL ret nm ro R Qf cells slots pc al (.int y :: .int x :: st) S I := by
  subst hn
  intro w p l e s m args below meth c C H locs ls hR hl
  exact lv_icmp_lt C.1 C.2.1 hd ht (fun h => kt h w p l e s m args below meth c C H locs ls hR hl) (fun h => kf h w p l e s m args below meth c C H locs ls hR hl)
theorem v_if_ge {x : Int32} {off : Int} {tgt : Nat} (hd : decode cc pc = .ok (.ifCond .ge off, 3)) (ht : (pc : Int) + off = (tgt : Int)) (hn : pc + 3 = n) (kt : 0 ≤ x → V own cc nL ret nm ro R Qf cells slots tgt al st S I) (kf : ¬ 0 ≤ x → V own cc nL ret nm ro R Qf cells slots n al st S I) : V own cc nL ret nm ro R Qf cells slots pc al (.int x :: st) S I := by
  subst hn
  intro w p l e s m args below meth c C H locs ls hR hl
  exact lv_if_ge C.1 C.2.1 hd ht (fun h => kt h w p l e s m args below meth c C H locs ls hR hl) (fun h => kf h w p l e s m args below meth c C H locs ls hR hl)
theorem v_icmp_ge {x y : Int32} {off : Int} {tgt : Nat} (hd : decode cc pc = .ok (.if_icmp .ge off, 3)) (ht : (pc : Int) + off = (tgt : Int)) (hn : pc + 3 = n) (kt : y ≤ x → V own cc nL ret nm ro R Qf cells slots tgt al st S I) (kf : ¬ y ≤ x → V own cc nL ret nm ro R Qf cells slots n al st S I) : V own cc nL ret nm ro R Qf cells slots pc al (.int y :: .int x :: st) S I := by
  subst hn
  intro w p l e s m args below meth c C H locs ls hR hl
  exact lv_icmp_ge C.1 C.2.1 hd ht (fun h => kt h w p l e s m args below meth c C H locs ls hR hl) (fun h => kf h w p l e s m args below meth c C H locs ls hR hl)
theorem v_if_gt {x : Int32} {off : Int} {tgt : Nat} (hd : decode cc pc = .ok (.ifCond .gt off, 3)) (ht : (pc : Int) + off = (tgt : Int)) (hn : pc + 3 = n) (kt : 0 < x → V own cc nL ret nm ro R Qf cells slots tgt al st S I) (kf : ¬ 0 < x → V own cc nL ret nm ro R Qf cells slots n al st S I) : V own cc nL ret nm ro R Qf cells slots pc al (.int x :: st) S I := by
  subst hn
  intro w p l e s m args below meth c C H locs ls hR hl
  exact lv_if_gt C.1 C.2.1 hd ht (fun h => kt h w p l e s m args below meth c C H locs ls hR hl) (fun h => kf h w p l e s m args below meth c C H locs ls hR hl)
theorem v_icmp_gt {x y : Int32} {off : Int} {tgt : Nat} (hd : decode cc pc = .ok (.if_icmp .gt off, 3)) (ht : (pc : Int) + off = (tgt : Int)) (hn : pc + 3 = n) (kt : y < x → V own cc nL ret nm ro R Qf cells slots tgt al st S I) (kf : ¬ y < x → V own cc nL ret nm ro R Qf cells slots n al st S I) : V own cc nL ret nm ro R Qf cells slots pc al (.int y :: .int x :: st) S I := by
  subst hn
  intro w p l e s m args below meth c C H locs ls hR hl
  exact lv_icmp_gt C.1 C.2.1 hd ht (fun h => kt h w p l e s m args below meth c C H locs ls hR hl) (fun h => kf h w p l e s m args below meth c C H locs ls hR hl)
theorem v_if_le {x : Int32} {off : Int} {tgt : Nat} (hd : decode cc pc = .ok (.ifCond .le off, 3)) (ht : (pc : Int) + off = (tgt : Int)) (hn : pc + 3 = n) (kt : x ≤ 0 → V own cc nL ret nm ro R Qf cells slots tgt al st S I) (kf : ¬ x ≤ 0 → V own cc nL ret nm ro R Qf cells slots n al st S I) : V own cc nL ret nm ro R Qf cells slots pc al (.int x :: st) S I := by
  subst hn
  intro w p l e s m args below meth c C H locs ls hR hl
  exact lv_if_le C.1 C.2.1 hd ht (fun h => kt h w p l e s m args below meth c C H locs ls hR hl) (fun h => kf h w p l e s m args below meth c C H locs ls hR hl)
theorem v_icmp_le {x y : Int32} {off : Int} {tgt : Nat} (hd : decode cc pc = .ok (.if_icmp .le off, 3)) (ht : (pc : Int) + off = (tgt : Int)) (hn : pc + 3 = n) (kt : x ≤ y → V own cc nL ret nm ro R Qf cells slots tgt al st S I) (kf : ¬ x ≤ y → V own cc nL ret nm ro R Qf cells slots n al st S I) : V own cc nL ret nm ro R Qf cells slots pc al (.int y :: .int x :: st) S I := by
  subst hn
  intro w p l e s m args below meth c C H locs ls hR hl
  exact lv_icmp_le C.1 C.2.1 hd ht (fun h => kt h w p l e s m args below meth c C H locs ls hR hl) (fun h => kf h w p l e s m args below meth c C H locs ls hR hl)
theorem v_goto {off : Int} {tgt : Nat} (hd : decode cc pc = .ok (.goto off, 3)) (ht : (pc : Int) + off = (tgt : Int)) (k : V own cc nL ret nm ro R Qf cells slots tgt al (st) S I) : V own cc nL ret nm ro R Qf cells slots pc al (st) S I := by
  intro w p l e s m args below meth c C H locs ls hR hl
  exact lv_goto C.1 C.2.1 hd ht (k w p l e s m args below meth c C H locs ls hR hl)
theorem v_ifnonnull {x : Nat} {off : Int} {tgt : Nat} (hd : decode cc pc = .ok (.ifnonnull off, 3)) (ht : (pc : Int) + off = (tgt : Int)) (k : V own cc nL ret nm ro R Qf cells slots tgt al (st) S I) : V own cc nL ret nm ro R Qf cells slots pc al (.ref x :: st) S I := by
  intro w p l e s m args below meth c C H locs ls hR hl
  exact lv_ifnonnull C.1 C.2.1 hd ht (k w p l e s m args below meth c C H locs ls hR hl)
theorem v_ifnonnullN {off : Int} (hd : decode cc pc = .ok (.ifnonnull off, 3)) (hn : pc + 3 = n) (k : V own cc nL ret nm ro R Qf cells slots n al (st) S I) : V own cc nL ret nm ro R Qf cells slots pc al (.null :: st) S I := by
  subst hn
  intro w p l e s m args below meth c C H locs ls hR hl
  exact lv_ifnonnullN C.1 C.2.1 hd (k w p l e s m args below meth c C H locs ls hR hl)
theorem v_table {dflt lo hi : Int} {offs : Array Int} {len : Nat} {x : Int32} {off : Int} {tgt : Nat} (hd : decode cc pc = .ok (.tableswitch dflt lo hi offs, len)) (h : ¬ x.toInt < lo ∧ ¬ hi < x.toInt) (ho : offs[(x.toInt - lo).toNat]? = some off) (ht : (pc : Int) + off = (tgt : Int)) (k : V own cc nL ret nm ro R Qf cells slots tgt al (st) S I) : V own cc nL ret nm ro R Qf cells slots pc al (.int x :: st) S I := by
  intro w p l e s m args below meth c C H locs ls hR hl
  exact lv_tableIn C.1 C.2.1 hd h.1 h.2 ho ht (k w p l e s m args below meth c C H locs ls hR hl)
theorem v_tableO {dflt lo hi : Int} {offs : Array Int} {len : Nat} {x : Int32} {tgt : Nat} (hd : decode cc pc = .ok (.tableswitch dflt lo hi offs, len)) (h : x.toInt < lo ∨ hi < x.toInt) (ht : (pc : Int) + dflt = (tgt : Int)) (k : V own cc nL ret nm ro R Qf cells slots tgt al (st) S I) : V own cc nL ret nm ro R Qf cells slots pc al (.int x :: st) S I := by
  intro w p l e s m args below meth c C H locs ls hR hl
  exact lv_tableOut C.1 C.2.1 hd h ht (k w p l e s m args below meth c C H locs ls hR hl)
theorem v_lookup {dflt : Int} {ps : Array (Int × Int)} {len : Nat} {x : Int32} {off : Int} {tgt : Nat} (hd : decode cc pc = .ok (.lookupswitch dflt ps, len)) (hp : (ps.toList.zip (ps.toList.drop 1)).all (fun (a, next) => a.1 < next.1) = true) (ho : Op.lookupswitch.offset ps.toList dflt x.toInt = off) (ht : (pc : Int) + off = (tgt : Int)) (k : V own cc nL ret nm ro R Qf cells slots tgt al (st) S I) : V own cc nL ret nm ro R Qf cells slots pc al (.int x :: st) S I := by
  intro w p l e s m args below meth c C H locs ls hR hl
  exact lv_lookup C.1 C.2.1 hd hp ho ht (k w p l e s m args below meth c C H locs ls hR hl)
theorem v_lcmp {x y : Int64} (hd : decode cc pc = .ok (.lcmp, 1)) (hn : pc + 1 = n) (k : V own cc nL ret nm ro R Qf cells slots n al (.int (lg_cmp x y) :: st) S I) : V own cc nL ret nm ro R Qf cells slots pc al (.long y :: .long x :: st) S I := by
  subst hn
  intro w p l e s m args below meth c C H locs ls hR hl
  exact W.lcmp C.1 C.2.1 hd (k w p l e s m args below meth c C H locs ls hR hl)
end RULES
end
section
/-! ===== rules for the heap ===== -/
theorem fC_at : ∀ ci, ci < 11 → vwCl[ci]? = some (fC ci) := fun ci h => by
  have h2 : ci < vwCl.length := h
  simp only [fC, List.getD_eq_getElem?_getD, List.getElem?_eq_getElem h2, Option.getD_some]
theorem fC_in0 : ∀ ci, ci < 11 → (u_ws (fC ci).1 (fC ci).2.1 (fC ci).2.2).all (fun x => decide (x ∈ lw_tbl) && goodWord x) = true := by decide +kernel
theorem fC_in : ∀ ci, ci < 11 → ∀ x ∈ u_ws (fC ci).1 (fC ci).2.1 (fC ci).2.2, x ∈ GW := fun ci h x hx => by
  have h1 := List.all_eq_true.mp (fC_in0 ci h) x hx
  simp only [Bool.and_eq_true, decide_eq_true_eq] at h1
  exact List.mem_filter.mpr h1
theorem fC_ty : ∀ ci, ci < 11 → ∀ k, k < (fC ci).2.2 → parseFieldDescriptor ((fC ci).2.1 k).2.2.1 = some (fty ci k) := by decide +kernel
theorem fC_nm : ∀ ci, ci < 11 → ∀ a, a < (fC ci).2.2 → ∀ b, b < (fC ci).2.2 → a ≠ b → ((fC ci).2.1 a).2.1 ≠ ((fC ci).2.1 b).2.1 := by decide +kernel
/-- the pool's number idx of the class own names field k of the class ci -/
def FA (own : String) (idx ci k : Nat) : Prop := ci < 11 ∧ k < (fC ci).2.2 ∧ Cond.fieldLink own idx ((fC ci).2.1 k).1 ((fC ci).2.1 k).2.1 ((fC ci).2.1 k).2.2.1 ∈ GW
/-- an index within -/
def ix (i : Int32) (j ln : Nat) : Prop := vp_in i ln ∧ i.toNatClampNeg = j
theorem ix.lt {i : Int32} {j ln : Nat} (h : ix i j ln) : j < ln := by
  obtain ⟨h1, rfl⟩ := h
  exact Nat.not_le.mp fun q => h1 (Or.inr q)
theorem ix_nI {j ln : Nat} (h : j < ln) (hl : ln < 2 ^ 31) : ix (nI j) j ln := ⟨vp_in_nI h hl, nI_clamp (by omega)⟩
theorem ix_of {i : Int32} {j ln : Nat} (hi : i = nI j) (h : j < ln) (hl : ln < 2 ^ 31) : ix i j ln := hi ▸ ix_nI h hl
theorem tyL_at {TA : Nat → ClassId} {t : Nat} (h : t < 7) : (tyL TA)[t]? = some (TA t, aty t) := by
  simp [tyL, h]
section HEAP
variable {own : String} {cc : ByteArray} {nL : Nat} {ret : Option FieldType} {nm : String} {ro : Ro} {R : Room} {Qf : Wd → List Frame → Array Value → State → State → Prop} {cells slots pc n : Nat} {al st : List Value} {S : St} {I : In}
theorem v_getF {idx ci k a ln : Nat} (hf : FA own idx ci k) (hs : S.1 a = some (ci, ln)) (hd : decode cc pc = .ok (.getfield idx, 3)) (hn : pc + 3 = n) (kk : V own cc nL ret nm ro R Qf cells slots n al (fv S I ci a k :: st) S I) : V own cc nL ret nm ro R Qf cells slots pc al (.ref a :: st) S I := by
  subst hn
  intro w p l e s m args below meth c C H locs ls hR hl
  obtain ⟨hci, hk, hlk⟩ := hf
  obtain ⟨cell, q1, q2, q3, q4⟩ := (hR.1.2.2.2 a _ hs).2.1 hci
  obtain ⟨hx, hb, -, -, -, -, hown, hts, hK⟩ := id C
  obtain ⟨hS, hfc, kC, hkC, hkind⟩ := hK.1.1 ci _ (fC_at ci hci)
  obtain ⟨cf, kf, fi, f, hi, hsl⟩ := hS k hk
  refine W.getf hx hb hown (hts _ hlk) hi (u_facts hfc hkC (u_lays hts (fC_in ci hci) hk) hi).1 q1 (by rw [q3]; exact fun h => by cases h) (v := fv S I ci a k) ?_ rfl rfl hd (kk w p l e s m args below meth c C H locs ls hR hl)
  rw [hsl, q4 k hk]
theorem v_getI {idx ci k a ln : Nat} (hf : FA own idx ci k) (hr : isR ci k = false) (hs : S.1 a = some (ci, ln)) (hd : decode cc pc = .ok (.getfield idx, 3)) (hn : pc + 3 = n) (kk : V own cc nL ret nm ro R Qf cells slots n al (.int (I a k) :: st) S I) : V own cc nL ret nm ro R Qf cells slots pc al (.ref a :: st) S I :=
  v_getF hf hs hd hn (by rw [show fv S I ci a k = .int (I a k) by unfold fv; rw [hr]; rfl]; exact kk)
theorem v_getR {idx ci k a ln : Nat} {v : Value} (hf : FA own idx ci k) (hr : isR ci k = true) (hs : S.1 a = some (ci, ln)) (hv : S.2.1 a k = v) (hd : decode cc pc = .ok (.getfield idx, 3)) (hn : pc + 3 = n) (kk : V own cc nL ret nm ro R Qf cells slots n al (v :: st) S I) : V own cc nL ret nm ro R Qf cells slots pc al (.ref a :: st) S I :=
  v_getF hf hs hd hn (by rw [show fv S I ci a k = v by unfold fv; rw [hr]; exact hv]; exact kk)
/-- may a field be written here: it isn't final, or this is its class's constructor -/
def canPut (own nm : String) (ci k : Nat) : Prop := ((fC ci).2.1 k).2.2.2 = false ∨ (((fC ci).2.1 k).2.2.2 = true ∧ nm = "<init>" ∧ ((fC ci).2.1 k).1 = own)
theorem v_putF {idx ci k a ln : Nat} {v : Value} {G' : Gr} {I' : In} (hf : FA own idx ci k) (hp : canPut own nm ci k) (hs : S.1 a = some (ci, ln)) (hv : narrow (fty ci k) v = v ∧ fits (fty ci k) v = true) (hd : decode cc pc = .ok (.putfield idx, 3)) (hn : pc + 3 = n)
    (hI : ∀ b, b ≠ a → I' b = I b) (hG : ∀ b, b ≠ a → G' b = S.2.1 b) (hc : ∀ j, j < (fC ci).2.2 → fv (S.1, G', S.2.2) I' ci a j = if j = k then v else fv S I ci a j)
    (kk : V own cc nL ret nm ro R Qf cells slots n al st (S.1, G', S.2.2) I') : V own cc nL ret nm ro R Qf cells slots pc al (v :: .ref a :: st) S I := by
  subst hn
  intro w p l e s m args below meth c C H locs ls hR hl
  obtain ⟨hci, hk, hlk⟩ := hf
  obtain ⟨cell, q1, q2, q3, q4⟩ := (hR.1.2.2.2 a _ hs).2.1 hci
  obtain ⟨hx, hb, -, -, hnm, -, hown, hts, hK⟩ := id C
  have hap := va_apart (own := own) hts (fC_in ci hci) (fty ci) (fC_ty ci hci) (fC_nm ci hci) hK.1 (fC_at ci hci)
  obtain ⟨hS, hfc, kC, hkC, hkind⟩ := hK.1.1 ci _ (fC_at ci hci)
  obtain ⟨cf, kf, fi, f, hi, hsl⟩ := hS k hk
  have hlay := hts _ (fC_in ci hci _ (u_in_lay hk))
  unfold u_lay at hlay
  have hst := (u_facts hfc hkC (u_lays hts (fC_in ci hci) hk) hi).1
  have fin : ∀ H' : Heap, H'[a]? = some (cell.setSlot f.slot v) → H'.size = H.size → (∀ q, q ≠ a → H'[q]? = H[q]?) → W p l e R s m args below meth c H' (locs ++ [⟨a, f.slot⟩]) cells slots (Qf w below args s) (F0 m (pc + 3) ls st) := by
    intro H' e1 e2 e3
    rw [hsl] at e1
    refine kk w p l e s m args below meth c C H' _ ls (rep_set hR hs e2 e3 hI hG ⟨fun _ => ?_, fun h => absurd h (by omega)⟩) hl
    exact t_OB.to (V := updV (fv S I ci a) k v) ⟨_, e1, q2, q3, t_set q4 hap hk v⟩ (fun j hj => (hc j hj).symm)
  rcases hp with hp | ⟨hp, hnm2, hdecl⟩
  · rw [if_neg (by rw [hp]; decide)] at hlay
    have h6 := u_store hfc hkC hkind hlay hi (fC_ty ci hci k hk) hv.1 hv.2
    exact W.putK hx hb (f := f) ⟨hown, hts _ hlk, ⟨_, _, _, hi⟩, hst⟩ (by rw [q2]; exact h6) q1 q3 (by rw [hsl]; exact k2_hasslot (q4 k hk)) rfl rfl hd fin
  · rw [if_pos hp] at hlay
    have hcf : m.cls = cf := by
      obtain ⟨_, _, c', _, _, _, -, -, hf', -, -, -, hown2, -⟩ := Cond.laysFinal_spec hlay
      have e1 : c' = cf := by have := hi.symm.trans hf'; simp at this; exact this.1.symm
      rw [hdecl] at hown2
      rw [← e1]; exact Option.some.inj (hown.symm.trans hown2)
    have h6 := u_fits hfc hkC hkind (Or.inr hlay) hi (fC_ty ci hci k hk) hv.1 hv.2
    exact W.putFinK hx hb hown (hts _ hlk) hi hst hcf (hnm.trans hnm2) (by rw [q2]; exact h6) q1 q3 (by rw [hsl]; exact k2_hasslot (q4 k hk)) rfl rfl hd fin
theorem v_putI0 {idx ci k a ln : Nat} {x : Int32} (hf : FA own idx ci k) (hr : isR ci k = false) (hp : canPut own nm ci k) (hs : S.1 a = some (ci, ln)) (hv : narrow (fty ci k) (.int x) = .int x ∧ fits (fty ci k) (.int x) = true) (hd : decode cc pc = .ok (.putfield idx, 3)) (hn : pc + 3 = n)
    (kk : V own cc nL ret nm ro R Qf cells slots n al st S (setI I a k x)) : V own cc nL ret nm ro R Qf cells slots pc al (.int x :: .ref a :: st) S I := by
  refine v_putF (G' := S.2.1) (I' := setI I a k x) hf hp hs hv hd hn (fun b hb => setI_ne hb) (fun _ _ => rfl) (fun j hj => ?_) kk
  by_cases h : j = k
  · subst h
    rw [if_pos rfl]
    unfold fv
    rw [hr]
    simp [setI]
  · rw [if_neg h]
    unfold fv
    simp [setI, h]
theorem v_putI {idx ci k a ln : Nat} {x : Int32} (hf : FA own idx ci k) (ht : fty ci k = .int) (hp : canPut own nm ci k) (hs : S.1 a = some (ci, ln)) (hd : decode cc pc = .ok (.putfield idx, 3)) (hn : pc + 3 = n)
    (kk : V own cc nL ret nm ro R Qf cells slots n al st S (setI I a k x)) : V own cc nL ret nm ro R Qf cells slots pc al (.int x :: .ref a :: st) S I :=
  v_putI0 hf (by unfold isR; rw [ht]; rfl) hp hs (by rw [ht]; exact ⟨rfl, rfl⟩) hd hn kk
theorem bool_nar {x : Int32} (h : x = 0 ∨ x = 1) : narrow .boolean (.int x) = .int x ∧ fits .boolean (.int x) = true := by
  rcases h with rfl | rfl <;> exact ⟨by decide +kernel, by decide +kernel⟩
theorem v_putZ {idx ci k a ln : Nat} {x : Int32} (hf : FA own idx ci k) (ht : fty ci k = .boolean) (hp : canPut own nm ci k) (hs : S.1 a = some (ci, ln)) (hx : x = 0 ∨ x = 1) (hd : decode cc pc = .ok (.putfield idx, 3)) (hn : pc + 3 = n)
    (kk : V own cc nL ret nm ro R Qf cells slots n al st S (setI I a k x)) : V own cc nL ret nm ro R Qf cells slots pc al (.int x :: .ref a :: st) S I :=
  v_putI0 hf (by unfold isR; rw [ht]; rfl) hp hs (by rw [ht]; exact bool_nar hx) hd hn kk
theorem ref_nar {ty : FieldType} {v : Value} (h : ty.isReference = true) (hv : (∃ b, v = .ref b) ∨ v = .null) : narrow ty v = v ∧ fits ty v = true := by
  cases ty <;> first | (simp [FieldType.isReference] at h; done) | (rcases hv with ⟨b, rfl⟩ | rfl <;> exact ⟨rfl, rfl⟩)
theorem v_putR {idx ci k a ln : Nat} {v : Value} (hf : FA own idx ci k) (hr : isR ci k = true) (hp : canPut own nm ci k) (hs : S.1 a = some (ci, ln)) (hv : (∃ b, v = .ref b) ∨ v = .null) (hd : decode cc pc = .ok (.putfield idx, 3)) (hn : pc + 3 = n)
    (kk : V own cc nL ret nm ro R Qf cells slots n al st (S.1, setG S.2.1 a k v, S.2.2) I) : V own cc nL ret nm ro R Qf cells slots pc al (v :: .ref a :: st) S I := by
  refine v_putF (G' := setG S.2.1 a k v) (I' := I) hf hp hs (ref_nar hr hv) hd hn (fun _ _ => rfl) (fun b hb => setG_ne hb) (fun j hj => ?_) kk
  by_cases h : j = k
  · subst h
    rw [if_pos rfl]
    unfold fv
    rw [hr]
    simp [setG]
  · rw [if_neg h]
    unfold fv
    simp [setG, h]
/-! arrays -/
theorem arr_of {w : Wd} {H : Heap} {locs : List Loc} {a ln : Nat} {t : Nat} (hR : Rep w S I H locs) (hs : S.1 a = some (20 + t, ln)) : H[a]? = some (arrV (w.2.1 t) ln (av S I t a)) := by
  have := (hR.1.2.2.2 a _ hs).2.2 (by show 11 ≤ 20 + t; omega)
  rw [show 20 + t - 20 = t by omega] at this
  exact this
theorem v_iald {a ln j : Nat} {i : Int32} (hs : S.1 a = some (20, ln)) (hj : ix i j ln) (hd : decode cc pc = .ok (.iaload, 1)) (hn : pc + 1 = n) (kk : V own cc nL ret nm ro R Qf cells slots n al (.int (I a j) :: st) S I) : V own cc nL ret nm ro R Qf cells slots pc al (.int i :: .ref a :: st) S I := by
  subst hn
  intro w p l e s m args below meth c C H locs ls hR hl
  have hlt := hj.lt
  obtain ⟨hin, rfl⟩ := hj
  exact W.iald (v := .int (I a i.toNatClampNeg)) C.1 C.2.1 (arr_of (t := 0) hR hs) ((C.2.2.2.2.2.2.2.2.1.2 0 _ (tyL_at (by decide))).1 ln _) (fun q => by cases q) (by rw [arrV_size]; exact hin) (by rw [arrV_read _ _ hlt]; rfl) rfl rfl hd (kk w p l e s m args below meth c C H locs ls hR hl)
theorem v_zald {a ln j : Nat} {i : Int32} (hs : S.1 a = some (21, ln)) (hj : ix i j ln) (hd : decode cc pc = .ok (.baload, 1)) (hn : pc + 1 = n) (kk : V own cc nL ret nm ro R Qf cells slots n al (.int (I a j) :: st) S I) : V own cc nL ret nm ro R Qf cells slots pc al (.int i :: .ref a :: st) S I := by
  subst hn
  intro w p l e s m args below meth c C H locs ls hR hl
  have hlt := hj.lt
  obtain ⟨hin, rfl⟩ := hj
  exact W.zald (v := .int (I a i.toNatClampNeg)) C.1 C.2.1 (arr_of (t := 1) hR hs) ((C.2.2.2.2.2.2.2.2.1.2 1 _ (tyL_at (by decide))).1 ln _) (fun q => by cases q) (by rw [arrV_size]; exact hin) (by rw [arrV_read _ _ hlt]; rfl) rfl rfl hd (kk w p l e s m args below meth c C H locs ls hR hl)
theorem v_cald {a ln j : Nat} {i : Int32} (hs : S.1 a = some (22, ln)) (hj : ix i j ln) (hd : decode cc pc = .ok (.caload, 1)) (hn : pc + 1 = n) (kk : V own cc nL ret nm ro R Qf cells slots n al (.int (I a j) :: st) S I) : V own cc nL ret nm ro R Qf cells slots pc al (.int i :: .ref a :: st) S I := by
  subst hn
  intro w p l e s m args below meth c C H locs ls hR hl
  have hlt := hj.lt
  obtain ⟨hin, rfl⟩ := hj
  exact W.cald (v := .int (I a i.toNatClampNeg)) C.1 C.2.1 (arr_of (t := 2) hR hs) ((C.2.2.2.2.2.2.2.2.1.2 2 _ (tyL_at (by decide))).1 ln _) (fun q => by cases q) (by rw [arrV_size]; exact hin) (by rw [arrV_read _ _ hlt]; rfl) rfl rfl hd (kk w p l e s m args below meth c C H locs ls hR hl)
theorem aty_ref : ∀ t, 3 ≤ t → (aty t).isReference = true
  | 0, h => absurd h (by decide)
  | 1, h => absurd h (by decide)
  | 2, h => absurd h (by decide)
  | 3, _ => rfl
  | 4, _ => rfl
  | 5, _ => rfl
  | _ + 6, _ => rfl
theorem v_aald {a ln j t : Nat} {i : Int32} {v : Value} (ht : 3 ≤ t ∧ t < 7) (hs : S.1 a = some (20 + t, ln)) (hj : ix i j ln) (hv : S.2.1 a j = v) (hd : decode cc pc = .ok (.aaload, 1)) (hn : pc + 1 = n) (kk : V own cc nL ret nm ro R Qf cells slots n al (v :: st) S I) : V own cc nL ret nm ro R Qf cells slots pc al (.int i :: .ref a :: st) S I := by
  subst hn
  subst hv
  intro w p l e s m args below meth c C H locs ls hR hl
  have hlt := hj.lt
  obtain ⟨hin, rfl⟩ := hj
  exact W.aald (v := S.2.1 a i.toNatClampNeg) C.1 C.2.1 (arr_of hR hs) ((C.2.2.2.2.2.2.2.2.1.2 t _ (tyL_at ht.2)).1 ln _) (aty_ref t ht.1) (fun q => by cases q) (by rw [arrV_size]; exact hin) (by rw [arrV_read _ _ hlt]; unfold av; rw [if_pos ht.1]) rfl rfl hd (kk w p l e s m args below meth c C H locs ls hR hl)
theorem v_alen {a ln t : Nat} (ht : t < 7) (hs : S.1 a = some (20 + t, ln)) (hd : decode cc pc = .ok (.arraylength, 1)) (hn : pc + 1 = n) (kk : V own cc nL ret nm ro R Qf cells slots n al (.int (nI ln) :: st) S I) : V own cc nL ret nm ro R Qf cells slots pc al (.ref a :: st) S I := by
  subst hn
  intro w p l e s m args below meth c C H locs ls hR hl
  exact W.alen (n := nI ln) C.1 C.2.1 (arr_of hR hs) ((C.2.2.2.2.2.2.2.2.1.2 t _ (tyL_at ht)).1 ln _) (by rw [arrV_size]; rfl) rfl rfl hd (kk w p l e s m args below meth c C H locs ls hR hl)
/-- the array behind a store -/
theorem arrI_set {w : Wd} {H H1 : Heap} {locs : List Loc} {a ln j : Nat} {x : Int32} {t : Nat} (ht : t < 3) (hR : Rep w S I H locs) (hs : S.1 a = some (20 + t, ln)) (h1 : H1[a]? = some ((arrV (w.2.1 t) ln (av S I t a)).setSlot j (.int x))) (hz : H1.size = H.size) (ho : ∀ q : Nat, q ≠ a → H1[q]? = H[q]?) : Rep w S (setI I a j x) H1 (locs ++ [⟨a, j⟩]) := by
  refine rep_set (G' := S.2.1) hR hs hz ho (fun b hb => setI_ne hb) (fun _ _ => rfl) ⟨fun h => absurd h (by show ¬ 20 + t < 11; omega), fun _ => ?_⟩
  rw [h1, arrV_store]
  rw [show (20 + t, ln).1 - 20 = t by show 20 + t - 20 = t; omega]
  congr 2
  funext q
  by_cases hq : q = j
  · subst hq
    unfold av
    rw [if_neg (by omega)]
    simp [updV, setI]
  · unfold av
    rw [if_neg (by omega)]
    simp only [updV, if_neg hq, setI]
    rw [if_neg (by omega : ¬ 3 ≤ t)]
    simp [hq]
theorem v_iast {a ln j : Nat} {i x : Int32} (hs : S.1 a = some (20, ln)) (hj : ix i j ln) (hd : decode cc pc = .ok (.iastore, 1)) (hn : pc + 1 = n) (kk : V own cc nL ret nm ro R Qf cells slots n al st S (setI I a j x)) : V own cc nL ret nm ro R Qf cells slots pc al (.int x :: .int i :: .ref a :: st) S I := by
  subst hn
  intro w p l e s m args below meth c C H locs ls hR hl
  obtain ⟨hin, rfl⟩ := hj
  exact W.iast C.1 C.2.1 (arr_of (t := 0) hR hs) ((C.2.2.2.2.2.2.2.2.1.2 0 _ (tyL_at (by decide))).1 ln _) (fun q => by cases q) (by rw [arrV_size]; exact hin) rfl rfl hd (fun H1 e1 e2 e3 => kk w p l e s m args below meth c C H1 _ ls (arrI_set (t := 0) (by decide) hR hs e1 e2 e3) hl)
theorem v_zast {a ln j : Nat} {i x : Int32} (hs : S.1 a = some (21, ln)) (hj : ix i j ln) (hx : x = 0 ∨ x = 1) (hd : decode cc pc = .ok (.bastore, 1)) (hn : pc + 1 = n) (kk : V own cc nL ret nm ro R Qf cells slots n al st S (setI I a j x)) : V own cc nL ret nm ro R Qf cells slots pc al (.int x :: .int i :: .ref a :: st) S I := by
  subst hn
  intro w p l e s m args below meth c C H locs ls hR hl
  obtain ⟨hin, rfl⟩ := hj
  exact W.zast C.1 C.2.1 (arr_of (t := 1) hR hs) ((C.2.2.2.2.2.2.2.2.1.2 1 _ (tyL_at (by decide))).1 ln _) (fun q => by cases q) (by rw [arrV_size]; exact hin) rfl rfl hd (fun H1 e1 e2 e3 => kk w p l e s m args below meth c C H1 _ ls (arrI_set (t := 1) (by decide) hR hs (by rw [(bool_nar hx).1] at e1; exact e1) e2 e3) hl)
theorem v_cast {a ln j : Nat} {i x : Int32} (hs : S.1 a = some (22, ln)) (hj : ix i j ln) (hx : narrow .char (.int x) = .int x) (hd : decode cc pc = .ok (.castore, 1)) (hn : pc + 1 = n) (kk : V own cc nL ret nm ro R Qf cells slots n al st S (setI I a j x)) : V own cc nL ret nm ro R Qf cells slots pc al (.int x :: .int i :: .ref a :: st) S I := by
  subst hn
  intro w p l e s m args below meth c C H locs ls hR hl
  obtain ⟨hin, rfl⟩ := hj
  exact W.cast C.1 C.2.1 (arr_of (t := 2) hR hs) ((C.2.2.2.2.2.2.2.2.1.2 2 _ (tyL_at (by decide))).1 ln _) (fun q => by cases q) (by rw [arrV_size]; exact hin) rfl rfl hd (fun H1 e1 e2 e3 => kk w p l e s m args below meth c C H1 _ ls (arrI_set (t := 2) (by decide) hR hs (by rw [hx] at e1; exact e1) e2 e3) hl)
theorem arrG_set {w : Wd} {H H1 : Heap} {locs : List Loc} {a ln j : Nat} {v : Value} {t : Nat} (ht : 3 ≤ t) (hR : Rep w S I H locs) (hs : S.1 a = some (20 + t, ln)) (h1 : H1[a]? = some ((arrV (w.2.1 t) ln (av S I t a)).setSlot j v)) (hz : H1.size = H.size) (ho : ∀ q : Nat, q ≠ a → H1[q]? = H[q]?) : Rep w (S.1, setG S.2.1 a j v, S.2.2) I H1 (locs ++ [⟨a, j⟩]) := by
  refine rep_set hR hs hz ho (fun _ _ => rfl) (fun b hb => setG_ne hb) ⟨fun h => absurd h (by show ¬ 20 + t < 11; omega), fun _ => ?_⟩
  rw [h1, arrV_store]
  rw [show (20 + t, ln).1 - 20 = t by show 20 + t - 20 = t; omega]
  congr 2
  funext q
  by_cases hq : q = j
  · subst hq
    unfold av
    rw [if_pos ht]
    simp [updV, setG]
  · unfold av
    rw [if_pos ht]
    simp only [updV, if_neg hq, setG]
    rw [if_pos ht]
    simp [hq]
theorem aty_obj : ∀ t, 3 ≤ t → t < 7 → aty t = .object (fC (aci t)).1 := by
  intro t h1 h2
  rcases (show t = 3 ∨ t = 4 ∨ t = 5 ∨ t = 6 by omega) with rfl | rfl | rfl | rfl <;> rfl
theorem aci_lt : ∀ t, aci t < 11 := fun t => by unfold aci; split <;> decide
theorem v_aast {a ln j t b lb : Nat} {i : Int32} (ht : 3 ≤ t ∧ t < 7) (hs : S.1 a = some (20 + t, ln)) (hj : ix i j ln) (hb : S.1 b = some (aci t, lb)) (hd : decode cc pc = .ok (.aastore, 1)) (hn : pc + 1 = n) (kk : V own cc nL ret nm ro R Qf cells slots n al st (S.1, setG S.2.1 a j (.ref b), S.2.2) I) : V own cc nL ret nm ro R Qf cells slots pc al (.ref b :: .int i :: .ref a :: st) S I := by
  subst hn
  intro w p l e s m args below meth c C H locs ls hR hl
  have hlt := hj.lt
  obtain ⟨hin, rfl⟩ := hj
  have hK := C.2.2.2.2.2.2.2.2.1
  obtain ⟨cellV, g1, g2, g3, -⟩ := (hR.1.2.2.2 b _ hb).2.1 (aci_lt t)
  have hcls := (hK.1 (aci t) _ (fC_at _ (aci_lt t))).2
  have hra := (hK.2 t _ (tyL_at ht.2)).2
  rw [show (w.2.1 t, aty t).2 = .object (fC (aci t)).1 from aty_obj t ht.1 ht.2] at hra
  obtain ⟨kA, comp, k1, k2, k3, -⟩ := hra
  have hcomp : comp = w.1.1 (aci t) := Option.some.inj (k3.symm.trans hcls.1)
  subst hcomp
  obtain ⟨kC, hkC, -⟩ := hcls.2
  exact W.aast C.1 C.2.1 (arr_of hR hs) (fun q h => by cases h) (fun h => by cases h) k1 k2 rfl hkC ⟨fun q => hin (Or.inl q), by rw [arrV_size]; exact hlt⟩ g1 (fun q h => by rw [g3] at h; cases h) (by rw [g2]; exact hkC) (by rw [g2]; exact va_assign hcls) rfl rfl hd (fun H1 e1 e2 e3 => kk w p l e s m args below meth c C H1 _ ls (arrG_set ht.1 hR hs e1 e2 e3) hl)
theorem v_aastN {a ln j t : Nat} {i : Int32} (ht : 3 ≤ t ∧ t < 7) (hs : S.1 a = some (20 + t, ln)) (hj : ix i j ln) (hd : decode cc pc = .ok (.aastore, 1)) (hn : pc + 1 = n) (kk : V own cc nL ret nm ro R Qf cells slots n al st (S.1, setG S.2.1 a j .null, S.2.2) I) : V own cc nL ret nm ro R Qf cells slots pc al (.null :: .int i :: .ref a :: st) S I := by
  subst hn
  intro w p l e s m args below meth c C H locs ls hR hl
  obtain ⟨hin, rfl⟩ := hj
  have hK := C.2.2.2.2.2.2.2.2.1
  have harr := (hK.2 t _ (tyL_at ht.2)).1 ln (av S I t a)
  rw [show (w.2.1 t, aty t).2 = .object (fC (aci t)).1 from aty_obj t ht.1 ht.2] at harr
  exact va_WaastN C.1 C.2.1 (arr_of hR hs) harr (fun h => by cases h) (by rw [arrV_size]; exact hin) rfl rfl hd (fun H1 e1 e2 e3 => kk w p l e s m args below meth c C H1 _ ls (arrG_set ht.1 hR hs e1 e2 e3) hl)
end HEAP
end
