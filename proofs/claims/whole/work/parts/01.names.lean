-- ===== PART A: goes FIRST, ahead of the names: the tables' words, and 'selects' of the private methods out of them =====
/-- a private method of a class that the tables say can be made, by its rows of tables_1 -/
def lw_okq (q : MethodName × Nat) : Prop := (q.1.cls ≠ "java/lang/invoke/MethodHandle" ∧ q.1.cls ≠ "java/lang/invoke/VarHandle") ∧ Cond.instantiable q.1.cls q.2 ∈ tables_1 ∧ Cond.privateMethod q.1 ∈ tables_1 ∧ Cond.instanceMethod q.1 ∈ tables_1
theorem lw_p0 : lw_okq (⟨"SnowOwed$Ball", "bareThings", "(I)V"⟩, 7) := ⟨⟨by decide +kernel, by decide +kernel⟩, List.mem_of_getElem? (i := 70) (by decide +kernel), List.mem_of_getElem? (i := 480) (by decide +kernel), List.mem_of_getElem? (i := 481) (by decide +kernel)⟩
theorem lw_p1 : lw_okq (⟨"SnowOwed$Village", "roll", "(II)I"⟩, 9) := ⟨⟨by decide +kernel, by decide +kernel⟩, List.mem_of_getElem? (i := 29) (by decide +kernel), List.mem_of_getElem? (i := 488) (by decide +kernel), List.mem_of_getElem? (i := 489) (by decide +kernel)⟩
theorem lw_p2 : lw_okq (⟨"SnowOwed$Paths", "weigh", "(LSnowOwed$Village;I)V"⟩, 5) := ⟨⟨by decide +kernel, by decide +kernel⟩, List.mem_of_getElem? (i := 152) (by decide +kernel), List.mem_of_getElem? (i := 547) (by decide +kernel), List.mem_of_getElem? (i := 548) (by decide +kernel)⟩
theorem lw_p3 : lw_okq (⟨"SnowOwed", "differences", "(LSnowOwed$Sheet;I)I"⟩, 11) := ⟨⟨by decide +kernel, by decide +kernel⟩, List.mem_of_getElem? (i := 21) (by decide +kernel), List.mem_of_getElem? (i := 565) (by decide +kernel), List.mem_of_getElem? (i := 566) (by decide +kernel)⟩
theorem lw_p4 : lw_okq (⟨"SnowOwed$Reader", "next", "()V"⟩, 9) := ⟨⟨by decide +kernel, by decide +kernel⟩, List.mem_of_getElem? (i := 196) (by decide +kernel), List.mem_of_getElem? (i := 601) (by decide +kernel), List.mem_of_getElem? (i := 602) (by decide +kernel)⟩
theorem lw_p5 : lw_okq (⟨"SnowOwed$Reader", "keyAtHand", "()I"⟩, 9) := ⟨⟨by decide +kernel, by decide +kernel⟩, List.mem_of_getElem? (i := 196) (by decide +kernel), List.mem_of_getElem? (i := 608) (by decide +kernel), List.mem_of_getElem? (i := 609) (by decide +kernel)⟩
theorem lw_p6 : lw_okq (⟨"SnowOwed$Reader", "level", "(III)Z"⟩, 9) := ⟨⟨by decide +kernel, by decide +kernel⟩, List.mem_of_getElem? (i := 196) (by decide +kernel), List.mem_of_getElem? (i := 653) (by decide +kernel), List.mem_of_getElem? (i := 654) (by decide +kernel)⟩
theorem lw_p7 : lw_okq (⟨"SnowOwed$Reader", "piece", "(II)Z"⟩, 9) := ⟨⟨by decide +kernel, by decide +kernel⟩, List.mem_of_getElem? (i := 196) (by decide +kernel), List.mem_of_getElem? (i := 657) (by decide +kernel), List.mem_of_getElem? (i := 658) (by decide +kernel)⟩
theorem lw_p8 : lw_okq (⟨"SnowOwed$Reader", "atomAtHand", "()I"⟩, 9) := ⟨⟨by decide +kernel, by decide +kernel⟩, List.mem_of_getElem? (i := 196) (by decide +kernel), List.mem_of_getElem? (i := 661) (by decide +kernel), List.mem_of_getElem? (i := 662) (by decide +kernel)⟩
theorem lw_p9 : lw_okq (⟨"SnowOwed$Reader", "byteAtHand", "()I"⟩, 9) := ⟨⟨by decide +kernel, by decide +kernel⟩, List.mem_of_getElem? (i := 196) (by decide +kernel), List.mem_of_getElem? (i := 671) (by decide +kernel), List.mem_of_getElem? (i := 672) (by decide +kernel)⟩
theorem lw_p10 : lw_okq (⟨"SnowOwed$Reader", "put", "(I)V"⟩, 9) := ⟨⟨by decide +kernel, by decide +kernel⟩, List.mem_of_getElem? (i := 196) (by decide +kernel), List.mem_of_getElem? (i := 737) (by decide +kernel), List.mem_of_getElem? (i := 738) (by decide +kernel)⟩
theorem lw_p11 : lw_okq (⟨"SnowOwed$Reader", "isSign", "(I)Z"⟩, 9) := ⟨⟨by decide +kernel, by decide +kernel⟩, List.mem_of_getElem? (i := 196) (by decide +kernel), List.mem_of_getElem? (i := 741) (by decide +kernel), List.mem_of_getElem? (i := 742) (by decide +kernel)⟩
theorem lw_p12 : lw_okq (⟨"SnowOwed$Reader", "levelAtHand", "()I"⟩, 9) := ⟨⟨by decide +kernel, by decide +kernel⟩, List.mem_of_getElem? (i := 196) (by decide +kernel), List.mem_of_getElem? (i := 745) (by decide +kernel), List.mem_of_getElem? (i := 746) (by decide +kernel)⟩
theorem lw_p13 : lw_okq (⟨"SnowOwed", "waitsAt", "(III)Z"⟩, 11) := ⟨⟨by decide +kernel, by decide +kernel⟩, List.mem_of_getElem? (i := 21) (by decide +kernel), List.mem_of_getElem? (i := 868) (by decide +kernel), List.mem_of_getElem? (i := 869) (by decide +kernel)⟩
theorem lw_p14 : lw_okq (⟨"SnowOwedModel", "comes", "(III)I"⟩, 34) := ⟨⟨by decide +kernel, by decide +kernel⟩, List.mem_of_getElem? (i := 889) (by decide +kernel), List.mem_of_getElem? (i := 1012) (by decide +kernel), List.mem_of_getElem? (i := 1013) (by decide +kernel)⟩
theorem lw_p15 : lw_okq (⟨"SnowOwedModel", "put", "(III)V"⟩, 34) := ⟨⟨by decide +kernel, by decide +kernel⟩, List.mem_of_getElem? (i := 889) (by decide +kernel), List.mem_of_getElem? (i := 1016) (by decide +kernel), List.mem_of_getElem? (i := 1017) (by decide +kernel)⟩
def lw_privs_1 : List (MethodName × Nat) := [(⟨"SnowOwed$Ball", "bareThings", "(I)V"⟩, 7), (⟨"SnowOwed$Village", "roll", "(II)I"⟩, 9), (⟨"SnowOwed$Paths", "weigh", "(LSnowOwed$Village;I)V"⟩, 5), (⟨"SnowOwed", "differences", "(LSnowOwed$Sheet;I)I"⟩, 11), (⟨"SnowOwed$Reader", "next", "()V"⟩, 9), (⟨"SnowOwed$Reader", "keyAtHand", "()I"⟩, 9), (⟨"SnowOwed$Reader", "level", "(III)Z"⟩, 9), (⟨"SnowOwed$Reader", "piece", "(II)Z"⟩, 9), (⟨"SnowOwed$Reader", "atomAtHand", "()I"⟩, 9), (⟨"SnowOwed$Reader", "byteAtHand", "()I"⟩, 9), (⟨"SnowOwed$Reader", "put", "(I)V"⟩, 9), (⟨"SnowOwed$Reader", "isSign", "(I)Z"⟩, 9), (⟨"SnowOwed$Reader", "levelAtHand", "()I"⟩, 9), (⟨"SnowOwed", "waitsAt", "(III)Z"⟩, 11), (⟨"SnowOwedModel", "comes", "(III)I"⟩, 34), (⟨"SnowOwedModel", "put", "(III)V"⟩, 34)]
theorem lw_r1 : ∀ q ∈ lw_privs_1, lw_okq q := List.forall_mem_cons.mpr ⟨lw_p0, List.forall_mem_cons.mpr ⟨lw_p1, List.forall_mem_cons.mpr ⟨lw_p2, List.forall_mem_cons.mpr ⟨lw_p3, List.forall_mem_cons.mpr ⟨lw_p4, List.forall_mem_cons.mpr ⟨lw_p5, List.forall_mem_cons.mpr ⟨lw_p6, List.forall_mem_cons.mpr ⟨lw_p7, List.forall_mem_cons.mpr ⟨lw_p8, List.forall_mem_cons.mpr ⟨lw_p9, List.forall_mem_cons.mpr ⟨lw_p10, List.forall_mem_cons.mpr ⟨lw_p11, List.forall_mem_cons.mpr ⟨lw_p12, List.forall_mem_cons.mpr ⟨lw_p13, List.forall_mem_cons.mpr ⟨lw_p14, List.forall_mem_cons.mpr ⟨lw_p15, fun _ h => absurd h List.not_mem_nil⟩⟩⟩⟩⟩⟩⟩⟩⟩⟩⟩⟩⟩⟩⟩⟩
theorem lw_p16 : lw_okq (⟨"SnowOwedModel", "isYard", "(I)Z"⟩, 34) := ⟨⟨by decide +kernel, by decide +kernel⟩, List.mem_of_getElem? (i := 889) (by decide +kernel), List.mem_of_getElem? (i := 1024) (by decide +kernel), List.mem_of_getElem? (i := 1025) (by decide +kernel)⟩
theorem lw_p17 : lw_okq (⟨"SnowOwedModel", "of", "(II)I"⟩, 34) := ⟨⟨by decide +kernel, by decide +kernel⟩, List.mem_of_getElem? (i := 889) (by decide +kernel), List.mem_of_getElem? (i := 1028) (by decide +kernel), List.mem_of_getElem? (i := 1029) (by decide +kernel)⟩
theorem lw_p18 : lw_okq (⟨"SnowOwedModel", "givesOf", "(I)I"⟩, 34) := ⟨⟨by decide +kernel, by decide +kernel⟩, List.mem_of_getElem? (i := 889) (by decide +kernel), List.mem_of_getElem? (i := 1032) (by decide +kernel), List.mem_of_getElem? (i := 1033) (by decide +kernel)⟩
theorem lw_p19 : lw_okq (⟨"SnowOwedModel", "counts", "(I)I"⟩, 34) := ⟨⟨by decide +kernel, by decide +kernel⟩, List.mem_of_getElem? (i := 889) (by decide +kernel), List.mem_of_getElem? (i := 1036) (by decide +kernel), List.mem_of_getElem? (i := 1037) (by decide +kernel)⟩
theorem lw_p20 : lw_okq (⟨"SnowOwedModel", "weight", "()I"⟩, 34) := ⟨⟨by decide +kernel, by decide +kernel⟩, List.mem_of_getElem? (i := 889) (by decide +kernel), List.mem_of_getElem? (i := 1040) (by decide +kernel), List.mem_of_getElem? (i := 1041) (by decide +kernel)⟩
theorem lw_p21 : lw_okq (⟨"SnowOwedModel", "worksOut", "(I)I"⟩, 34) := ⟨⟨by decide +kernel, by decide +kernel⟩, List.mem_of_getElem? (i := 889) (by decide +kernel), List.mem_of_getElem? (i := 1044) (by decide +kernel), List.mem_of_getElem? (i := 1045) (by decide +kernel)⟩
theorem lw_p22 : lw_okq (⟨"SnowOwedModel", "goesOnBy", "(I)I"⟩, 34) := ⟨⟨by decide +kernel, by decide +kernel⟩, List.mem_of_getElem? (i := 889) (by decide +kernel), List.mem_of_getElem? (i := 1054) (by decide +kernel), List.mem_of_getElem? (i := 1055) (by decide +kernel)⟩
theorem lw_p23 : lw_okq (⟨"SnowOwedModel", "worthOf", "(I)I"⟩, 34) := ⟨⟨by decide +kernel, by decide +kernel⟩, List.mem_of_getElem? (i := 889) (by decide +kernel), List.mem_of_getElem? (i := 1058) (by decide +kernel), List.mem_of_getElem? (i := 1059) (by decide +kernel)⟩
theorem lw_p24 : lw_okq (⟨"SnowOwedModel", "ledTo", "(I)I"⟩, 34) := ⟨⟨by decide +kernel, by decide +kernel⟩, List.mem_of_getElem? (i := 889) (by decide +kernel), List.mem_of_getElem? (i := 1062) (by decide +kernel), List.mem_of_getElem? (i := 1063) (by decide +kernel)⟩
theorem lw_p25 : lw_okq (⟨"SnowOwedModel", "becomes", "(II)I"⟩, 34) := ⟨⟨by decide +kernel, by decide +kernel⟩, List.mem_of_getElem? (i := 889) (by decide +kernel), List.mem_of_getElem? (i := 1078) (by decide +kernel), List.mem_of_getElem? (i := 1079) (by decide +kernel)⟩
theorem lw_p26 : lw_okq (⟨"SnowOwedModel", "draw", "()I"⟩, 34) := ⟨⟨by decide +kernel, by decide +kernel⟩, List.mem_of_getElem? (i := 889) (by decide +kernel), List.mem_of_getElem? (i := 1090) (by decide +kernel), List.mem_of_getElem? (i := 1091) (by decide +kernel)⟩
theorem lw_p27 : lw_okq (⟨"SnowOwedModel", "wide", "()I"⟩, 34) := ⟨⟨by decide +kernel, by decide +kernel⟩, List.mem_of_getElem? (i := 889) (by decide +kernel), List.mem_of_getElem? (i := 1111) (by decide +kernel), List.mem_of_getElem? (i := 1112) (by decide +kernel)⟩
theorem lw_p28 : lw_okq (⟨"SnowOwedModel", "packs", "(II)V"⟩, 34) := ⟨⟨by decide +kernel, by decide +kernel⟩, List.mem_of_getElem? (i := 889) (by decide +kernel), List.mem_of_getElem? (i := 1123) (by decide +kernel), List.mem_of_getElem? (i := 1124) (by decide +kernel)⟩
theorem lw_p29 : lw_okq (⟨"SnowOwedModel", "goesOn", "(I)I"⟩, 34) := ⟨⟨by decide +kernel, by decide +kernel⟩, List.mem_of_getElem? (i := 889) (by decide +kernel), List.mem_of_getElem? (i := 1148) (by decide +kernel), List.mem_of_getElem? (i := 1149) (by decide +kernel)⟩
theorem lw_p30 : lw_okq (⟨"SnowOwedModel", "day", "(I)I"⟩, 34) := ⟨⟨by decide +kernel, by decide +kernel⟩, List.mem_of_getElem? (i := 889) (by decide +kernel), List.mem_of_getElem? (i := 1152) (by decide +kernel), List.mem_of_getElem? (i := 1153) (by decide +kernel)⟩
theorem lw_p31 : lw_okq (⟨"SnowOwedModel", "thaws", "(I)V"⟩, 34) := ⟨⟨by decide +kernel, by decide +kernel⟩, List.mem_of_getElem? (i := 889) (by decide +kernel), List.mem_of_getElem? (i := 1156) (by decide +kernel), List.mem_of_getElem? (i := 1157) (by decide +kernel)⟩
def lw_privs_2 : List (MethodName × Nat) := [(⟨"SnowOwedModel", "isYard", "(I)Z"⟩, 34), (⟨"SnowOwedModel", "of", "(II)I"⟩, 34), (⟨"SnowOwedModel", "givesOf", "(I)I"⟩, 34), (⟨"SnowOwedModel", "counts", "(I)I"⟩, 34), (⟨"SnowOwedModel", "weight", "()I"⟩, 34), (⟨"SnowOwedModel", "worksOut", "(I)I"⟩, 34), (⟨"SnowOwedModel", "goesOnBy", "(I)I"⟩, 34), (⟨"SnowOwedModel", "worthOf", "(I)I"⟩, 34), (⟨"SnowOwedModel", "ledTo", "(I)I"⟩, 34), (⟨"SnowOwedModel", "becomes", "(II)I"⟩, 34), (⟨"SnowOwedModel", "draw", "()I"⟩, 34), (⟨"SnowOwedModel", "wide", "()I"⟩, 34), (⟨"SnowOwedModel", "packs", "(II)V"⟩, 34), (⟨"SnowOwedModel", "goesOn", "(I)I"⟩, 34), (⟨"SnowOwedModel", "day", "(I)I"⟩, 34), (⟨"SnowOwedModel", "thaws", "(I)V"⟩, 34)]
theorem lw_r2 : ∀ q ∈ lw_privs_2, lw_okq q := List.forall_mem_cons.mpr ⟨lw_p16, List.forall_mem_cons.mpr ⟨lw_p17, List.forall_mem_cons.mpr ⟨lw_p18, List.forall_mem_cons.mpr ⟨lw_p19, List.forall_mem_cons.mpr ⟨lw_p20, List.forall_mem_cons.mpr ⟨lw_p21, List.forall_mem_cons.mpr ⟨lw_p22, List.forall_mem_cons.mpr ⟨lw_p23, List.forall_mem_cons.mpr ⟨lw_p24, List.forall_mem_cons.mpr ⟨lw_p25, List.forall_mem_cons.mpr ⟨lw_p26, List.forall_mem_cons.mpr ⟨lw_p27, List.forall_mem_cons.mpr ⟨lw_p28, List.forall_mem_cons.mpr ⟨lw_p29, List.forall_mem_cons.mpr ⟨lw_p30, List.forall_mem_cons.mpr ⟨lw_p31, fun _ h => absurd h List.not_mem_nil⟩⟩⟩⟩⟩⟩⟩⟩⟩⟩⟩⟩⟩⟩⟩⟩
theorem lw_p32 : lw_okq (⟨"SnowOwedModel", "passes", "(I)I"⟩, 34) := ⟨⟨by decide +kernel, by decide +kernel⟩, List.mem_of_getElem? (i := 889) (by decide +kernel), List.mem_of_getElem? (i := 1160) (by decide +kernel), List.mem_of_getElem? (i := 1161) (by decide +kernel)⟩
theorem lw_p33 : lw_okq (⟨"SnowOwedModel", "thinks", "()V"⟩, 34) := ⟨⟨by decide +kernel, by decide +kernel⟩, List.mem_of_getElem? (i := 889) (by decide +kernel), List.mem_of_getElem? (i := 1168) (by decide +kernel), List.mem_of_getElem? (i := 1169) (by decide +kernel)⟩
theorem lw_p34 : lw_okq (⟨"SnowOwedModel", "sumOf", "(I)I"⟩, 34) := ⟨⟨by decide +kernel, by decide +kernel⟩, List.mem_of_getElem? (i := 889) (by decide +kernel), List.mem_of_getElem? (i := 1172) (by decide +kernel), List.mem_of_getElem? (i := 1173) (by decide +kernel)⟩
theorem lw_p35 : lw_okq (⟨"SnowOwedModel", "putsBack", "()V"⟩, 34) := ⟨⟨by decide +kernel, by decide +kernel⟩, List.mem_of_getElem? (i := 889) (by decide +kernel), List.mem_of_getElem? (i := 1176) (by decide +kernel), List.mem_of_getElem? (i := 1177) (by decide +kernel)⟩
theorem lw_p36 : lw_okq (⟨"SnowOwedModel", "findWay", "(I)V"⟩, 34) := ⟨⟨by decide +kernel, by decide +kernel⟩, List.mem_of_getElem? (i := 889) (by decide +kernel), List.mem_of_getElem? (i := 1188) (by decide +kernel), List.mem_of_getElem? (i := 1189) (by decide +kernel)⟩
theorem lw_p37 : lw_okq (⟨"SnowOwedModel", "offBy", "(II)J"⟩, 34) := ⟨⟨by decide +kernel, by decide +kernel⟩, List.mem_of_getElem? (i := 889) (by decide +kernel), List.mem_of_getElem? (i := 1204) (by decide +kernel), List.mem_of_getElem? (i := 1205) (by decide +kernel)⟩
theorem lw_p38 : lw_okq (⟨"SnowOwedModel", "go", "()V"⟩, 34) := ⟨⟨by decide +kernel, by decide +kernel⟩, List.mem_of_getElem? (i := 889) (by decide +kernel), List.mem_of_getElem? (i := 1224) (by decide +kernel), List.mem_of_getElem? (i := 1225) (by decide +kernel)⟩
theorem lw_p39 : lw_okq (⟨"SnowOwedModel", "isLetter", "(I)Z"⟩, 34) := ⟨⟨by decide +kernel, by decide +kernel⟩, List.mem_of_getElem? (i := 889) (by decide +kernel), List.mem_of_getElem? (i := 1228) (by decide +kernel), List.mem_of_getElem? (i := 1229) (by decide +kernel)⟩
theorem lw_p40 : lw_okq (⟨"SnowOwedModel", "isFigure", "(I)Z"⟩, 34) := ⟨⟨by decide +kernel, by decide +kernel⟩, List.mem_of_getElem? (i := 889) (by decide +kernel), List.mem_of_getElem? (i := 1232) (by decide +kernel), List.mem_of_getElem? (i := 1233) (by decide +kernel)⟩
theorem lw_p41 : lw_okq (⟨"SnowOwedModel", "takesKey", "()Z"⟩, 34) := ⟨⟨by decide +kernel, by decide +kernel⟩, List.mem_of_getElem? (i := 889) (by decide +kernel), List.mem_of_getElem? (i := 1236) (by decide +kernel), List.mem_of_getElem? (i := 1237) (by decide +kernel)⟩
theorem lw_p42 : lw_okq (⟨"SnowOwedModel", "takesE", "()Z"⟩, 34) := ⟨⟨by decide +kernel, by decide +kernel⟩, List.mem_of_getElem? (i := 889) (by decide +kernel), List.mem_of_getElem? (i := 1240) (by decide +kernel), List.mem_of_getElem? (i := 1241) (by decide +kernel)⟩
theorem lw_p43 : lw_okq (⟨"SnowOwedModel", "takesPart", "()Z"⟩, 34) := ⟨⟨by decide +kernel, by decide +kernel⟩, List.mem_of_getElem? (i := 889) (by decide +kernel), List.mem_of_getElem? (i := 1244) (by decide +kernel), List.mem_of_getElem? (i := 1245) (by decide +kernel)⟩
theorem lw_p44 : lw_okq (⟨"SnowOwedModel", "nameOf", "(I)I"⟩, 34) := ⟨⟨by decide +kernel, by decide +kernel⟩, List.mem_of_getElem? (i := 889) (by decide +kernel), List.mem_of_getElem? (i := 1248) (by decide +kernel), List.mem_of_getElem? (i := 1249) (by decide +kernel)⟩
theorem lw_p45 : lw_okq (⟨"SnowOwedModel", "settle", "(I)V"⟩, 34) := ⟨⟨by decide +kernel, by decide +kernel⟩, List.mem_of_getElem? (i := 889) (by decide +kernel), List.mem_of_getElem? (i := 1252) (by decide +kernel), List.mem_of_getElem? (i := 1253) (by decide +kernel)⟩
theorem lw_p46 : lw_okq (⟨"SnowOwedModel", "notsOpen", "()I"⟩, 34) := ⟨⟨by decide +kernel, by decide +kernel⟩, List.mem_of_getElem? (i := 889) (by decide +kernel), List.mem_of_getElem? (i := 1259) (by decide +kernel), List.mem_of_getElem? (i := 1260) (by decide +kernel)⟩
theorem lw_p47 : lw_okq (⟨"SnowOwedModel", "signHere", "()I"⟩, 34) := ⟨⟨by decide +kernel, by decide +kernel⟩, List.mem_of_getElem? (i := 889) (by decide +kernel), List.mem_of_getElem? (i := 1263) (by decide +kernel), List.mem_of_getElem? (i := 1264) (by decide +kernel)⟩
def lw_privs_3 : List (MethodName × Nat) := [(⟨"SnowOwedModel", "passes", "(I)I"⟩, 34), (⟨"SnowOwedModel", "thinks", "()V"⟩, 34), (⟨"SnowOwedModel", "sumOf", "(I)I"⟩, 34), (⟨"SnowOwedModel", "putsBack", "()V"⟩, 34), (⟨"SnowOwedModel", "findWay", "(I)V"⟩, 34), (⟨"SnowOwedModel", "offBy", "(II)J"⟩, 34), (⟨"SnowOwedModel", "go", "()V"⟩, 34), (⟨"SnowOwedModel", "isLetter", "(I)Z"⟩, 34), (⟨"SnowOwedModel", "isFigure", "(I)Z"⟩, 34), (⟨"SnowOwedModel", "takesKey", "()Z"⟩, 34), (⟨"SnowOwedModel", "takesE", "()Z"⟩, 34), (⟨"SnowOwedModel", "takesPart", "()Z"⟩, 34), (⟨"SnowOwedModel", "nameOf", "(I)I"⟩, 34), (⟨"SnowOwedModel", "settle", "(I)V"⟩, 34), (⟨"SnowOwedModel", "notsOpen", "()I"⟩, 34), (⟨"SnowOwedModel", "signHere", "()I"⟩, 34)]
theorem lw_r3 : ∀ q ∈ lw_privs_3, lw_okq q := List.forall_mem_cons.mpr ⟨lw_p32, List.forall_mem_cons.mpr ⟨lw_p33, List.forall_mem_cons.mpr ⟨lw_p34, List.forall_mem_cons.mpr ⟨lw_p35, List.forall_mem_cons.mpr ⟨lw_p36, List.forall_mem_cons.mpr ⟨lw_p37, List.forall_mem_cons.mpr ⟨lw_p38, List.forall_mem_cons.mpr ⟨lw_p39, List.forall_mem_cons.mpr ⟨lw_p40, List.forall_mem_cons.mpr ⟨lw_p41, List.forall_mem_cons.mpr ⟨lw_p42, List.forall_mem_cons.mpr ⟨lw_p43, List.forall_mem_cons.mpr ⟨lw_p44, List.forall_mem_cons.mpr ⟨lw_p45, List.forall_mem_cons.mpr ⟨lw_p46, List.forall_mem_cons.mpr ⟨lw_p47, fun _ h => absurd h List.not_mem_nil⟩⟩⟩⟩⟩⟩⟩⟩⟩⟩⟩⟩⟩⟩⟩⟩
def lw_privs : List (MethodName × Nat) := lw_privs_1 ++ (lw_privs_2 ++ (lw_privs_3))
def lw_tbl : List Cond := k2_sels lw_privs ++ tables_1
theorem lw_privs_ok : ∀ q ∈ lw_privs, lw_okq q := by
  show ∀ q ∈ lw_privs_1 ++ (lw_privs_2 ++ (lw_privs_3)), lw_okq q
  exact List.forall_mem_append.mpr ⟨lw_r1, List.forall_mem_append.mpr ⟨lw_r2, lw_r3⟩⟩

-- ===== names, by program =====
def RX0 : String := "SnowOwed$Ball"
def TX0 : u_T := fun k => match k with
  | 0 => ("SnowOwed$Ball", "owners", "[I", true)
  | 1 => ("SnowOwed$Ball", "kilos", "[I", true)
  | 2 => ("SnowOwed$Ball", "things", "[I", true)
  | 3 => ("SnowOwed$Ball", "layers", "I", false)
  | 4 => ("SnowOwed$Ball", "weight", "I", false)
  | 5 => ("SnowOwed$Ball", "place", "I", false)
  | _ => ("SnowOwed$Ball", "melted", "I", false)
def tyX0 : Nat → FieldType := fun k => match k with
  | 0 => .array .int
  | 1 => .array .int
  | 2 => .array .int
  | 3 => .int
  | 4 => .int
  | 5 => .int
  | _ => .int
theorem nmX0 : ∀ a, a < 7 → ∀ b, b < 7 → a ≠ b → (TX0 a).2.1 ≠ (TX0 b).2.1 := by decide +kernel
theorem tyX0_ok : ∀ k, k < 7 → parseFieldDescriptor (TX0 k).2.2.1 = some (tyX0 k) := by decide +kernel
abbrev cX0_init : ByteArray := prog_2_method_1_code
def yX0_init : MethodName := ⟨RX0, "<init>", "()V"⟩
abbrev cX0_grow : ByteArray := prog_2_method_2_code
def yX0_grow : MethodName := ⟨RX0, "grow", "(II)V"⟩
abbrev cX0_melt : ByteArray := prog_2_method_3_code
def yX0_melt : MethodName := ⟨RX0, "melt", "(I)V"⟩
abbrev cX0_bareThings : ByteArray := prog_2_method_4_code
def yX0_bareThings : MethodName := ⟨RX0, "bareThings", "(I)V"⟩
abbrev cX0_led : ByteArray := prog_2_method_5_code
def yX0_led : MethodName := ⟨RX0, "led", "(I)I"⟩
abbrev cX0_become : ByteArray := prog_2_method_6_code
def yX0_become : MethodName := ⟨RX0, "become", "(LSnowOwed$Ball;)V"⟩
def RX1 : String := "SnowOwed$Kinds"
def TX1 : u_T := fun k => match k with
  | _ => ("", "", "", false)
def tyX1 : Nat → FieldType := fun k => match k with
  | _ => .int
theorem nmX1 : ∀ a, a < 0 → ∀ b, b < 0 → a ≠ b → (TX1 a).2.1 ≠ (TX1 b).2.1 := by decide +kernel
theorem tyX1_ok : ∀ k, k < 0 → parseFieldDescriptor (TX1 k).2.2.1 = some (tyX1 k) := by decide +kernel
abbrev cX1_has : ByteArray := prog_3_method_2_code
def yX1_has : MethodName := ⟨RX1, "has", "(I)Z"⟩
abbrev cX1_isOf : ByteArray := prog_3_method_3_code
def yX1_isOf : MethodName := ⟨RX1, "isOf", "(II)Z"⟩
abbrev cX1_gift : ByteArray := prog_3_method_4_code
def yX1_gift : MethodName := ⟨RX1, "gift", "(III)I"⟩
abbrev cX1_goesOn : ByteArray := prog_3_method_5_code
def yX1_goesOn : MethodName := ⟨RX1, "goesOn", "(II)I"⟩
abbrev cX1_worth : ByteArray := prog_3_method_6_code
def yX1_worth : MethodName := ⟨RX1, "worth", "(III)I"⟩
def RX2 : String := "SnowOwed$Law"
def TX2 : u_T := fun k => match k with
  | 0 => ("SnowOwed$Law", "number", "I", true)
  | 1 => ("SnowOwed$Law", "key", "I", true)
  | 2 => ("SnowOwed$Law", "atoms", "I", true)
  | 3 => ("SnowOwed$Law", "codes", "[I", true)
  | _ => ("SnowOwed$Law", "stack", "[I", true)
def tyX2 : Nat → FieldType := fun k => match k with
  | 0 => .int
  | 1 => .int
  | 2 => .int
  | 3 => .array .int
  | _ => .array .int
theorem nmX2 : ∀ a, a < 5 → ∀ b, b < 5 → a ≠ b → (TX2 a).2.1 ≠ (TX2 b).2.1 := by decide +kernel
theorem tyX2_ok : ∀ k, k < 5 → parseFieldDescriptor (TX2 k).2.2.1 = some (tyX2 k) := by decide +kernel
abbrev cX2_init : ByteArray := prog_4_method_1_code
def yX2_init : MethodName := ⟨RX2, "<init>", "(III[I)V"⟩
abbrev cX2_value : ByteArray := prog_4_method_2_code
def yX2_value : MethodName := ⟨RX2, "value", "(III)I"⟩
abbrev cX2_named : ByteArray := prog_4_method_3_code
def yX2_named : MethodName := ⟨RX2, "named", "(IIII)I"⟩
abbrev cX2_joined : ByteArray := prog_4_method_4_code
def yX2_joined : MethodName := ⟨RX2, "joined", "(III)I"⟩
def RX3 : String := "SnowOwed$Paths"
def TX3 : u_T := fun k => match k with
  | 0 => ("SnowOwed$Paths", "thoughts", "[LSnowOwed$Village;", true)
  | 1 => ("SnowOwed$Paths", "found", "Z", false)
  | 2 => ("SnowOwed$Paths", "bestBroken", "I", false)
  | 3 => ("SnowOwed$Paths", "bestWeight", "I", false)
  | _ => ("SnowOwed$Paths", "bestMoves", "I", false)
def tyX3 : Nat → FieldType := fun k => match k with
  | 0 => .array (.object "SnowOwed$Village")
  | 1 => .boolean
  | 2 => .int
  | 3 => .int
  | _ => .int
theorem nmX3 : ∀ a, a < 5 → ∀ b, b < 5 → a ≠ b → (TX3 a).2.1 ≠ (TX3 b).2.1 := by decide +kernel
theorem tyX3_ok : ∀ k, k < 5 → parseFieldDescriptor (TX3 k).2.2.1 = some (tyX3 k) := by decide +kernel
abbrev cX3_init : ByteArray := prog_5_method_1_code
def yX3_init : MethodName := ⟨RX3, "<init>", "()V"⟩
abbrev cX3_thoughtOf : ByteArray := prog_5_method_2_code
def yX3_thoughtOf : MethodName := ⟨RX3, "thoughtOf", "(LSnowOwed$Village;)LSnowOwed$Village;"⟩
abbrev cX3_search : ByteArray := prog_5_method_3_code
def yX3_search : MethodName := ⟨RX3, "search", "(LSnowOwed$Village;I)V"⟩
abbrev cX3_branch : ByteArray := prog_5_method_4_code
def yX3_branch : MethodName := ⟨RX3, "branch", "(LSnowOwed$Paths;LSnowOwed$Village;III)V"⟩
abbrev cX3_weigh : ByteArray := prog_5_method_5_code
def yX3_weigh : MethodName := ⟨RX3, "weigh", "(LSnowOwed$Village;I)V"⟩
def RX4 : String := "SnowOwed$Reader"
def TX4 : u_T := fun k => match k with
  | 0 => ("SnowOwed$Reader", "codes", "[I", true)
  | 1 => ("SnowOwed$Reader", "codeCount", "I", false)
  | 2 => ("SnowOwed$Reader", "atoms", "I", false)
  | 3 => ("SnowOwed$Reader", "key", "I", false)
  | 4 => ("SnowOwed$Reader", "bytes", "[I", false)
  | 5 => ("SnowOwed$Reader", "length", "I", false)
  | 6 => ("SnowOwed$Reader", "sort", "I", false)
  | 7 => ("SnowOwed$Reader", "start", "I", false)
  | _ => ("SnowOwed$Reader", "behindIt", "I", false)
def tyX4 : Nat → FieldType := fun k => match k with
  | 0 => .array .int
  | 1 => .int
  | 2 => .int
  | 3 => .int
  | 4 => .array .int
  | 5 => .int
  | 6 => .int
  | 7 => .int
  | _ => .int
theorem nmX4 : ∀ a, a < 9 → ∀ b, b < 9 → a ≠ b → (TX4 a).2.1 ≠ (TX4 b).2.1 := by decide +kernel
theorem tyX4_ok : ∀ k, k < 9 → parseFieldDescriptor (TX4 k).2.2.1 = some (tyX4 k) := by decide +kernel
abbrev cX4_init : ByteArray := prog_6_method_1_code
def yX4_init : MethodName := ⟨RX4, "<init>", "()V"⟩
abbrev cX4_faultOf : ByteArray := prog_6_method_2_code
def yX4_faultOf : MethodName := ⟨RX4, "faultOf", "(LSnowOwed$Tape;)I"⟩
abbrev cX4_lawNumbered : ByteArray := prog_6_method_3_code
def yX4_lawNumbered : MethodName := ⟨RX4, "lawNumbered", "(I)LSnowOwed$Law;"⟩
abbrev cX4_next : ByteArray := prog_6_method_4_code
def yX4_next : MethodName := ⟨RX4, "next", "()V"⟩
abbrev cX4_sortOf : ByteArray := prog_6_method_5_code
def yX4_sortOf : MethodName := ⟨RX4, "sortOf", "(I)I"⟩
abbrev cX4_byteAtHand : ByteArray := prog_6_method_6_code
def yX4_byteAtHand : MethodName := ⟨RX4, "byteAtHand", "()I"⟩
abbrev cX4_isSign : ByteArray := prog_6_method_7_code
def yX4_isSign : MethodName := ⟨RX4, "isSign", "(I)Z"⟩
abbrev cX4_keyAtHand : ByteArray := prog_6_method_8_code
def yX4_keyAtHand : MethodName := ⟨RX4, "keyAtHand", "()I"⟩
abbrev cX4_names : ByteArray := prog_6_method_9_code
def yX4_names : MethodName := ⟨RX4, "names", "(I)Ljava/lang/String;"⟩
abbrev cX4_levelAtHand : ByteArray := prog_6_method_10_code
def yX4_levelAtHand : MethodName := ⟨RX4, "levelAtHand", "()I"⟩
abbrev cX4_put : ByteArray := prog_6_method_11_code
def yX4_put : MethodName := ⟨RX4, "put", "(I)V"⟩
abbrev cX4_level : ByteArray := prog_6_method_12_code
def yX4_level : MethodName := ⟨RX4, "level", "(III)Z"⟩
abbrev cX4_piece : ByteArray := prog_6_method_13_code
def yX4_piece : MethodName := ⟨RX4, "piece", "(II)Z"⟩
abbrev cX4_atomAtHand : ByteArray := prog_6_method_14_code
def yX4_atomAtHand : MethodName := ⟨RX4, "atomAtHand", "()I"⟩
def RX5 : String := "SnowOwed$Ring"
def TX5 : u_T := fun k => match k with
  | 0 => ("SnowOwed$Ring", "kinds", "[I", true)
  | 1 => ("SnowOwed$Ring", "snow", "[I", true)
  | 2 => ("SnowOwed$Ring", "gates", "[I", true)
  | 3 => ("SnowOwed$Ring", "broken", "[I", true)
  | _ => ("SnowOwed$Ring", "count", "I", false)
def tyX5 : Nat → FieldType := fun k => match k with
  | 0 => .array .int
  | 1 => .array .int
  | 2 => .array .int
  | 3 => .array .int
  | _ => .int
theorem nmX5 : ∀ a, a < 5 → ∀ b, b < 5 → a ≠ b → (TX5 a).2.1 ≠ (TX5 b).2.1 := by decide +kernel
theorem tyX5_ok : ∀ k, k < 5 → parseFieldDescriptor (TX5 k).2.2.1 = some (tyX5 k) := by decide +kernel
abbrev cX5_init : ByteArray := prog_7_method_1_code
def yX5_init : MethodName := ⟨RX5, "<init>", "()V"⟩
abbrev cX5_has : ByteArray := prog_7_method_2_code
def yX5_has : MethodName := ⟨RX5, "has", "(I)Z"⟩
abbrev cX5_add : ByteArray := prog_7_method_3_code
def yX5_add : MethodName := ⟨RX5, "add", "(III)I"⟩
abbrev cX5_squeezeThrough : ByteArray := prog_7_method_4_code
def yX5_squeezeThrough : MethodName := ⟨RX5, "squeezeThrough", "(II)I"⟩
abbrev cX5_snowOn : ByteArray := prog_7_method_5_code
def yX5_snowOn : MethodName := ⟨RX5, "snowOn", "(I)V"⟩
abbrev cX5_brokenOfAll : ByteArray := prog_7_method_6_code
def yX5_brokenOfAll : MethodName := ⟨RX5, "brokenOfAll", "()I"⟩
abbrev cX5_snowOfAll : ByteArray := prog_7_method_7_code
def yX5_snowOfAll : MethodName := ⟨RX5, "snowOfAll", "()I"⟩
abbrev cX5_become : ByteArray := prog_7_method_8_code
def yX5_become : MethodName := ⟨RX5, "become", "(LSnowOwed$Ring;)V"⟩
def RX6 : String := "SnowOwed$Sheet"
def TX6 : u_T := fun k => match k with
  | 0 => ("SnowOwed$Sheet", "numbers", "[I", true)
  | 1 => ("SnowOwed$Sheet", "sort", "I", false)
  | _ => ("SnowOwed$Sheet", "places", "I", false)
def tyX6 : Nat → FieldType := fun k => match k with
  | 0 => .array .int
  | 1 => .int
  | _ => .int
theorem nmX6 : ∀ a, a < 3 → ∀ b, b < 3 → a ≠ b → (TX6 a).2.1 ≠ (TX6 b).2.1 := by decide +kernel
theorem tyX6_ok : ∀ k, k < 3 → parseFieldDescriptor (TX6 k).2.2.1 = some (tyX6 k) := by decide +kernel
abbrev cX6_init : ByteArray := prog_8_method_1_code
def yX6_init : MethodName := ⟨RX6, "<init>", "()V"⟩
abbrev cX6_become : ByteArray := prog_8_method_2_code
def yX6_become : MethodName := ⟨RX6, "become", "(II)V"⟩
abbrev cX6_take : ByteArray := prog_8_method_3_code
def yX6_take : MethodName := ⟨RX6, "take", "(LSnowOwed$Sheet;)V"⟩
abbrev cX6_has : ByteArray := prog_8_method_4_code
def yX6_has : MethodName := ⟨RX6, "has", "(I)Z"⟩
abbrev cX6_hasMany : ByteArray := prog_8_method_5_code
def yX6_hasMany : MethodName := ⟨RX6, "hasMany", "(II)Z"⟩
def RX7 : String := "SnowOwed$Slot"
def TX7 : u_T := fun k => match k with
  | 0 => ("SnowOwed$Slot", "row", "LSnowOwed$Sheet;", true)
  | 1 => ("SnowOwed$Slot", "holds", "I", false)
  | 2 => ("SnowOwed$Slot", "kind", "I", false)
  | 3 => ("SnowOwed$Slot", "snow", "I", false)
  | 4 => ("SnowOwed$Slot", "gate", "I", false)
  | _ => ("SnowOwed$Slot", "number", "I", false)
def tyX7 : Nat → FieldType := fun k => match k with
  | 0 => .object "SnowOwed$Sheet"
  | 1 => .int
  | 2 => .int
  | 3 => .int
  | 4 => .int
  | _ => .int
theorem nmX7 : ∀ a, a < 6 → ∀ b, b < 6 → a ≠ b → (TX7 a).2.1 ≠ (TX7 b).2.1 := by decide +kernel
theorem tyX7_ok : ∀ k, k < 6 → parseFieldDescriptor (TX7 k).2.2.1 = some (tyX7 k) := by decide +kernel
abbrev cX7_init : ByteArray := prog_9_method_1_code
def yX7_init : MethodName := ⟨RX7, "<init>", "()V"⟩
abbrev cX7_takeYard : ByteArray := prog_9_method_2_code
def yX7_takeYard : MethodName := ⟨RX7, "takeYard", "(LSnowOwed$Ring;I)V"⟩
def RX8 : String := "SnowOwed$Tape"
def TX8 : u_T := fun k => match k with
  | 0 => ("SnowOwed$Tape", "bytes", "[I", true)
  | _ => ("SnowOwed$Tape", "length", "I", false)
def tyX8 : Nat → FieldType := fun k => match k with
  | 0 => .array .int
  | _ => .int
theorem nmX8 : ∀ a, a < 2 → ∀ b, b < 2 → a ≠ b → (TX8 a).2.1 ≠ (TX8 b).2.1 := by decide +kernel
theorem tyX8_ok : ∀ k, k < 2 → parseFieldDescriptor (TX8 k).2.2.1 = some (tyX8 k) := by decide +kernel
abbrev cX8_init : ByteArray := prog_10_method_1_code
def yX8_init : MethodName := ⟨RX8, "<init>", "()V"⟩
abbrev cX8_put : ByteArray := prog_10_method_2_code
def yX8_put : MethodName := ⟨RX8, "put", "(I)V"⟩
def RX9 : String := "SnowOwed$Village"
def TX9 : u_T := fun k => match k with
  | 0 => ("SnowOwed$Village", "ring", "LSnowOwed$Ring;", true)
  | 1 => ("SnowOwed$Village", "ball", "LSnowOwed$Ball;", true)
  | 2 => ("SnowOwed$Village", "counting", "[LSnowOwed$Law;", true)
  | 3 => ("SnowOwed$Village", "texts", "I", false)
  | 4 => ("SnowOwed$Village", "day", "I", false)
  | 5 => ("SnowOwed$Village", "warm", "I", false)
  | 6 => ("SnowOwed$Village", "fall", "I", false)
  | 7 => ("SnowOwed$Village", "move", "I", false)
  | _ => ("SnowOwed$Village", "z", "I", false)
def tyX9 : Nat → FieldType := fun k => match k with
  | 0 => .object "SnowOwed$Ring"
  | 1 => .object "SnowOwed$Ball"
  | 2 => .array (.object "SnowOwed$Law")
  | 3 => .int
  | 4 => .int
  | 5 => .int
  | 6 => .int
  | 7 => .int
  | _ => .int
theorem nmX9 : ∀ a, a < 9 → ∀ b, b < 9 → a ≠ b → (TX9 a).2.1 ≠ (TX9 b).2.1 := by decide +kernel
theorem tyX9_ok : ∀ k, k < 9 → parseFieldDescriptor (TX9 k).2.2.1 = some (tyX9 k) := by decide +kernel
abbrev cX9_init : ByteArray := prog_11_method_1_code
def yX9_init : MethodName := ⟨RX9, "<init>", "()V"⟩
abbrev cX9_become : ByteArray := prog_11_method_2_code
def yX9_become : MethodName := ⟨RX9, "become", "(LSnowOwed$Village;)V"⟩
abbrev cX9_adopt : ByteArray := prog_11_method_3_code
def yX9_adopt : MethodName := ⟨RX9, "adopt", "(LSnowOwed$Law;)V"⟩
abbrev cX9_drawnRest : ByteArray := prog_11_method_4_code
def yX9_drawnRest : MethodName := ⟨RX9, "drawnRest", "(I)I"⟩
abbrev cX9_ballSize : ByteArray := prog_11_method_5_code
def yX9_ballSize : MethodName := ⟨RX9, "ballSize", "()I"⟩
abbrev cX9_gives : ByteArray := prog_11_method_6_code
def yX9_gives : MethodName := ⟨RX9, "gives", "(I)I"⟩
abbrev cX9_fineOf : ByteArray := prog_11_method_7_code
def yX9_fineOf : MethodName := ⟨RX9, "fineOf", "(I)I"⟩
abbrev cX9_passDays : ByteArray := prog_11_method_8_code
def yX9_passDays : MethodName := ⟨RX9, "passDays", "(I)I"⟩
abbrev cX9_passDay : ByteArray := prog_11_method_9_code
def yX9_passDay : MethodName := ⟨RX9, "passDay", "()I"⟩
abbrev cX9_roll : ByteArray := prog_11_method_10_code
def yX9_roll : MethodName := ⟨RX9, "roll", "(II)I"⟩
def RX10 : String := "SnowOwed"
def TX10 : u_T := fun k => match k with
  | 0 => ("SnowOwed", "now", "LSnowOwed$Village;", true)
  | 1 => ("SnowOwed", "image", "LSnowOwed$Village;", true)
  | 2 => ("SnowOwed", "imageKept", "Z", false)
  | 3 => ("SnowOwed", "paths", "LSnowOwed$Paths;", true)
  | 4 => ("SnowOwed", "tape", "LSnowOwed$Tape;", true)
  | 5 => ("SnowOwed", "reader", "LSnowOwed$Reader;", true)
  | 6 => ("SnowOwed", "laws", "[LSnowOwed$Law;", true)
  | 7 => ("SnowOwed", "sheets", "[LSnowOwed$Sheet;", true)
  | 8 => ("SnowOwed", "slots", "[LSnowOwed$Slot;", true)
  | 9 => ("SnowOwed", "waiting", "[I", true)
  | _ => ("SnowOwed", "waits", "I", false)
def tyX10 : Nat → FieldType := fun k => match k with
  | 0 => .object "SnowOwed$Village"
  | 1 => .object "SnowOwed$Village"
  | 2 => .boolean
  | 3 => .object "SnowOwed$Paths"
  | 4 => .object "SnowOwed$Tape"
  | 5 => .object "SnowOwed$Reader"
  | 6 => .array (.object "SnowOwed$Law")
  | 7 => .array (.object "SnowOwed$Sheet")
  | 8 => .array (.object "SnowOwed$Slot")
  | 9 => .array .int
  | _ => .int
theorem nmX10 : ∀ a, a < 11 → ∀ b, b < 11 → a ≠ b → (TX10 a).2.1 ≠ (TX10 b).2.1 := by decide +kernel
theorem tyX10_ok : ∀ k, k < 11 → parseFieldDescriptor (TX10 k).2.2.1 = some (tyX10 k) := by decide +kernel
abbrev cX10_init : ByteArray := prog_1_method_1_code
def yX10_init : MethodName := ⟨RX10, "<init>", "()V"⟩
abbrev cX10_yard : ByteArray := prog_1_method_2_code
def yX10_yard : MethodName := ⟨RX10, "yard", "(III)I"⟩
abbrev cX10_told : ByteArray := prog_1_method_3_code
def yX10_told : MethodName := ⟨RX10, "told", "(II)I"⟩
abbrev cX10_as : ByteArray := prog_1_method_4_code
def yX10_as : MethodName := ⟨RX10, "as", "(II)I"⟩
abbrev cX10_turns : ByteArray := prog_1_method_5_code
def yX10_turns : MethodName := ⟨RX10, "turns", "(II)I"⟩
abbrev cX10_set : ByteArray := prog_1_method_6_code
def yX10_set : MethodName := ⟨RX10, "set", "(III)I"⟩
abbrev cX10_deal : ByteArray := prog_1_method_7_code
def yX10_deal : MethodName := ⟨RX10, "deal", "(I)I"⟩
abbrev cX10_seed : ByteArray := prog_1_method_8_code
def yX10_seed : MethodName := ⟨RX10, "seed", "(I)I"⟩
abbrev cX10_rule : ByteArray := prog_1_method_9_code
def yX10_rule : MethodName := ⟨RX10, "rule", "(II)I"⟩
abbrev cX10_at : ByteArray := prog_1_method_10_code
def yX10_at : MethodName := ⟨RX10, "at", "(I)I"⟩
abbrev cX10_ball : ByteArray := prog_1_method_11_code
def yX10_ball : MethodName := ⟨RX10, "ball", "(I)I"⟩
abbrev cX10_layer : ByteArray := prog_1_method_12_code
def yX10_layer : MethodName := ⟨RX10, "layer", "(II)I"⟩
abbrev cX10_pack : ByteArray := prog_1_method_13_code
def yX10_pack : MethodName := ⟨RX10, "pack", "(II)I"⟩
abbrev cX10_lose : ByteArray := prog_1_method_14_code
def yX10_lose : MethodName := ⟨RX10, "lose", "(I)I"⟩
abbrev cX10_find : ByteArray := prog_1_method_15_code
def yX10_find : MethodName := ⟨RX10, "find", "(I)I"⟩
abbrev cX10_thing : ByteArray := prog_1_method_16_code
def yX10_thing : MethodName := ⟨RX10, "thing", "(I)I"⟩
abbrev cX10_days : ByteArray := prog_1_method_17_code
def yX10_days : MethodName := ⟨RX10, "days", "(I)I"⟩
abbrev cX10_behind : ByteArray := prog_1_method_18_code
def yX10_behind : MethodName := ⟨RX10, "behind", "(II)I"⟩
abbrev cX10_gone : ByteArray := prog_1_method_19_code
def yX10_gone : MethodName := ⟨RX10, "gone", "()I"⟩
abbrev cX10_way : ByteArray := prog_1_method_20_code
def yX10_way : MethodName := ⟨RX10, "way", "(II)I"⟩
abbrev cX10_most : ByteArray := prog_1_method_21_code
def yX10_most : MethodName := ⟨RX10, "most", "()I"⟩
abbrev cX10_warmed : ByteArray := prog_1_method_22_code
def yX10_warmed : MethodName := ⟨RX10, "warmed", "(II)I"⟩
abbrev cX10_fine : ByteArray := prog_1_method_23_code
def yX10_fine : MethodName := ⟨RX10, "fine", "(I)I"⟩
abbrev cX10_feed : ByteArray := prog_1_method_24_code
def yX10_feed : MethodName := ⟨RX10, "feed", "(III)I"⟩
abbrev cX10_trim : ByteArray := prog_1_method_25_code
def yX10_trim : MethodName := ⟨RX10, "trim", "(I)I"⟩
abbrev cX10_text : ByteArray := prog_1_method_26_code
def yX10_text : MethodName := ⟨RX10, "text", "()I"⟩
abbrev cX10_textTold : ByteArray := prog_1_method_27_code
def yX10_textTold : MethodName := ⟨RX10, "textTold", "(II)I"⟩
abbrev cX10_why : ByteArray := prog_1_method_28_code
def yX10_why : MethodName := ⟨RX10, "why", "(I)I"⟩
abbrev cX10_sheet : ByteArray := prog_1_method_29_code
def yX10_sheet : MethodName := ⟨RX10, "sheet", "(III)I"⟩
abbrev cX10_mark : ByteArray := prog_1_method_30_code
def yX10_mark : MethodName := ⟨RX10, "mark", "(III)I"⟩
abbrev cX10_pour : ByteArray := prog_1_method_31_code
def yX10_pour : MethodName := ⟨RX10, "pour", "(I)I"⟩
abbrev cX10_reads : ByteArray := prog_1_method_32_code
def yX10_reads : MethodName := ⟨RX10, "reads", "(I)I"⟩
abbrev cX10_copy : ByteArray := prog_1_method_33_code
def yX10_copy : MethodName := ⟨RX10, "copy", "(IIIII)I"⟩
abbrev cX10_lay : ByteArray := prog_1_method_34_code
def yX10_lay : MethodName := ⟨RX10, "lay", "(III)I"⟩
abbrev cX10_ask : ByteArray := prog_1_method_35_code
def yX10_ask : MethodName := ⟨RX10, "ask", "(II)I"⟩
abbrev cX10_item : ByteArray := prog_1_method_36_code
def yX10_item : MethodName := ⟨RX10, "item", "(II)I"⟩
abbrev cX10_rest : ByteArray := prog_1_method_37_code
def yX10_rest : MethodName := ⟨RX10, "rest", "(II)I"⟩
abbrev cX10_tell : ByteArray := prog_1_method_38_code
def yX10_tell : MethodName := ⟨RX10, "tell", "(I)I"⟩
abbrev cX10_check : ByteArray := prog_1_method_39_code
def yX10_check : MethodName := ⟨RX10, "check", "(I)I"⟩
abbrev cX10_keep : ByteArray := prog_1_method_40_code
def yX10_keep : MethodName := ⟨RX10, "keep", "()I"⟩
abbrev cX10_back : ByteArray := prog_1_method_41_code
def yX10_back : MethodName := ⟨RX10, "back", "()I"⟩
abbrev cX10_count : ByteArray := prog_1_method_42_code
def yX10_count : MethodName := ⟨RX10, "count", "(I)I"⟩
abbrev cX10_isSnow : ByteArray := prog_1_method_43_code
def yX10_isSnow : MethodName := ⟨RX10, "isSnow", "(I)Z"⟩
abbrev cX10_isGate : ByteArray := prog_1_method_44_code
def yX10_isGate : MethodName := ⟨RX10, "isGate", "(I)Z"⟩
abbrev cX10_isThing : ByteArray := prog_1_method_45_code
def yX10_isThing : MethodName := ⟨RX10, "isThing", "(I)Z"⟩
abbrev cX10_isSheet : ByteArray := prog_1_method_46_code
def yX10_isSheet : MethodName := ⟨RX10, "isSheet", "(I)Z"⟩
abbrev cX10_isSlot : ByteArray := prog_1_method_47_code
def yX10_isSlot : MethodName := ⟨RX10, "isSlot", "(I)Z"⟩
abbrev cX10_held : ByteArray := prog_1_method_48_code
def yX10_held : MethodName := ⟨RX10, "held", "(II)I"⟩
abbrev cX10_differences : ByteArray := prog_1_method_49_code
def yX10_differences : MethodName := ⟨RX10, "differences", "(LSnowOwed$Sheet;I)I"⟩
abbrev cX10_waitsAt : ByteArray := prog_1_method_50_code
def yX10_waitsAt : MethodName := ⟨RX10, "waitsAt", "(III)Z"⟩
def RX11 : String := "SnowOwedModel"
def TX11 : u_T := fun k => match k with
  | 0 => ("SnowOwedModel", "now", "[I", true)
  | 1 => ("SnowOwedModel", "image", "[I", true)
  | 2 => ("SnowOwedModel", "aside", "[I", true)
  | 3 => ("SnowOwedModel", "hasImage", "Z", false)
  | 4 => ("SnowOwedModel", "before", "[I", true)
  | 5 => ("SnowOwedModel", "best", "[I", true)
  | 6 => ("SnowOwedModel", "tape", "[I", true)
  | 7 => ("SnowOwedModel", "taped", "I", false)
  | 8 => ("SnowOwedModel", "next", "I", false)
  | 9 => ("SnowOwedModel", "from", "I", false)
  | 10 => ("SnowOwedModel", "token", "I", false)
  | 11 => ("SnowOwedModel", "value", "I", false)
  | 12 => ("SnowOwedModel", "ended", "I", false)
  | 13 => ("SnowOwedModel", "key", "I", false)
  | 14 => ("SnowOwedModel", "keys", "[C", true)
  | 15 => ("SnowOwedModel", "keyAt", "[I", true)
  | 16 => ("SnowOwedModel", "code", "[I", true)
  | 17 => ("SnowOwedModel", "codes", "I", false)
  | 18 => ("SnowOwedModel", "atoms", "I", false)
  | 19 => ("SnowOwedModel", "waits", "[I", true)
  | 20 => ("SnowOwedModel", "held", "I", false)
  | 21 => ("SnowOwedModel", "tested", "[Z", true)
  | 22 => ("SnowOwedModel", "stack", "[I", true)
  | 23 => ("SnowOwedModel", "facts", "[I", true)
  | 24 => ("SnowOwedModel", "sorts", "[I", true)
  | 25 => ("SnowOwedModel", "sizes", "[I", true)
  | 26 => ("SnowOwedModel", "cells", "[I", true)
  | 27 => ("SnowOwedModel", "holds", "[I", true)
  | 28 => ("SnowOwedModel", "holdsA", "[I", true)
  | 29 => ("SnowOwedModel", "holdsB", "[I", true)
  | 30 => ("SnowOwedModel", "heldCells", "[I", true)
  | 31 => ("SnowOwedModel", "moved", "[I", true)
  | 32 => ("SnowOwedModel", "tells", "[I", true)
  | _ => ("SnowOwedModel", "waiting", "I", false)
def tyX11 : Nat → FieldType := fun k => match k with
  | 0 => .array .int
  | 1 => .array .int
  | 2 => .array .int
  | 3 => .boolean
  | 4 => .array .int
  | 5 => .array .int
  | 6 => .array .int
  | 7 => .int
  | 8 => .int
  | 9 => .int
  | 10 => .int
  | 11 => .int
  | 12 => .int
  | 13 => .int
  | 14 => .array .char
  | 15 => .array .int
  | 16 => .array .int
  | 17 => .int
  | 18 => .int
  | 19 => .array .int
  | 20 => .int
  | 21 => .array .boolean
  | 22 => .array .int
  | 23 => .array .int
  | 24 => .array .int
  | 25 => .array .int
  | 26 => .array .int
  | 27 => .array .int
  | 28 => .array .int
  | 29 => .array .int
  | 30 => .array .int
  | 31 => .array .int
  | 32 => .array .int
  | _ => .int
theorem nmX11 : ∀ a, a < 34 → ∀ b, b < 34 → a ≠ b → (TX11 a).2.1 ≠ (TX11 b).2.1 := by decide +kernel
theorem tyX11_ok : ∀ k, k < 34 → parseFieldDescriptor (TX11 k).2.2.1 = some (tyX11 k) := by decide +kernel
abbrev cX11_init : ByteArray := prog_13_method_1_code
def yX11_init : MethodName := ⟨RX11, "<init>", "()V"⟩
abbrev cX11_in : ByteArray := prog_13_method_2_code
def yX11_in : MethodName := ⟨RX11, "in", "(III)Z"⟩
abbrev cX11_within : ByteArray := prog_13_method_3_code
def yX11_within : MethodName := ⟨RX11, "within", "(III)I"⟩
abbrev cX11_copyAll : ByteArray := prog_13_method_4_code
def yX11_copyAll : MethodName := ⟨RX11, "copyAll", "([I[I)V"⟩
abbrev cX11_isYard : ByteArray := prog_13_method_5_code
def yX11_isYard : MethodName := ⟨RX11, "isYard", "(I)Z"⟩
abbrev cX11_of : ByteArray := prog_13_method_6_code
def yX11_of : MethodName := ⟨RX11, "of", "(II)I"⟩
abbrev cX11_put : ByteArray := prog_13_method_7_code
def yX11_put : MethodName := ⟨RX11, "put", "(III)V"⟩
abbrev cX11_becomes : ByteArray := prog_13_method_8_code
def yX11_becomes : MethodName := ⟨RX11, "becomes", "(II)I"⟩
abbrev cX11_comes : ByteArray := prog_13_method_9_code
def yX11_comes : MethodName := ⟨RX11, "comes", "(III)I"⟩
abbrev cX11_isOf : ByteArray := prog_13_method_10_code
def yX11_isOf : MethodName := ⟨RX11, "isOf", "(II)Z"⟩
abbrev cX11_yard : ByteArray := prog_13_method_11_code
def yX11_yard : MethodName := ⟨RX11, "yard", "(III)I"⟩
abbrev cX11_weight : ByteArray := prog_13_method_12_code
def yX11_weight : MethodName := ⟨RX11, "weight", "()I"⟩
abbrev cX11_wide : ByteArray := prog_13_method_13_code
def yX11_wide : MethodName := ⟨RX11, "wide", "()I"⟩
abbrev cX11_givesOf : ByteArray := prog_13_method_14_code
def yX11_givesOf : MethodName := ⟨RX11, "givesOf", "(I)I"⟩
abbrev cX11_goesOnBy : ByteArray := prog_13_method_15_code
def yX11_goesOnBy : MethodName := ⟨RX11, "goesOnBy", "(I)I"⟩
abbrev cX11_worthOf : ByteArray := prog_13_method_16_code
def yX11_worthOf : MethodName := ⟨RX11, "worthOf", "(I)I"⟩
abbrev cX11_ledTo : ByteArray := prog_13_method_17_code
def yX11_ledTo : MethodName := ⟨RX11, "ledTo", "(I)I"⟩
abbrev cX11_told : ByteArray := prog_13_method_18_code
def yX11_told : MethodName := ⟨RX11, "told", "(II)I"⟩
abbrev cX11_isUnder : ByteArray := prog_13_method_19_code
def yX11_isUnder : MethodName := ⟨RX11, "isUnder", "(II)Z"⟩
abbrev cX11_as : ByteArray := prog_13_method_20_code
def yX11_as : MethodName := ⟨RX11, "as", "(II)I"⟩
abbrev cX11_turns : ByteArray := prog_13_method_21_code
def yX11_turns : MethodName := ⟨RX11, "turns", "(II)I"⟩
abbrev cX11_set : ByteArray := prog_13_method_22_code
def yX11_set : MethodName := ⟨RX11, "set", "(III)I"⟩
abbrev cX11_draw : ByteArray := prog_13_method_23_code
def yX11_draw : MethodName := ⟨RX11, "draw", "()I"⟩
abbrev cX11_deal : ByteArray := prog_13_method_24_code
def yX11_deal : MethodName := ⟨RX11, "deal", "(I)I"⟩
abbrev cX11_seed : ByteArray := prog_13_method_25_code
def yX11_seed : MethodName := ⟨RX11, "seed", "(I)I"⟩
abbrev cX11_rule : ByteArray := prog_13_method_26_code
def yX11_rule : MethodName := ⟨RX11, "rule", "(II)I"⟩
abbrev cX11_at : ByteArray := prog_13_method_27_code
def yX11_at : MethodName := ⟨RX11, "at", "(I)I"⟩
abbrev cX11_ball : ByteArray := prog_13_method_28_code
def yX11_ball : MethodName := ⟨RX11, "ball", "(I)I"⟩
abbrev cX11_layer : ByteArray := prog_13_method_29_code
def yX11_layer : MethodName := ⟨RX11, "layer", "(II)I"⟩
abbrev cX11_packs : ByteArray := prog_13_method_30_code
def yX11_packs : MethodName := ⟨RX11, "packs", "(II)V"⟩
abbrev cX11_pack : ByteArray := prog_13_method_31_code
def yX11_pack : MethodName := ⟨RX11, "pack", "(II)I"⟩
abbrev cX11_isThing : ByteArray := prog_13_method_32_code
def yX11_isThing : MethodName := ⟨RX11, "isThing", "(I)Z"⟩
abbrev cX11_lose : ByteArray := prog_13_method_33_code
def yX11_lose : MethodName := ⟨RX11, "lose", "(I)I"⟩
abbrev cX11_find : ByteArray := prog_13_method_34_code
def yX11_find : MethodName := ⟨RX11, "find", "(I)I"⟩
abbrev cX11_thing : ByteArray := prog_13_method_35_code
def yX11_thing : MethodName := ⟨RX11, "thing", "(I)I"⟩
abbrev cX11_thaws : ByteArray := prog_13_method_36_code
def yX11_thaws : MethodName := ⟨RX11, "thaws", "(I)V"⟩
abbrev cX11_passes : ByteArray := prog_13_method_37_code
def yX11_passes : MethodName := ⟨RX11, "passes", "(I)I"⟩
abbrev cX11_day : ByteArray := prog_13_method_38_code
def yX11_day : MethodName := ⟨RX11, "day", "(I)I"⟩
abbrev cX11_goesOn : ByteArray := prog_13_method_39_code
def yX11_goesOn : MethodName := ⟨RX11, "goesOn", "(I)I"⟩
abbrev cX11_days : ByteArray := prog_13_method_40_code
def yX11_days : MethodName := ⟨RX11, "days", "(I)I"⟩
abbrev cX11_thinks : ByteArray := prog_13_method_41_code
def yX11_thinks : MethodName := ⟨RX11, "thinks", "()V"⟩
abbrev cX11_putsBack : ByteArray := prog_13_method_42_code
def yX11_putsBack : MethodName := ⟨RX11, "putsBack", "()V"⟩
abbrev cX11_sumOf : ByteArray := prog_13_method_43_code
def yX11_sumOf : MethodName := ⟨RX11, "sumOf", "(I)I"⟩
abbrev cX11_behind : ByteArray := prog_13_method_44_code
def yX11_behind : MethodName := ⟨RX11, "behind", "(II)I"⟩
abbrev cX11_gone : ByteArray := prog_13_method_45_code
def yX11_gone : MethodName := ⟨RX11, "gone", "()I"⟩
abbrev cX11_findWay : ByteArray := prog_13_method_46_code
def yX11_findWay : MethodName := ⟨RX11, "findWay", "(I)V"⟩
abbrev cX11_way : ByteArray := prog_13_method_47_code
def yX11_way : MethodName := ⟨RX11, "way", "(II)I"⟩
abbrev cX11_most : ByteArray := prog_13_method_48_code
def yX11_most : MethodName := ⟨RX11, "most", "()I"⟩
abbrev cX11_offBy : ByteArray := prog_13_method_49_code
def yX11_offBy : MethodName := ⟨RX11, "offBy", "(II)J"⟩
abbrev cX11_warmed : ByteArray := prog_13_method_50_code
def yX11_warmed : MethodName := ⟨RX11, "warmed", "(II)I"⟩
abbrev cX11_fine : ByteArray := prog_13_method_51_code
def yX11_fine : MethodName := ⟨RX11, "fine", "(I)I"⟩
abbrev cX11_feed : ByteArray := prog_13_method_52_code
def yX11_feed : MethodName := ⟨RX11, "feed", "(III)I"⟩
abbrev cX11_trim : ByteArray := prog_13_method_53_code
def yX11_trim : MethodName := ⟨RX11, "trim", "(I)I"⟩
abbrev cX11_isLetter : ByteArray := prog_13_method_54_code
def yX11_isLetter : MethodName := ⟨RX11, "isLetter", "(I)Z"⟩
abbrev cX11_isFigure : ByteArray := prog_13_method_55_code
def yX11_isFigure : MethodName := ⟨RX11, "isFigure", "(I)Z"⟩
abbrev cX11_go : ByteArray := prog_13_method_56_code
def yX11_go : MethodName := ⟨RX11, "go", "()V"⟩
abbrev cX11_takesKey : ByteArray := prog_13_method_57_code
def yX11_takesKey : MethodName := ⟨RX11, "takesKey", "()Z"⟩
abbrev cX11_nameOf : ByteArray := prog_13_method_58_code
def yX11_nameOf : MethodName := ⟨RX11, "nameOf", "(I)I"⟩
abbrev cX11_rank : ByteArray := prog_13_method_59_code
def yX11_rank : MethodName := ⟨RX11, "rank", "(I)I"⟩
abbrev cX11_settle : ByteArray := prog_13_method_60_code
def yX11_settle : MethodName := ⟨RX11, "settle", "(I)V"⟩
abbrev cX11_signHere : ByteArray := prog_13_method_61_code
def yX11_signHere : MethodName := ⟨RX11, "signHere", "()I"⟩
abbrev cX11_takesPart : ByteArray := prog_13_method_62_code
def yX11_takesPart : MethodName := ⟨RX11, "takesPart", "()Z"⟩
abbrev cX11_takesE : ByteArray := prog_13_method_63_code
def yX11_takesE : MethodName := ⟨RX11, "takesE", "()Z"⟩
abbrev cX11_notsOpen : ByteArray := prog_13_method_64_code
def yX11_notsOpen : MethodName := ⟨RX11, "notsOpen", "()I"⟩
abbrev cX11_text : ByteArray := prog_13_method_65_code
def yX11_text : MethodName := ⟨RX11, "text", "()I"⟩
abbrev cX11_textTold : ByteArray := prog_13_method_66_code
def yX11_textTold : MethodName := ⟨RX11, "textTold", "(II)I"⟩
abbrev cX11_counts : ByteArray := prog_13_method_67_code
def yX11_counts : MethodName := ⟨RX11, "counts", "(I)I"⟩
abbrev cX11_why : ByteArray := prog_13_method_68_code
def yX11_why : MethodName := ⟨RX11, "why", "(I)I"⟩
abbrev cX11_two : ByteArray := prog_13_method_69_code
def yX11_two : MethodName := ⟨RX11, "two", "(III)I"⟩
abbrev cX11_worksOut : ByteArray := prog_13_method_70_code
def yX11_worksOut : MethodName := ⟨RX11, "worksOut", "(I)I"⟩
abbrev cX11_isSheet : ByteArray := prog_13_method_71_code
def yX11_isSheet : MethodName := ⟨RX11, "isSheet", "(I)Z"⟩
abbrev cX11_isSlot : ByteArray := prog_13_method_72_code
def yX11_isSlot : MethodName := ⟨RX11, "isSlot", "(I)Z"⟩
abbrev cX11_sheet : ByteArray := prog_13_method_73_code
def yX11_sheet : MethodName := ⟨RX11, "sheet", "(III)I"⟩
abbrev cX11_mark : ByteArray := prog_13_method_74_code
def yX11_mark : MethodName := ⟨RX11, "mark", "(III)I"⟩
abbrev cX11_pour : ByteArray := prog_13_method_75_code
def yX11_pour : MethodName := ⟨RX11, "pour", "(I)I"⟩
abbrev cX11_reads : ByteArray := prog_13_method_76_code
def yX11_reads : MethodName := ⟨RX11, "reads", "(I)I"⟩
abbrev cX11_copy : ByteArray := prog_13_method_77_code
def yX11_copy : MethodName := ⟨RX11, "copy", "(IIIII)I"⟩
abbrev cX11_lay : ByteArray := prog_13_method_78_code
def yX11_lay : MethodName := ⟨RX11, "lay", "(III)I"⟩
abbrev cX11_ask : ByteArray := prog_13_method_79_code
def yX11_ask : MethodName := ⟨RX11, "ask", "(II)I"⟩
abbrev cX11_item : ByteArray := prog_13_method_80_code
def yX11_item : MethodName := ⟨RX11, "item", "(II)I"⟩
abbrev cX11_rest : ByteArray := prog_13_method_81_code
def yX11_rest : MethodName := ⟨RX11, "rest", "(II)I"⟩
abbrev cX11_tell : ByteArray := prog_13_method_82_code
def yX11_tell : MethodName := ⟨RX11, "tell", "(I)I"⟩
abbrev cX11_check : ByteArray := prog_13_method_83_code
def yX11_check : MethodName := ⟨RX11, "check", "(I)I"⟩
abbrev cX11_keep : ByteArray := prog_13_method_84_code
def yX11_keep : MethodName := ⟨RX11, "keep", "()I"⟩
abbrev cX11_back : ByteArray := prog_13_method_85_code
def yX11_back : MethodName := ⟨RX11, "back", "()I"⟩
abbrev cX11_count : ByteArray := prog_13_method_86_code
def yX11_count : MethodName := ⟨RX11, "count", "(I)I"⟩
def RJ11 : String := "java/lang/Character"
def TJ11 : u_T := fun k => match k with
  | _ => ("", "", "", false)
def tyJ11 : Nat → FieldType := fun k => match k with
  | _ => .int
abbrev cJ11_isValidCodePoint_9a6ad : ByteArray := prog_14_method_11_code
def yJ11_isValidCodePoint_9a6ad : MethodName := ⟨RJ11, "isValidCodePoint", "(I)Z"⟩
abbrev cJ11_highSurrogate_5068e : ByteArray := prog_14_method_28_code
def yJ11_highSurrogate_5068e : MethodName := ⟨RJ11, "highSurrogate", "(I)C"⟩
abbrev cJ11_lowSurrogate_5068e : ByteArray := prog_14_method_29_code
def yJ11_lowSurrogate_5068e : MethodName := ⟨RJ11, "lowSurrogate", "(I)C"⟩
def RJ9 : String := "java/lang/Math"
def TJ9 : u_T := fun k => match k with
  | _ => ("", "", "", false)
def tyJ9 : Nat → FieldType := fun k => match k with
  | _ => .int
abbrev cJ9_abs_0f7a4 : ByteArray := prog_15_method_59_code
def yJ9_abs_0f7a4 : MethodName := ⟨RJ9, "abs", "(I)I"⟩
abbrev cJ9_max_7cf53 : ByteArray := prog_15_method_65_code
def yJ9_max_7cf53 : MethodName := ⟨RJ9, "max", "(II)I"⟩
abbrev cJ9_min_7cf53 : ByteArray := prog_15_method_69_code
def yJ9_min_7cf53 : MethodName := ⟨RJ9, "min", "(II)I"⟩
def RJ0 : String := "java/lang/String"
def TJ0 : u_T := fun k => match k with
  | _ => ("", "", "", false)
def tyJ0 : Nat → FieldType := fun k => match k with
  | _ => .int
abbrev cJ0_length_8abf5 : ByteArray := prog_16_method_54_code
def yJ0_length_8abf5 : MethodName := ⟨RJ0, "length", "()I"⟩
abbrev cJ0_charAt_5068e : ByteArray := prog_16_method_56_code
def yJ0_charAt_5068e : MethodName := ⟨RJ0, "charAt", "(I)C"⟩
abbrev cJ0_indexOf_0f7a4 : ByteArray := prog_16_method_79_code
def yJ0_indexOf_0f7a4 : MethodName := ⟨RJ0, "indexOf", "(I)I"⟩
abbrev cJ0_indexOf_7cf53 : ByteArray := prog_16_method_80_code
def yJ0_indexOf_7cf53 : MethodName := ⟨RJ0, "indexOf", "(II)I"⟩
abbrev cJ0_coder_7d493 : ByteArray := prog_16_method_152_code
def yJ0_coder_7d493 : MethodName := ⟨RJ0, "coder", "()B"⟩
abbrev cJ0_isLatin1_aae02 : ByteArray := prog_16_method_154_code
def yJ0_isLatin1_aae02 : MethodName := ⟨RJ0, "isLatin1", "()Z"⟩
abbrev cJ0_checkIndex_df160 : ByteArray := prog_16_method_155_code
def yJ0_checkIndex_df160 : MethodName := ⟨RJ0, "checkIndex", "(II)V"⟩
abbrev cJ0_checkBoundsBeginEnd_23922 : ByteArray := prog_16_method_158_code
def yJ0_checkBoundsBeginEnd_23922 : MethodName := ⟨RJ0, "checkBoundsBeginEnd", "(III)V"⟩
def RJ1 : String := "java/lang/StringLatin1"
def TJ1 : u_T := fun k => match k with
  | _ => ("", "", "", false)
def tyJ1 : Nat → FieldType := fun k => match k with
  | _ => .int
abbrev cJ1_charAt_3b067 : ByteArray := prog_17_method_2_code
def yJ1_charAt_3b067 : MethodName := ⟨RJ1, "charAt", "([BI)C"⟩
abbrev cJ1_canEncode_9a6ad : ByteArray := prog_17_method_4_code
def yJ1_canEncode_9a6ad : MethodName := ⟨RJ1, "canEncode", "(I)Z"⟩
abbrev cJ1_indexOf_4cfef : ByteArray := prog_17_method_22_code
def yJ1_indexOf_4cfef : MethodName := ⟨RJ1, "indexOf", "([BIII)I"⟩
abbrev cJ1_indexOfChar_4cfef : ByteArray := prog_17_method_23_code
def yJ1_indexOfChar_4cfef : MethodName := ⟨RJ1, "indexOfChar", "([BIII)I"⟩
def RJ2 : String := "java/lang/StringUTF16"
def TJ2 : u_T := fun k => match k with
  | _ => ("", "", "", false)
def tyJ2 : Nat → FieldType := fun k => match k with
  | _ => .int
abbrev cJ2_getChar_3b067 : ByteArray := prog_18_method_5_code
def yJ2_getChar_3b067 : MethodName := ⟨RJ2, "getChar", "([BI)C"⟩
abbrev cJ2_length_9d52b : ByteArray := prog_18_method_6_code
def yJ2_length_9d52b : MethodName := ⟨RJ2, "length", "([B)I"⟩
abbrev cJ2_indexOf_4cfef : ByteArray := prog_18_method_40_code
def yJ2_indexOf_4cfef : MethodName := ⟨RJ2, "indexOf", "([BIII)I"⟩
abbrev cJ2_indexOfChar_4cfef : ByteArray := prog_18_method_47_code
def yJ2_indexOfChar_4cfef : MethodName := ⟨RJ2, "indexOfChar", "([BIII)I"⟩
abbrev cJ2_indexOfCharUnsafe_4cfef : ByteArray := prog_18_method_48_code
def yJ2_indexOfCharUnsafe_4cfef : MethodName := ⟨RJ2, "indexOfCharUnsafe", "([BIII)I"⟩
abbrev cJ2_indexOfSupplementary_4cfef : ByteArray := prog_18_method_49_code
def yJ2_indexOfSupplementary_4cfef : MethodName := ⟨RJ2, "indexOfSupplementary", "([BIII)I"⟩
abbrev cJ2_charAt_3b067 : ByteArray := prog_18_method_83_code
def yJ2_charAt_3b067 : MethodName := ⟨RJ2, "charAt", "([BI)C"⟩
abbrev cJ2_checkIndex_2214a : ByteArray := prog_18_method_91_code
def yJ2_checkIndex_2214a : MethodName := ⟨RJ2, "checkIndex", "(I[B)V"⟩
abbrev cJ2_checkBoundsBeginEnd_d044e : ByteArray := prog_18_method_93_code
def yJ2_checkBoundsBeginEnd_d044e : MethodName := ⟨RJ2, "checkBoundsBeginEnd", "(II[B)V"⟩
def RJ10 : String := "java/lang/System"
def TJ10 : u_T := fun k => match k with
  | _ => ("", "", "", false)
def tyJ10 : Nat → FieldType := fun k => match k with
  | _ => .int
def RJ3 : String := "jdk/internal/util/Preconditions"
def TJ3 : u_T := fun k => match k with
  | _ => ("", "", "", false)
def tyJ3 : Nat → FieldType := fun k => match k with
  | _ => .int
abbrev cJ3_checkIndex_8e157 : ByteArray := prog_20_method_11_code
def yJ3_checkIndex_8e157 : MethodName := ⟨RJ3, "checkIndex", "(IILjava/util/function/BiFunction;)I"⟩
abbrev cJ3_checkFromToIndex_8c36e : ByteArray := prog_20_method_12_code
def yJ3_checkFromToIndex_8c36e : MethodName := ⟨RJ3, "checkFromToIndex", "(IIILjava/util/function/BiFunction;)I"⟩
def RL : String := "SnowOwedLaw"
abbrev cL_law : ByteArray := code
def yL_law : MethodName := ⟨RL, "law", "([I)Z"⟩
abbrev vwCl : List vw_C := [(RX0, TX0, 7), (RX2, TX2, 5), (RX3, TX3, 5), (RX4, TX4, 9), (RX5, TX5, 5), (RX6, TX6, 3), (RX7, TX7, 6), (RX8, TX8, 2), (RX9, TX9, 9), (RX10, TX10, 11), (RX11, TX11, 34)]
