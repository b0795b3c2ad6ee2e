section
-- ===== PART A: goes FIRST, ahead of the names: the tables' words, and 'selects' of the private methods out of them =====
/-- a private method of a class that the tables say can be made, by its rows of tables_1 -/
def lw_okq (q : MethodName × Nat) : Prop := (q.1.cls ≠ "java/lang/invoke/MethodHandle" ∧ q.1.cls ≠ "java/lang/invoke/VarHandle") ∧ Cond.instantiable q.1.cls q.2 ∈ tables_1 ∧ Cond.privateMethod q.1 ∈ tables_1 ∧ Cond.instanceMethod q.1 ∈ tables_1
theorem lw_p0 : lw_okq (⟨"FireApologies", "brightestMinutes", "(I)I"⟩, 12) := ⟨⟨by decide +kernel, by decide +kernel⟩, List.mem_of_getElem? (i := 24) (by decide +kernel), List.mem_of_getElem? (i := 335) (by decide +kernel), List.mem_of_getElem? (i := 336) (by decide +kernel)⟩
theorem lw_p1 : lw_okq (⟨"FireApologies", "lightOn", "(II)I"⟩, 12) := ⟨⟨by decide +kernel, by decide +kernel⟩, List.mem_of_getElem? (i := 24) (by decide +kernel), List.mem_of_getElem? (i := 365) (by decide +kernel), List.mem_of_getElem? (i := 366) (by decide +kernel)⟩
theorem lw_p2 : lw_okq (⟨"FireApologies", "giftTo", "(I)I"⟩, 12) := ⟨⟨by decide +kernel, by decide +kernel⟩, List.mem_of_getElem? (i := 24) (by decide +kernel), List.mem_of_getElem? (i := 369) (by decide +kernel), List.mem_of_getElem? (i := 370) (by decide +kernel)⟩
theorem lw_p3 : lw_okq (⟨"FireApologies", "fitting", "(III)I"⟩, 12) := ⟨⟨by decide +kernel, by decide +kernel⟩, List.mem_of_getElem? (i := 24) (by decide +kernel), List.mem_of_getElem? (i := 397) (by decide +kernel), List.mem_of_getElem? (i := 398) (by decide +kernel)⟩
theorem lw_p4 : lw_okq (⟨"FireApologies", "areMarksSo", "(III)Z"⟩, 12) := ⟨⟨by decide +kernel, by decide +kernel⟩, List.mem_of_getElem? (i := 24) (by decide +kernel), List.mem_of_getElem? (i := 401) (by decide +kernel), List.mem_of_getElem? (i := 402) (by decide +kernel)⟩
theorem lw_p5 : lw_okq (⟨"FireApologies", "isMarkSo", "(III)Z"⟩, 12) := ⟨⟨by decide +kernel, by decide +kernel⟩, List.mem_of_getElem? (i := 24) (by decide +kernel), List.mem_of_getElem? (i := 405) (by decide +kernel), List.mem_of_getElem? (i := 406) (by decide +kernel)⟩
theorem lw_p6 : lw_okq (⟨"FireApologies$Reader", "takeClause", "()Z"⟩, 7) := ⟨⟨by decide +kernel, by decide +kernel⟩, List.mem_of_getElem? (i := 32) (by decide +kernel), List.mem_of_getElem? (i := 447) (by decide +kernel), List.mem_of_getElem? (i := 448) (by decide +kernel)⟩
theorem lw_p7 : lw_okq (⟨"FireApologies$Reader", "next", "()I"⟩, 7) := ⟨⟨by decide +kernel, by decide +kernel⟩, List.mem_of_getElem? (i := 32) (by decide +kernel), List.mem_of_getElem? (i := 451) (by decide +kernel), List.mem_of_getElem? (i := 452) (by decide +kernel)⟩
theorem lw_p8 : lw_okq (⟨"FireApologies$Reader", "takeAll", "(Ljava/lang/String;)Z"⟩, 7) := ⟨⟨by decide +kernel, by decide +kernel⟩, List.mem_of_getElem? (i := 32) (by decide +kernel), List.mem_of_getElem? (i := 456) (by decide +kernel), List.mem_of_getElem? (i := 457) (by decide +kernel)⟩
theorem lw_p9 : lw_okq (⟨"FireApologies$Reader", "take", "(I)Z"⟩, 7) := ⟨⟨by decide +kernel, by decide +kernel⟩, List.mem_of_getElem? (i := 32) (by decide +kernel), List.mem_of_getElem? (i := 508) (by decide +kernel), List.mem_of_getElem? (i := 509) (by decide +kernel)⟩
theorem lw_p10 : lw_okq (⟨"FireApologies$Reader", "takeNumber", "()Z"⟩, 7) := ⟨⟨by decide +kernel, by decide +kernel⟩, List.mem_of_getElem? (i := 32) (by decide +kernel), List.mem_of_getElem? (i := 513) (by decide +kernel), List.mem_of_getElem? (i := 514) (by decide +kernel)⟩
theorem lw_p11 : lw_okq (⟨"FireApologies$Reader", "takeEither", "(I)Z"⟩, 7) := ⟨⟨by decide +kernel, by decide +kernel⟩, List.mem_of_getElem? (i := 32) (by decide +kernel), List.mem_of_getElem? (i := 518) (by decide +kernel), List.mem_of_getElem? (i := 519) (by decide +kernel)⟩
theorem lw_p12 : lw_okq (⟨"FireApologies$Reader", "takeFactor", "(I)Z"⟩, 7) := ⟨⟨by decide +kernel, by decide +kernel⟩, List.mem_of_getElem? (i := 32) (by decide +kernel), List.mem_of_getElem? (i := 522) (by decide +kernel), List.mem_of_getElem? (i := 523) (by decide +kernel)⟩
theorem lw_p13 : lw_okq (⟨"FireApologies$Reader", "addStep", "(III)V"⟩, 7) := ⟨⟨by decide +kernel, by decide +kernel⟩, List.mem_of_getElem? (i := 32) (by decide +kernel), List.mem_of_getElem? (i := 526) (by decide +kernel), List.mem_of_getElem? (i := 527) (by decide +kernel)⟩
theorem lw_p14 : lw_okq (⟨"FireApologies$Reader", "takeTest", "()Z"⟩, 7) := ⟨⟨by decide +kernel, by decide +kernel⟩, List.mem_of_getElem? (i := 32) (by decide +kernel), List.mem_of_getElem? (i := 530) (by decide +kernel), List.mem_of_getElem? (i := 531) (by decide +kernel)⟩
theorem lw_p15 : lw_okq (⟨"FireApologies", "toldOfAll", "(I)I"⟩, 12) := ⟨⟨by decide +kernel, by decide +kernel⟩, List.mem_of_getElem? (i := 24) (by decide +kernel), List.mem_of_getElem? (i := 630) (by decide +kernel), List.mem_of_getElem? (i := 631) (by decide +kernel)⟩
def lw_privs_1 : List (MethodName × Nat) := [(⟨"FireApologies", "brightestMinutes", "(I)I"⟩, 12), (⟨"FireApologies", "lightOn", "(II)I"⟩, 12), (⟨"FireApologies", "giftTo", "(I)I"⟩, 12), (⟨"FireApologies", "fitting", "(III)I"⟩, 12), (⟨"FireApologies", "areMarksSo", "(III)Z"⟩, 12), (⟨"FireApologies", "isMarkSo", "(III)Z"⟩, 12), (⟨"FireApologies$Reader", "takeClause", "()Z"⟩, 7), (⟨"FireApologies$Reader", "next", "()I"⟩, 7), (⟨"FireApologies$Reader", "takeAll", "(Ljava/lang/String;)Z"⟩, 7), (⟨"FireApologies$Reader", "take", "(I)Z"⟩, 7), (⟨"FireApologies$Reader", "takeNumber", "()Z"⟩, 7), (⟨"FireApologies$Reader", "takeEither", "(I)Z"⟩, 7), (⟨"FireApologies$Reader", "takeFactor", "(I)Z"⟩, 7), (⟨"FireApologies$Reader", "addStep", "(III)V"⟩, 7), (⟨"FireApologies$Reader", "takeTest", "()Z"⟩, 7), (⟨"FireApologies", "toldOfAll", "(I)I"⟩, 12)]
theorem lw_r1 : ∀ q ∈ lw_privs_1, lw_okq q := List.forall_mem_cons.mpr ⟨lw_p0, List.forall_mem_cons.mpr ⟨lw_p1, List.forall_mem_cons.mpr ⟨lw_p2, List.forall_mem_cons.mpr ⟨lw_p3, List.forall_mem_cons.mpr ⟨lw_p4, List.forall_mem_cons.mpr ⟨lw_p5, List.forall_mem_cons.mpr ⟨lw_p6, List.forall_mem_cons.mpr ⟨lw_p7, List.forall_mem_cons.mpr ⟨lw_p8, List.forall_mem_cons.mpr ⟨lw_p9, List.forall_mem_cons.mpr ⟨lw_p10, List.forall_mem_cons.mpr ⟨lw_p11, List.forall_mem_cons.mpr ⟨lw_p12, List.forall_mem_cons.mpr ⟨lw_p13, List.forall_mem_cons.mpr ⟨lw_p14, List.forall_mem_cons.mpr ⟨lw_p15, fun _ h => absurd h List.not_mem_nil⟩⟩⟩⟩⟩⟩⟩⟩⟩⟩⟩⟩⟩⟩⟩⟩
theorem lw_p16 : lw_okq (⟨"FireApologies", "enoughFor", "(I)I"⟩, 12) := ⟨⟨by decide +kernel, by decide +kernel⟩, List.mem_of_getElem? (i := 24) (by decide +kernel), List.mem_of_getElem? (i := 637) (by decide +kernel), List.mem_of_getElem? (i := 638) (by decide +kernel)⟩
theorem lw_p17 : lw_okq (⟨"FireApologies", "bestRow", "(I)I"⟩, 12) := ⟨⟨by decide +kernel, by decide +kernel⟩, List.mem_of_getElem? (i := 24) (by decide +kernel), List.mem_of_getElem? (i := 654) (by decide +kernel), List.mem_of_getElem? (i := 655) (by decide +kernel)⟩
theorem lw_p18 : lw_okq (⟨"FireApologies", "orderOf", "(II)V"⟩, 12) := ⟨⟨by decide +kernel, by decide +kernel⟩, List.mem_of_getElem? (i := 24) (by decide +kernel), List.mem_of_getElem? (i := 658) (by decide +kernel), List.mem_of_getElem? (i := 659) (by decide +kernel)⟩
theorem lw_p19 : lw_okq (⟨"FireApologies", "canLightOrder", "(I)Z"⟩, 12) := ⟨⟨by decide +kernel, by decide +kernel⟩, List.mem_of_getElem? (i := 24) (by decide +kernel), List.mem_of_getElem? (i := 662) (by decide +kernel), List.mem_of_getElem? (i := 663) (by decide +kernel)⟩
theorem lw_p20 : lw_okq (⟨"FireApologies", "tryOrder", "(I)V"⟩, 12) := ⟨⟨by decide +kernel, by decide +kernel⟩, List.mem_of_getElem? (i := 24) (by decide +kernel), List.mem_of_getElem? (i := 666) (by decide +kernel), List.mem_of_getElem? (i := 667) (by decide +kernel)⟩
theorem lw_p21 : lw_okq (⟨"FireApologies", "tryPlanned", "(II)V"⟩, 12) := ⟨⟨by decide +kernel, by decide +kernel⟩, List.mem_of_getElem? (i := 24) (by decide +kernel), List.mem_of_getElem? (i := 706) (by decide +kernel), List.mem_of_getElem? (i := 707) (by decide +kernel)⟩
theorem lw_p22 : lw_okq (⟨"FireApologies", "hasItem", "(II)Z"⟩, 12) := ⟨⟨by decide +kernel, by decide +kernel⟩, List.mem_of_getElem? (i := 24) (by decide +kernel), List.mem_of_getElem? (i := 722) (by decide +kernel), List.mem_of_getElem? (i := 723) (by decide +kernel)⟩
theorem lw_p23 : lw_okq (⟨"FireApologies", "hasItems", "(III)Z"⟩, 12) := ⟨⟨by decide +kernel, by decide +kernel⟩, List.mem_of_getElem? (i := 24) (by decide +kernel), List.mem_of_getElem? (i := 858) (by decide +kernel), List.mem_of_getElem? (i := 859) (by decide +kernel)⟩
theorem lw_p24 : lw_okq (⟨"FireApologiesModel", "isOne", "(I)Z"⟩, 49) := ⟨⟨by decide +kernel, by decide +kernel⟩, List.mem_of_getElem? (i := 863) (by decide +kernel), List.mem_of_getElem? (i := 1032) (by decide +kernel), List.mem_of_getElem? (i := 1033) (by decide +kernel)⟩
theorem lw_p25 : lw_okq (⟨"FireApologiesModel", "lightOf", "(I)I"⟩, 49) := ⟨⟨by decide +kernel, by decide +kernel⟩, List.mem_of_getElem? (i := 863) (by decide +kernel), List.mem_of_getElem? (i := 1036) (by decide +kernel), List.mem_of_getElem? (i := 1037) (by decide +kernel)⟩
theorem lw_p26 : lw_okq (⟨"FireApologiesModel", "sum", "(I)I"⟩, 49) := ⟨⟨by decide +kernel, by decide +kernel⟩, List.mem_of_getElem? (i := 863) (by decide +kernel), List.mem_of_getElem? (i := 1040) (by decide +kernel), List.mem_of_getElem? (i := 1041) (by decide +kernel)⟩
theorem lw_p27 : lw_okq (⟨"FireApologiesModel", "isTrue", "(II)Z"⟩, 49) := ⟨⟨by decide +kernel, by decide +kernel⟩, List.mem_of_getElem? (i := 863) (by decide +kernel), List.mem_of_getElem? (i := 1044) (by decide +kernel), List.mem_of_getElem? (i := 1045) (by decide +kernel)⟩
theorem lw_p28 : lw_okq (⟨"FireApologiesModel", "letterOf", "(II)I"⟩, 49) := ⟨⟨by decide +kernel, by decide +kernel⟩, List.mem_of_getElem? (i := 863) (by decide +kernel), List.mem_of_getElem? (i := 1048) (by decide +kernel), List.mem_of_getElem? (i := 1049) (by decide +kernel)⟩
theorem lw_p29 : lw_okq (⟨"FireApologiesModel", "areSo", "(I)I"⟩, 49) := ⟨⟨by decide +kernel, by decide +kernel⟩, List.mem_of_getElem? (i := 863) (by decide +kernel), List.mem_of_getElem? (i := 1052) (by decide +kernel), List.mem_of_getElem? (i := 1053) (by decide +kernel)⟩
theorem lw_p30 : lw_okq (⟨"FireApologiesModel", "brightest", "(II)I"⟩, 49) := ⟨⟨by decide +kernel, by decide +kernel⟩, List.mem_of_getElem? (i := 863) (by decide +kernel), List.mem_of_getElem? (i := 1057) (by decide +kernel), List.mem_of_getElem? (i := 1058) (by decide +kernel)⟩
theorem lw_p31 : lw_okq (⟨"FireApologiesModel", "keep", "([I)V"⟩, 49) := ⟨⟨by decide +kernel, by decide +kernel⟩, List.mem_of_getElem? (i := 863) (by decide +kernel), List.mem_of_getElem? (i := 1061) (by decide +kernel), List.mem_of_getElem? (i := 1062) (by decide +kernel)⟩
def lw_privs_2 : List (MethodName × Nat) := [(⟨"FireApologies", "enoughFor", "(I)I"⟩, 12), (⟨"FireApologies", "bestRow", "(I)I"⟩, 12), (⟨"FireApologies", "orderOf", "(II)V"⟩, 12), (⟨"FireApologies", "canLightOrder", "(I)Z"⟩, 12), (⟨"FireApologies", "tryOrder", "(I)V"⟩, 12), (⟨"FireApologies", "tryPlanned", "(II)V"⟩, 12), (⟨"FireApologies", "hasItem", "(II)Z"⟩, 12), (⟨"FireApologies", "hasItems", "(III)Z"⟩, 12), (⟨"FireApologiesModel", "isOne", "(I)Z"⟩, 49), (⟨"FireApologiesModel", "lightOf", "(I)I"⟩, 49), (⟨"FireApologiesModel", "sum", "(I)I"⟩, 49), (⟨"FireApologiesModel", "isTrue", "(II)Z"⟩, 49), (⟨"FireApologiesModel", "letterOf", "(II)I"⟩, 49), (⟨"FireApologiesModel", "areSo", "(I)I"⟩, 49), (⟨"FireApologiesModel", "brightest", "(II)I"⟩, 49), (⟨"FireApologiesModel", "keep", "([I)V"⟩, 49)]
theorem lw_r2 : ∀ q ∈ lw_privs_2, lw_okq q := List.forall_mem_cons.mpr ⟨lw_p16, List.forall_mem_cons.mpr ⟨lw_p17, List.forall_mem_cons.mpr ⟨lw_p18, List.forall_mem_cons.mpr ⟨lw_p19, List.forall_mem_cons.mpr ⟨lw_p20, List.forall_mem_cons.mpr ⟨lw_p21, List.forall_mem_cons.mpr ⟨lw_p22, List.forall_mem_cons.mpr ⟨lw_p23, List.forall_mem_cons.mpr ⟨lw_p24, List.forall_mem_cons.mpr ⟨lw_p25, List.forall_mem_cons.mpr ⟨lw_p26, List.forall_mem_cons.mpr ⟨lw_p27, List.forall_mem_cons.mpr ⟨lw_p28, List.forall_mem_cons.mpr ⟨lw_p29, List.forall_mem_cons.mpr ⟨lw_p30, List.forall_mem_cons.mpr ⟨lw_p31, fun _ h => absurd h List.not_mem_nil⟩⟩⟩⟩⟩⟩⟩⟩⟩⟩⟩⟩⟩⟩⟩⟩
theorem lw_p32 : lw_okq (⟨"FireApologiesModel", "goesMinute", "()V"⟩, 49) := ⟨⟨by decide +kernel, by decide +kernel⟩, List.mem_of_getElem? (i := 863) (by decide +kernel), List.mem_of_getElem? (i := 1065) (by decide +kernel), List.mem_of_getElem? (i := 1066) (by decide +kernel)⟩
theorem lw_p33 : lw_okq (⟨"FireApologiesModel", "dryBy", "()I"⟩, 49) := ⟨⟨by decide +kernel, by decide +kernel⟩, List.mem_of_getElem? (i := 863) (by decide +kernel), List.mem_of_getElem? (i := 1069) (by decide +kernel), List.mem_of_getElem? (i := 1070) (by decide +kernel)⟩
theorem lw_p34 : lw_okq (⟨"FireApologiesModel", "again", "([I)V"⟩, 49) := ⟨⟨by decide +kernel, by decide +kernel⟩, List.mem_of_getElem? (i := 863) (by decide +kernel), List.mem_of_getElem? (i := 1075) (by decide +kernel), List.mem_of_getElem? (i := 1076) (by decide +kernel)⟩
theorem lw_p35 : lw_okq (⟨"FireApologiesModel", "gift", "(I)I"⟩, 49) := ⟨⟨by decide +kernel, by decide +kernel⟩, List.mem_of_getElem? (i := 863) (by decide +kernel), List.mem_of_getElem? (i := 1079) (by decide +kernel), List.mem_of_getElem? (i := 1080) (by decide +kernel)⟩
theorem lw_p36 : lw_okq (⟨"FireApologiesModel", "lightsAll", "(I)V"⟩, 49) := ⟨⟨by decide +kernel, by decide +kernel⟩, List.mem_of_getElem? (i := 863) (by decide +kernel), List.mem_of_getElem? (i := 1083) (by decide +kernel), List.mem_of_getElem? (i := 1084) (by decide +kernel)⟩
theorem lw_p37 : lw_okq (⟨"FireApologiesModel", "lights", "(I)V"⟩, 49) := ⟨⟨by decide +kernel, by decide +kernel⟩, List.mem_of_getElem? (i := 863) (by decide +kernel), List.mem_of_getElem? (i := 1090) (by decide +kernel), List.mem_of_getElem? (i := 1091) (by decide +kernel)⟩
theorem lw_p38 : lw_okq (⟨"FireApologiesModel", "even", "()I"⟩, 49) := ⟨⟨by decide +kernel, by decide +kernel⟩, List.mem_of_getElem? (i := 863) (by decide +kernel), List.mem_of_getElem? (i := 1094) (by decide +kernel), List.mem_of_getElem? (i := 1095) (by decide +kernel)⟩
theorem lw_p39 : lw_okq (⟨"FireApologiesModel", "allGrief", "()I"⟩, 49) := ⟨⟨by decide +kernel, by decide +kernel⟩, List.mem_of_getElem? (i := 863) (by decide +kernel), List.mem_of_getElem? (i := 1098) (by decide +kernel), List.mem_of_getElem? (i := 1099) (by decide +kernel)⟩
theorem lw_p40 : lw_okq (⟨"FireApologiesModel", "sizes", "(I)I"⟩, 49) := ⟨⟨by decide +kernel, by decide +kernel⟩, List.mem_of_getElem? (i := 863) (by decide +kernel), List.mem_of_getElem? (i := 1102) (by decide +kernel), List.mem_of_getElem? (i := 1103) (by decide +kernel)⟩
theorem lw_p41 : lw_okq (⟨"FireApologiesModel", "areMarked", "(I)Z"⟩, 49) := ⟨⟨by decide +kernel, by decide +kernel⟩, List.mem_of_getElem? (i := 863) (by decide +kernel), List.mem_of_getElem? (i := 1106) (by decide +kernel), List.mem_of_getElem? (i := 1107) (by decide +kernel)⟩
theorem lw_p42 : lw_okq (⟨"FireApologiesModel", "isMarked", "(I)Z"⟩, 49) := ⟨⟨by decide +kernel, by decide +kernel⟩, List.mem_of_getElem? (i := 863) (by decide +kernel), List.mem_of_getElem? (i := 1110) (by decide +kernel), List.mem_of_getElem? (i := 1111) (by decide +kernel)⟩
theorem lw_p43 : lw_okq (⟨"FireApologiesModel", "isClause", "(I)Z"⟩, 49) := ⟨⟨by decide +kernel, by decide +kernel⟩, List.mem_of_getElem? (i := 863) (by decide +kernel), List.mem_of_getElem? (i := 1142) (by decide +kernel), List.mem_of_getElem? (i := 1143) (by decide +kernel)⟩
theorem lw_p44 : lw_okq (⟨"FireApologiesModel", "isAll", "(Ljava/lang/String;)Z"⟩, 49) := ⟨⟨by decide +kernel, by decide +kernel⟩, List.mem_of_getElem? (i := 863) (by decide +kernel), List.mem_of_getElem? (i := 1147) (by decide +kernel), List.mem_of_getElem? (i := 1148) (by decide +kernel)⟩
theorem lw_p45 : lw_okq (⟨"FireApologiesModel", "is", "(I)Z"⟩, 49) := ⟨⟨by decide +kernel, by decide +kernel⟩, List.mem_of_getElem? (i := 863) (by decide +kernel), List.mem_of_getElem? (i := 1153) (by decide +kernel), List.mem_of_getElem? (i := 1154) (by decide +kernel)⟩
theorem lw_p46 : lw_okq (⟨"FireApologiesModel", "isNumber", "()Z"⟩, 49) := ⟨⟨by decide +kernel, by decide +kernel⟩, List.mem_of_getElem? (i := 863) (by decide +kernel), List.mem_of_getElem? (i := 1159) (by decide +kernel), List.mem_of_getElem? (i := 1160) (by decide +kernel)⟩
theorem lw_p47 : lw_okq (⟨"FireApologiesModel", "isDigit", "()Z"⟩, 49) := ⟨⟨by decide +kernel, by decide +kernel⟩, List.mem_of_getElem? (i := 863) (by decide +kernel), List.mem_of_getElem? (i := 1163) (by decide +kernel), List.mem_of_getElem? (i := 1164) (by decide +kernel)⟩
def lw_privs_3 : List (MethodName × Nat) := [(⟨"FireApologiesModel", "goesMinute", "()V"⟩, 49), (⟨"FireApologiesModel", "dryBy", "()I"⟩, 49), (⟨"FireApologiesModel", "again", "([I)V"⟩, 49), (⟨"FireApologiesModel", "gift", "(I)I"⟩, 49), (⟨"FireApologiesModel", "lightsAll", "(I)V"⟩, 49), (⟨"FireApologiesModel", "lights", "(I)V"⟩, 49), (⟨"FireApologiesModel", "even", "()I"⟩, 49), (⟨"FireApologiesModel", "allGrief", "()I"⟩, 49), (⟨"FireApologiesModel", "sizes", "(I)I"⟩, 49), (⟨"FireApologiesModel", "areMarked", "(I)Z"⟩, 49), (⟨"FireApologiesModel", "isMarked", "(I)Z"⟩, 49), (⟨"FireApologiesModel", "isClause", "(I)Z"⟩, 49), (⟨"FireApologiesModel", "isAll", "(Ljava/lang/String;)Z"⟩, 49), (⟨"FireApologiesModel", "is", "(I)Z"⟩, 49), (⟨"FireApologiesModel", "isNumber", "()Z"⟩, 49), (⟨"FireApologiesModel", "isDigit", "()Z"⟩, 49)]
theorem lw_r3 : ∀ q ∈ lw_privs_3, lw_okq q := List.forall_mem_cons.mpr ⟨lw_p32, List.forall_mem_cons.mpr ⟨lw_p33, List.forall_mem_cons.mpr ⟨lw_p34, List.forall_mem_cons.mpr ⟨lw_p35, List.forall_mem_cons.mpr ⟨lw_p36, List.forall_mem_cons.mpr ⟨lw_p37, List.forall_mem_cons.mpr ⟨lw_p38, List.forall_mem_cons.mpr ⟨lw_p39, List.forall_mem_cons.mpr ⟨lw_p40, List.forall_mem_cons.mpr ⟨lw_p41, List.forall_mem_cons.mpr ⟨lw_p42, List.forall_mem_cons.mpr ⟨lw_p43, List.forall_mem_cons.mpr ⟨lw_p44, List.forall_mem_cons.mpr ⟨lw_p45, List.forall_mem_cons.mpr ⟨lw_p46, List.forall_mem_cons.mpr ⟨lw_p47, fun _ h => absurd h List.not_mem_nil⟩⟩⟩⟩⟩⟩⟩⟩⟩⟩⟩⟩⟩⟩⟩⟩
theorem lw_p48 : lw_okq (⟨"FireApologiesModel", "isE", "()Z"⟩, 49) := ⟨⟨by decide +kernel, by decide +kernel⟩, List.mem_of_getElem? (i := 863) (by decide +kernel), List.mem_of_getElem? (i := 1167) (by decide +kernel), List.mem_of_getElem? (i := 1168) (by decide +kernel)⟩
theorem lw_p49 : lw_okq (⟨"FireApologiesModel", "isT", "()Z"⟩, 49) := ⟨⟨by decide +kernel, by decide +kernel⟩, List.mem_of_getElem? (i := 863) (by decide +kernel), List.mem_of_getElem? (i := 1171) (by decide +kernel), List.mem_of_getElem? (i := 1172) (by decide +kernel)⟩
theorem lw_p50 : lw_okq (⟨"FireApologiesModel", "isF", "()Z"⟩, 49) := ⟨⟨by decide +kernel, by decide +kernel⟩, List.mem_of_getElem? (i := 863) (by decide +kernel), List.mem_of_getElem? (i := 1175) (by decide +kernel), List.mem_of_getElem? (i := 1176) (by decide +kernel)⟩
theorem lw_p51 : lw_okq (⟨"FireApologiesModel", "isOpened", "(I)Z"⟩, 49) := ⟨⟨by decide +kernel, by decide +kernel⟩, List.mem_of_getElem? (i := 863) (by decide +kernel), List.mem_of_getElem? (i := 1179) (by decide +kernel), List.mem_of_getElem? (i := 1180) (by decide +kernel)⟩
theorem lw_p52 : lw_okq (⟨"FireApologiesModel", "codes", "(I)Z"⟩, 49) := ⟨⟨by decide +kernel, by decide +kernel⟩, List.mem_of_getElem? (i := 863) (by decide +kernel), List.mem_of_getElem? (i := 1183) (by decide +kernel), List.mem_of_getElem? (i := 1184) (by decide +kernel)⟩
theorem lw_p53 : lw_okq (⟨"FireApologiesModel", "isTest", "()Z"⟩, 49) := ⟨⟨by decide +kernel, by decide +kernel⟩, List.mem_of_getElem? (i := 863) (by decide +kernel), List.mem_of_getElem? (i := 1187) (by decide +kernel), List.mem_of_getElem? (i := 1188) (by decide +kernel)⟩
theorem lw_p54 : lw_okq (⟨"FireApologiesModel", "enough", "(I)I"⟩, 49) := ⟨⟨by decide +kernel, by decide +kernel⟩, List.mem_of_getElem? (i := 863) (by decide +kernel), List.mem_of_getElem? (i := 1198) (by decide +kernel), List.mem_of_getElem? (i := 1199) (by decide +kernel)⟩
theorem lw_p55 : lw_okq (⟨"FireApologiesModel", "tries", "(II)V"⟩, 49) := ⟨⟨by decide +kernel, by decide +kernel⟩, List.mem_of_getElem? (i := 863) (by decide +kernel), List.mem_of_getElem? (i := 1214) (by decide +kernel), List.mem_of_getElem? (i := 1215) (by decide +kernel)⟩
theorem lw_p56 : lw_okq (⟨"FireApologiesModel", "hisses", "(III)I"⟩, 49) := ⟨⟨by decide +kernel, by decide +kernel⟩, List.mem_of_getElem? (i := 863) (by decide +kernel), List.mem_of_getElem? (i := 1275) (by decide +kernel), List.mem_of_getElem? (i := 1276) (by decide +kernel)⟩
theorem lw_p57 : lw_okq (⟨"FireApologiesModel", "ran", "(I)V"⟩, 49) := ⟨⟨by decide +kernel, by decide +kernel⟩, List.mem_of_getElem? (i := 863) (by decide +kernel), List.mem_of_getElem? (i := 1279) (by decide +kernel), List.mem_of_getElem? (i := 1280) (by decide +kernel)⟩
theorem lw_p58 : lw_okq (⟨"FireApologiesModel", "climbs", "(III)I"⟩, 49) := ⟨⟨by decide +kernel, by decide +kernel⟩, List.mem_of_getElem? (i := 863) (by decide +kernel), List.mem_of_getElem? (i := 1286) (by decide +kernel), List.mem_of_getElem? (i := 1287) (by decide +kernel)⟩
theorem lw_p59 : lw_okq (⟨"FireApologiesModel", "tells", "(III)I"⟩, 49) := ⟨⟨by decide +kernel, by decide +kernel⟩, List.mem_of_getElem? (i := 863) (by decide +kernel), List.mem_of_getElem? (i := 1290) (by decide +kernel), List.mem_of_getElem? (i := 1291) (by decide +kernel)⟩
def lw_privs_4 : List (MethodName × Nat) := [(⟨"FireApologiesModel", "isE", "()Z"⟩, 49), (⟨"FireApologiesModel", "isT", "()Z"⟩, 49), (⟨"FireApologiesModel", "isF", "()Z"⟩, 49), (⟨"FireApologiesModel", "isOpened", "(I)Z"⟩, 49), (⟨"FireApologiesModel", "codes", "(I)Z"⟩, 49), (⟨"FireApologiesModel", "isTest", "()Z"⟩, 49), (⟨"FireApologiesModel", "enough", "(I)I"⟩, 49), (⟨"FireApologiesModel", "tries", "(II)V"⟩, 49), (⟨"FireApologiesModel", "hisses", "(III)I"⟩, 49), (⟨"FireApologiesModel", "ran", "(I)V"⟩, 49), (⟨"FireApologiesModel", "climbs", "(III)I"⟩, 49), (⟨"FireApologiesModel", "tells", "(III)I"⟩, 49)]
theorem lw_r4 : ∀ q ∈ lw_privs_4, lw_okq q := List.forall_mem_cons.mpr ⟨lw_p48, List.forall_mem_cons.mpr ⟨lw_p49, List.forall_mem_cons.mpr ⟨lw_p50, List.forall_mem_cons.mpr ⟨lw_p51, List.forall_mem_cons.mpr ⟨lw_p52, List.forall_mem_cons.mpr ⟨lw_p53, List.forall_mem_cons.mpr ⟨lw_p54, List.forall_mem_cons.mpr ⟨lw_p55, List.forall_mem_cons.mpr ⟨lw_p56, List.forall_mem_cons.mpr ⟨lw_p57, List.forall_mem_cons.mpr ⟨lw_p58, List.forall_mem_cons.mpr ⟨lw_p59, fun _ h => absurd h List.not_mem_nil⟩⟩⟩⟩⟩⟩⟩⟩⟩⟩⟩⟩
def lw_privs : List (MethodName × Nat) := lw_privs_1 ++ (lw_privs_2 ++ (lw_privs_3 ++ (lw_privs_4)))
def lw_tbl : List Cond := k2_sels lw_privs ++ tables_1
theorem lw_privs_ok : ∀ q ∈ lw_privs, lw_okq q := by
  show ∀ q ∈ lw_privs_1 ++ (lw_privs_2 ++ (lw_privs_3 ++ (lw_privs_4))), lw_okq q
  exact List.forall_mem_append.mpr ⟨lw_r1, List.forall_mem_append.mpr ⟨lw_r2, List.forall_mem_append.mpr ⟨lw_r3, lw_r4⟩⟩⟩

/-- the words of the tables that may be handed on -/
def TB : List Cond := lw_tbl.filter goodWord
theorem in_TB {w : Cond} (h1 : w ∈ lw_tbl) (h2 : goodWord w = true) : w ∈ TB := List.mem_filter.mpr ⟨h1, h2⟩
theorem in_TBt {w : Cond} (i : Nat) (h1 : tables_1[i]? = some w) (h2 : goodWord w = true) : w ∈ TB := in_TB (List.mem_append_right _ (List.mem_of_getElem? h1)) h2
theorem in_TBp {w : Cond} (i : Nat) (h1 : (k2_sels lw_privs)[i]? = some w) (h2 : goodWord w = true) : w ∈ TB := in_TB (List.mem_append_left _ (List.mem_of_getElem? h1)) h2
theorem TB_good {w : Cond} (h : w ∈ TB) : goodWord w = true := (List.mem_filter.mp h).2
theorem TB_all {P : Cond → Prop} (h : ∀ w ∈ lw_tbl, P w) : ∀ w ∈ TB, P w := fun w hw => h w (List.mem_filter.mp hw).1

def RX0 : String := "FireApologies$Acting"
def TX0 : u_T := fun k => match k with
  | 0 => ("FireApologies$Acting", "bodies", "[I", true)
  | 1 => ("FireApologies$Acting", "ran", "I", false)
  | 2 => ("FireApologies$Acting", "number", "I", false)
  | _ => ("FireApologies$Acting", "v", "I", false)
def tyX0 : Nat → FieldType := fun k => match k with
  | 0 => .array .int
  | 1 => .int
  | 2 => .int
  | _ => .int
theorem nmX0 : ∀ a, a < 4 → ∀ b, b < 4 → a ≠ b → (TX0 a).2.1 ≠ (TX0 b).2.1 := by decide +kernel
theorem tyX0_ok : ∀ k, k < 4 → parseFieldDescriptor (TX0 k).2.2.1 = some (tyX0 k) := by decide +kernel
abbrev cX0_init : ByteArray := prog_2_method_1_code
def yX0_init : MethodName := ⟨RX0, "<init>", "()V"⟩
abbrev cX0_begin : ByteArray := prog_2_method_2_code
def yX0_begin : MethodName := ⟨RX0, "begin", "(I)V"⟩
def RX1 : String := "FireApologies$Cake"
def TX1 : u_T := fun k => match k with
  | _ => ("", "", "", false)
def tyX1 : Nat → FieldType := fun k => match k with
  | _ => .int
theorem nmX1 : ∀ a, a < 0 → ∀ b, b < 0 → a ≠ b → (TX1 a).2.1 ≠ (TX1 b).2.1 := by decide +kernel
theorem tyX1_ok : ∀ k, k < 0 → parseFieldDescriptor (TX1 k).2.2.1 = some (tyX1 k) := by decide +kernel
abbrev cX1_init : ByteArray := prog_3_method_1_code
def yX1_init : MethodName := ⟨RX1, "<init>", "()V"⟩
abbrev cX1_brightness : ByteArray := prog_3_method_2_code
def yX1_brightness : MethodName := ⟨RX1, "brightness", "(LFireApologies$World;[II)I"⟩
abbrev cX1_hisses : ByteArray := prog_3_method_3_code
def yX1_hisses : MethodName := ⟨RX1, "hisses", "(LFireApologies$Acting;I)I"⟩
abbrev cX1_climbs : ByteArray := prog_3_method_4_code
def yX1_climbs : MethodName := ⟨RX1, "climbs", "(LFireApologies$Acting;I)I"⟩
def RX2 : String := "FireApologies$Fountain"
def TX2 : u_T := fun k => match k with
  | _ => ("", "", "", false)
def tyX2 : Nat → FieldType := fun k => match k with
  | _ => .int
theorem nmX2 : ∀ a, a < 0 → ∀ b, b < 0 → a ≠ b → (TX2 a).2.1 ≠ (TX2 b).2.1 := by decide +kernel
theorem tyX2_ok : ∀ k, k < 0 → parseFieldDescriptor (TX2 k).2.2.1 = some (tyX2 k) := by decide +kernel
abbrev cX2_init : ByteArray := prog_4_method_1_code
def yX2_init : MethodName := ⟨RX2, "<init>", "()V"⟩
abbrev cX2_brightness : ByteArray := prog_4_method_2_code
def yX2_brightness : MethodName := ⟨RX2, "brightness", "(LFireApologies$World;[II)I"⟩
abbrev cX2_climbs : ByteArray := prog_4_method_3_code
def yX2_climbs : MethodName := ⟨RX2, "climbs", "(LFireApologies$Acting;I)I"⟩
def RX3 : String := "FireApologies$Frame"
def TX3 : u_T := fun k => match k with
  | _ => ("", "", "", false)
def tyX3 : Nat → FieldType := fun k => match k with
  | _ => .int
theorem nmX3 : ∀ a, a < 0 → ∀ b, b < 0 → a ≠ b → (TX3 a).2.1 ≠ (TX3 b).2.1 := by decide +kernel
theorem tyX3_ok : ∀ k, k < 0 → parseFieldDescriptor (TX3 k).2.2.1 = some (tyX3 k) := by decide +kernel
abbrev cX3_init : ByteArray := prog_5_method_1_code
def yX3_init : MethodName := ⟨RX3, "<init>", "()V"⟩
abbrev cX3_brightness : ByteArray := prog_5_method_2_code
def yX3_brightness : MethodName := ⟨RX3, "brightness", "(LFireApologies$World;[II)I"⟩
abbrev cX3_tells : ByteArray := prog_5_method_3_code
def yX3_tells : MethodName := ⟨RX3, "tells", "(LFireApologies$Acting;I)I"⟩
def RX4 : String := "FireApologies$Reader"
def TX4 : u_T := fun k => match k with
  | 0 => ("FireApologies$Reader", "text", "[B", true)
  | 1 => ("FireApologies$Reader", "length", "I", false)
  | 2 => ("FireApologies$Reader", "steps", "[I", true)
  | 3 => ("FireApologies$Reader", "stepsEnd", "I", false)
  | 4 => ("FireApologies$Reader", "place", "I", false)
  | 5 => ("FireApologies$Reader", "number", "I", false)
  | _ => ("FireApologies$Reader", "dry", "I", false)
def tyX4 : Nat → FieldType := fun k => match k with
  | 0 => .array .byte
  | 1 => .int
  | 2 => .array .int
  | 3 => .int
  | 4 => .int
  | 5 => .int
  | _ => .int
theorem nmX4 : ∀ a, a < 7 → ∀ b, b < 7 → a ≠ b → (TX4 a).2.1 ≠ (TX4 b).2.1 := by decide +kernel
theorem tyX4_ok : ∀ k, k < 7 → parseFieldDescriptor (TX4 k).2.2.1 = some (tyX4 k) := by decide +kernel
abbrev cX4_init : ByteArray := prog_6_method_1_code
def yX4_init : MethodName := ⟨RX4, "<init>", "()V"⟩
abbrev cX4_findFault : ByteArray := prog_6_method_2_code
def yX4_findFault : MethodName := ⟨RX4, "findFault", "()I"⟩
abbrev cX4_makeShow : ByteArray := prog_6_method_3_code
def yX4_makeShow : MethodName := ⟨RX4, "makeShow", "()LFireApologies$Show;"⟩
abbrev cX4_takeClause : ByteArray := prog_6_method_4_code
def yX4_takeClause : MethodName := ⟨RX4, "takeClause", "()Z"⟩
abbrev cX4_takeEither : ByteArray := prog_6_method_5_code
def yX4_takeEither : MethodName := ⟨RX4, "takeEither", "(I)Z"⟩
abbrev cX4_takeFactor : ByteArray := prog_6_method_6_code
def yX4_takeFactor : MethodName := ⟨RX4, "takeFactor", "(I)Z"⟩
abbrev cX4_takeTest : ByteArray := prog_6_method_7_code
def yX4_takeTest : MethodName := ⟨RX4, "takeTest", "()Z"⟩
abbrev cX4_takeNumber : ByteArray := prog_6_method_8_code
def yX4_takeNumber : MethodName := ⟨RX4, "takeNumber", "()Z"⟩
abbrev cX4_takeAll : ByteArray := prog_6_method_9_code
def yX4_takeAll : MethodName := ⟨RX4, "takeAll", "(Ljava/lang/String;)Z"⟩
abbrev cX4_take : ByteArray := prog_6_method_10_code
def yX4_take : MethodName := ⟨RX4, "take", "(I)Z"⟩
abbrev cX4_next : ByteArray := prog_6_method_11_code
def yX4_next : MethodName := ⟨RX4, "next", "()I"⟩
abbrev cX4_addStep : ByteArray := prog_6_method_12_code
def yX4_addStep : MethodName := ⟨RX4, "addStep", "(III)V"⟩
def RX5 : String := "FireApologies$Rocket"
def TX5 : u_T := fun k => match k with
  | _ => ("", "", "", false)
def tyX5 : Nat → FieldType := fun k => match k with
  | _ => .int
theorem nmX5 : ∀ a, a < 0 → ∀ b, b < 0 → a ≠ b → (TX5 a).2.1 ≠ (TX5 b).2.1 := by decide +kernel
theorem tyX5_ok : ∀ k, k < 0 → parseFieldDescriptor (TX5 k).2.2.1 = some (tyX5 k) := by decide +kernel
abbrev cX5_init : ByteArray := prog_7_method_1_code
def yX5_init : MethodName := ⟨RX5, "<init>", "()V"⟩
abbrev cX5_brightness : ByteArray := prog_7_method_2_code
def yX5_brightness : MethodName := ⟨RX5, "brightness", "(LFireApologies$World;[II)I"⟩
abbrev cX5_hisses : ByteArray := prog_7_method_3_code
def yX5_hisses : MethodName := ⟨RX5, "hisses", "(LFireApologies$Acting;I)I"⟩
abbrev cX5_climbs : ByteArray := prog_7_method_4_code
def yX5_climbs : MethodName := ⟨RX5, "climbs", "(LFireApologies$Acting;I)I"⟩
abbrev cX5_tells : ByteArray := prog_7_method_5_code
def yX5_tells : MethodName := ⟨RX5, "tells", "(LFireApologies$Acting;I)I"⟩
def RX6 : String := "FireApologies$Show"
def TX6 : u_T := fun k => match k with
  | 0 => ("FireApologies$Show", "steps", "[I", true)
  | _ => ("FireApologies$Show", "dry", "I", true)
def tyX6 : Nat → FieldType := fun k => match k with
  | 0 => .array .int
  | _ => .int
theorem nmX6 : ∀ a, a < 2 → ∀ b, b < 2 → a ≠ b → (TX6 a).2.1 ≠ (TX6 b).2.1 := by decide +kernel
theorem tyX6_ok : ∀ k, k < 2 → parseFieldDescriptor (TX6 k).2.2.1 = some (tyX6 k) := by decide +kernel
abbrev cX6_init : ByteArray := prog_8_method_1_code
def yX6_init : MethodName := ⟨RX6, "<init>", "([II)V"⟩
abbrev cX6_brightens : ByteArray := prog_8_method_2_code
def yX6_brightens : MethodName := ⟨RX6, "brightens", "(I[II)I"⟩
abbrev cX6_operand : ByteArray := prog_8_method_3_code
def yX6_operand : MethodName := ⟨RX6, "operand", "(II[II)I"⟩
abbrev cX6_compares : ByteArray := prog_8_method_4_code
def yX6_compares : MethodName := ⟨RX6, "compares", "(III)Z"⟩
def RX7 : String := "FireApologies$Told"
def TX7 : u_T := fun k => match k with
  | _ => ("", "", "", false)
def tyX7 : Nat → FieldType := fun k => match k with
  | _ => .int
theorem nmX7 : ∀ a, a < 0 → ∀ b, b < 0 → a ≠ b → (TX7 a).2.1 ≠ (TX7 b).2.1 := by decide +kernel
theorem tyX7_ok : ∀ k, k < 0 → parseFieldDescriptor (TX7 k).2.2.1 = some (tyX7 k) := by decide +kernel
abbrev cX7_init : ByteArray := prog_9_method_1_code
def yX7_init : MethodName := ⟨RX7, "<init>", "()V"⟩
abbrev cX7_brightness : ByteArray := prog_9_method_2_code
def yX7_brightness : MethodName := ⟨RX7, "brightness", "(LFireApologies$World;[II)I"⟩
abbrev cX7_climbs : ByteArray := prog_9_method_3_code
def yX7_climbs : MethodName := ⟨RX7, "climbs", "(LFireApologies$Acting;I)I"⟩
abbrev cX7_hisses : ByteArray := prog_9_method_4_code
def yX7_hisses : MethodName := ⟨RX7, "hisses", "(LFireApologies$Acting;I)I"⟩
def RX8 : String := "FireApologies$Wheel"
def TX8 : u_T := fun k => match k with
  | _ => ("", "", "", false)
def tyX8 : Nat → FieldType := fun k => match k with
  | _ => .int
theorem nmX8 : ∀ a, a < 0 → ∀ b, b < 0 → a ≠ b → (TX8 a).2.1 ≠ (TX8 b).2.1 := by decide +kernel
theorem tyX8_ok : ∀ k, k < 0 → parseFieldDescriptor (TX8 k).2.2.1 = some (tyX8 k) := by decide +kernel
abbrev cX8_init : ByteArray := prog_10_method_1_code
def yX8_init : MethodName := ⟨RX8, "<init>", "()V"⟩
abbrev cX8_brightness : ByteArray := prog_10_method_2_code
def yX8_brightness : MethodName := ⟨RX8, "brightness", "(LFireApologies$World;[II)I"⟩
abbrev cX8_tells : ByteArray := prog_10_method_3_code
def yX8_tells : MethodName := ⟨RX8, "tells", "(LFireApologies$Acting;I)I"⟩
def RX9 : String := "FireApologies$Whistle"
def TX9 : u_T := fun k => match k with
  | _ => ("", "", "", false)
def tyX9 : Nat → FieldType := fun k => match k with
  | _ => .int
theorem nmX9 : ∀ a, a < 0 → ∀ b, b < 0 → a ≠ b → (TX9 a).2.1 ≠ (TX9 b).2.1 := by decide +kernel
theorem tyX9_ok : ∀ k, k < 0 → parseFieldDescriptor (TX9 k).2.2.1 = some (tyX9 k) := by decide +kernel
abbrev cX9_init : ByteArray := prog_11_method_1_code
def yX9_init : MethodName := ⟨RX9, "<init>", "()V"⟩
abbrev cX9_brightness : ByteArray := prog_11_method_2_code
def yX9_brightness : MethodName := ⟨RX9, "brightness", "(LFireApologies$World;[II)I"⟩
abbrev cX9_hisses : ByteArray := prog_11_method_3_code
def yX9_hisses : MethodName := ⟨RX9, "hisses", "(LFireApologies$Acting;I)I"⟩
def RX10 : String := "FireApologies$World"
def TX10 : u_T := fun k => match k with
  | 0 => ("FireApologies$World", "kinds", "[LFireApologies$Rocket;", true)
  | 1 => ("FireApologies$World", "rockets", "[[I", true)
  | 2 => ("FireApologies$World", "griefs", "[I", true)
  | 3 => ("FireApologies$World", "rains", "[I", true)
  | 4 => ("FireApologies$World", "markedRockets", "[I", true)
  | 5 => ("FireApologies$World", "markedMinutes", "[I", true)
  | 6 => ("FireApologies$World", "markedLights", "[I", true)
  | 7 => ("FireApologies$World", "plannedActs", "[I", true)
  | 8 => ("FireApologies$World", "plannedRockets", "[I", true)
  | 9 => ("FireApologies$World", "bookedRockets", "[I", true)
  | 10 => ("FireApologies$World", "bookedDamps", "[I", true)
  | 11 => ("FireApologies$World", "rocketCount", "I", false)
  | 12 => ("FireApologies$World", "markedCount", "I", false)
  | 13 => ("FireApologies$World", "plannedCount", "I", false)
  | 14 => ("FireApologies$World", "bookedCount", "I", false)
  | 15 => ("FireApologies$World", "minute", "I", false)
  | _ => ("FireApologies$World", "held", "LFireApologies$Show;", false)
def tyX10 : Nat → FieldType := fun k => match k with
  | 0 => .array (.object "FireApologies$Rocket")
  | 1 => .array (.array .int)
  | 2 => .array .int
  | 3 => .array .int
  | 4 => .array .int
  | 5 => .array .int
  | 6 => .array .int
  | 7 => .array .int
  | 8 => .array .int
  | 9 => .array .int
  | 10 => .array .int
  | 11 => .int
  | 12 => .int
  | 13 => .int
  | 14 => .int
  | 15 => .int
  | _ => .object "FireApologies$Show"
theorem nmX10 : ∀ a, a < 17 → ∀ b, b < 17 → a ≠ b → (TX10 a).2.1 ≠ (TX10 b).2.1 := by decide +kernel
theorem tyX10_ok : ∀ k, k < 17 → parseFieldDescriptor (TX10 k).2.2.1 = some (tyX10 k) := by decide +kernel
abbrev cX10_init : ByteArray := prog_12_method_1_code
def yX10_init : MethodName := ⟨RX10, "<init>", "([LFireApologies$Rocket;)V"⟩
abbrev cX10_goOnFrom : ByteArray := prog_12_method_2_code
def yX10_goOnFrom : MethodName := ⟨RX10, "goOnFrom", "(LFireApologies$World;)V"⟩
abbrev cX10_copyRowsOf : ByteArray := prog_12_method_3_code
def yX10_copyRowsOf : MethodName := ⟨RX10, "copyRowsOf", "(LFireApologies$World;)V"⟩
abbrev cX10_addRocket : ByteArray := prog_12_method_4_code
def yX10_addRocket : MethodName := ⟨RX10, "addRocket", "(IIII)I"⟩
abbrev cX10_has : ByteArray := prog_12_method_5_code
def yX10_has : MethodName := ⟨RX10, "has", "(I)Z"⟩
abbrev cX10_isUnlit : ByteArray := prog_12_method_6_code
def yX10_isUnlit : MethodName := ⟨RX10, "isUnlit", "(I)Z"⟩
abbrev cX10_rainNow : ByteArray := prog_12_method_7_code
def yX10_rainNow : MethodName := ⟨RX10, "rainNow", "()I"⟩
abbrev cX10_dryness : ByteArray := prog_12_method_8_code
def yX10_dryness : MethodName := ⟨RX10, "dryness", "()I"⟩
abbrev cX10_brightness : ByteArray := prog_12_method_9_code
def yX10_brightness : MethodName := ⟨RX10, "brightness", "(I)I"⟩
abbrev cX10_ignite : ByteArray := prog_12_method_10_code
def yX10_ignite : MethodName := ⟨RX10, "ignite", "(I)I"⟩
abbrev cX10_igniteAll : ByteArray := prog_12_method_11_code
def yX10_igniteAll : MethodName := ⟨RX10, "igniteAll", "(I)V"⟩
abbrev cX10_minutesGo : ByteArray := prog_12_method_12_code
def yX10_minutesGo : MethodName := ⟨RX10, "minutesGo", "(I)V"⟩
abbrev cX10_rocketsIn : ByteArray := prog_12_method_13_code
def yX10_rocketsIn : MethodName := ⟨RX10, "rocketsIn", "(I)I"⟩
abbrev cX10_evenPeople : ByteArray := prog_12_method_14_code
def yX10_evenPeople : MethodName := ⟨RX10, "evenPeople", "()I"⟩
abbrev cX10_griefOfAll : ByteArray := prog_12_method_15_code
def yX10_griefOfAll : MethodName := ⟨RX10, "griefOfAll", "()I"⟩
abbrev cX10_score : ByteArray := prog_12_method_16_code
def yX10_score : MethodName := ⟨RX10, "score", "()I"⟩
def RX11 : String := "FireApologies"
def TX11 : u_T := fun k => match k with
  | 0 => ("FireApologies", "now", "LFireApologies$World;", true)
  | 1 => ("FireApologies", "saved", "LFireApologies$World;", true)
  | 2 => ("FireApologies", "trial", "LFireApologies$World;", true)
  | 3 => ("FireApologies", "kinds", "[LFireApologies$Rocket;", true)
  | 4 => ("FireApologies", "reader", "LFireApologies$Reader;", true)
  | 5 => ("FireApologies", "acting", "LFireApologies$Acting;", true)
  | 6 => ("FireApologies", "order", "[I", true)
  | 7 => ("FireApologies", "tapeSorts", "[I", true)
  | 8 => ("FireApologies", "tapeLengths", "[I", true)
  | 9 => ("FireApologies", "tapeItems", "[[J", true)
  | 10 => ("FireApologies", "hasImage", "Z", false)
  | _ => ("FireApologies", "shows", "I", false)
def tyX11 : Nat → FieldType := fun k => match k with
  | 0 => .object "FireApologies$World"
  | 1 => .object "FireApologies$World"
  | 2 => .object "FireApologies$World"
  | 3 => .array (.object "FireApologies$Rocket")
  | 4 => .object "FireApologies$Reader"
  | 5 => .object "FireApologies$Acting"
  | 6 => .array .int
  | 7 => .array .int
  | 8 => .array .int
  | 9 => .array (.array .long)
  | 10 => .boolean
  | _ => .int
theorem nmX11 : ∀ a, a < 12 → ∀ b, b < 12 → a ≠ b → (TX11 a).2.1 ≠ (TX11 b).2.1 := by decide +kernel
theorem tyX11_ok : ∀ k, k < 12 → parseFieldDescriptor (TX11 k).2.2.1 = some (tyX11 k) := by decide +kernel
abbrev cX11_init : ByteArray := prog_1_method_1_code
def yX11_init : MethodName := ⟨RX11, "<init>", "()V"⟩
abbrev cX11_rocket : ByteArray := prog_1_method_2_code
def yX11_rocket : MethodName := ⟨RX11, "rocket", "(IIII)I"⟩
abbrev cX11_of : ByteArray := prog_1_method_3_code
def yX11_of : MethodName := ⟨RX11, "of", "(II)I"⟩
abbrev cX11_set : ByteArray := prog_1_method_4_code
def yX11_set : MethodName := ⟨RX11, "set", "(III)I"⟩
abbrev cX11_light : ByteArray := prog_1_method_5_code
def yX11_light : MethodName := ⟨RX11, "light", "(I)I"⟩
abbrev cX11_grieve : ByteArray := prog_1_method_6_code
def yX11_grieve : MethodName := ⟨RX11, "grieve", "(II)I"⟩
abbrev cX11_rain : ByteArray := prog_1_method_7_code
def yX11_rain : MethodName := ⟨RX11, "rain", "(II)I"⟩
abbrev cX11_row : ByteArray := prog_1_method_8_code
def yX11_row : MethodName := ⟨RX11, "row", "(III)I"⟩
abbrev cX11_feed : ByteArray := prog_1_method_9_code
def yX11_feed : MethodName := ⟨RX11, "feed", "(I)I"⟩
abbrev cX11_show : ByteArray := prog_1_method_10_code
def yX11_show : MethodName := ⟨RX11, "show", "()I"⟩
abbrev cX11_told : ByteArray := prog_1_method_11_code
def yX11_told : MethodName := ⟨RX11, "told", "(I)I"⟩
abbrev cX11_toldOfAll : ByteArray := prog_1_method_12_code
def yX11_toldOfAll : MethodName := ⟨RX11, "toldOfAll", "(I)I"⟩
abbrev cX11_pass : ByteArray := prog_1_method_13_code
def yX11_pass : MethodName := ⟨RX11, "pass", "(I)I"⟩
abbrev cX11_on : ByteArray := prog_1_method_14_code
def yX11_on : MethodName := ⟨RX11, "on", "(II)I"⟩
abbrev cX11_best : ByteArray := prog_1_method_15_code
def yX11_best : MethodName := ⟨RX11, "best", "(II)I"⟩
abbrev cX11_lightOn : ByteArray := prog_1_method_16_code
def yX11_lightOn : MethodName := ⟨RX11, "lightOn", "(II)I"⟩
abbrev cX11_brightestMinutes : ByteArray := prog_1_method_17_code
def yX11_brightestMinutes : MethodName := ⟨RX11, "brightestMinutes", "(I)I"⟩
abbrev cX11_bestRow : ByteArray := prog_1_method_18_code
def yX11_bestRow : MethodName := ⟨RX11, "bestRow", "(I)I"⟩
abbrev cX11_orderOf : ByteArray := prog_1_method_19_code
def yX11_orderOf : MethodName := ⟨RX11, "orderOf", "(II)V"⟩
abbrev cX11_canLightOrder : ByteArray := prog_1_method_20_code
def yX11_canLightOrder : MethodName := ⟨RX11, "canLightOrder", "(I)Z"⟩
abbrev cX11_tryOrder : ByteArray := prog_1_method_21_code
def yX11_tryOrder : MethodName := ⟨RX11, "tryOrder", "(I)V"⟩
abbrev cX11_enoughFor : ByteArray := prog_1_method_22_code
def yX11_enoughFor : MethodName := ⟨RX11, "enoughFor", "(I)I"⟩
abbrev cX11_giftTo : ByteArray := prog_1_method_23_code
def yX11_giftTo : MethodName := ⟨RX11, "giftTo", "(I)I"⟩
abbrev cX11_mark : ByteArray := prog_1_method_24_code
def yX11_mark : MethodName := ⟨RX11, "mark", "(III)I"⟩
abbrev cX11_wrong : ByteArray := prog_1_method_25_code
def yX11_wrong : MethodName := ⟨RX11, "wrong", "()I"⟩
abbrev cX11_can : ByteArray := prog_1_method_26_code
def yX11_can : MethodName := ⟨RX11, "can", "(II)I"⟩
abbrev cX11_odds : ByteArray := prog_1_method_27_code
def yX11_odds : MethodName := ⟨RX11, "odds", "(II)J"⟩
abbrev cX11_mean : ByteArray := prog_1_method_28_code
def yX11_mean : MethodName := ⟨RX11, "mean", "(I)J"⟩
abbrev cX11_fitting : ByteArray := prog_1_method_29_code
def yX11_fitting : MethodName := ⟨RX11, "fitting", "(III)I"⟩
abbrev cX11_areMarksSo : ByteArray := prog_1_method_30_code
def yX11_areMarksSo : MethodName := ⟨RX11, "areMarksSo", "(III)Z"⟩
abbrev cX11_isMarkSo : ByteArray := prog_1_method_31_code
def yX11_isMarkSo : MethodName := ⟨RX11, "isMarkSo", "(III)Z"⟩
abbrev cX11_inLowestTerms : ByteArray := prog_1_method_32_code
def yX11_inLowestTerms : MethodName := ⟨RX11, "inLowestTerms", "(III)J"⟩
abbrev cX11_plan : ByteArray := prog_1_method_33_code
def yX11_plan : MethodName := ⟨RX11, "plan", "(II)I"⟩
abbrev cX11_ends : ByteArray := prog_1_method_34_code
def yX11_ends : MethodName := ⟨RX11, "ends", "(I)I"⟩
abbrev cX11_tryPlanned : ByteArray := prog_1_method_35_code
def yX11_tryPlanned : MethodName := ⟨RX11, "tryPlanned", "(II)V"⟩
abbrev cX11_book : ByteArray := prog_1_method_36_code
def yX11_book : MethodName := ⟨RX11, "book", "(II)I"⟩
abbrev cX11_looked : ByteArray := prog_1_method_37_code
def yX11_looked : MethodName := ⟨RX11, "looked", "()I"⟩
abbrev cX11_judge : ByteArray := prog_1_method_38_code
def yX11_judge : MethodName := ⟨RX11, "judge", "(II)I"⟩
abbrev cX11_image : ByteArray := prog_1_method_39_code
def yX11_image : MethodName := ⟨RX11, "image", "()I"⟩
abbrev cX11_undo : ByteArray := prog_1_method_40_code
def yX11_undo : MethodName := ⟨RX11, "undo", "()I"⟩
abbrev cX11_act : ByteArray := prog_1_method_41_code
def yX11_act : MethodName := ⟨RX11, "act", "(III)I"⟩
abbrev cX11_trace : ByteArray := prog_1_method_42_code
def yX11_trace : MethodName := ⟨RX11, "trace", "(I)I"⟩
abbrev cX11_taken : ByteArray := prog_1_method_43_code
def yX11_taken : MethodName := ⟨RX11, "taken", "(II)I"⟩
abbrev cX11_count : ByteArray := prog_1_method_44_code
def yX11_count : MethodName := ⟨RX11, "count", "(I)I"⟩
abbrev cX11_tape : ByteArray := prog_1_method_45_code
def yX11_tape : MethodName := ⟨RX11, "tape", "(III)I"⟩
abbrev cX11_item : ByteArray := prog_1_method_46_code
def yX11_item : MethodName := ⟨RX11, "item", "(IIJ)I"⟩
abbrev cX11_read : ByteArray := prog_1_method_47_code
def yX11_read : MethodName := ⟨RX11, "read", "(II)J"⟩
abbrev cX11_shift : ByteArray := prog_1_method_48_code
def yX11_shift : MethodName := ⟨RX11, "shift", "(IIIII)I"⟩
abbrev cX11_hasItem : ByteArray := prog_1_method_49_code
def yX11_hasItem : MethodName := ⟨RX11, "hasItem", "(II)Z"⟩
abbrev cX11_hasItems : ByteArray := prog_1_method_50_code
def yX11_hasItems : MethodName := ⟨RX11, "hasItems", "(III)Z"⟩
abbrev cX11_lowestBits : ByteArray := prog_1_method_51_code
def yX11_lowestBits : MethodName := ⟨RX11, "lowestBits", "(IJ)J"⟩
abbrev cX11_within : ByteArray := prog_1_method_52_code
def yX11_within : MethodName := ⟨RX11, "within", "(II)Z"⟩
abbrev cX11_swap : ByteArray := prog_1_method_53_code
def yX11_swap : MethodName := ⟨RX11, "swap", "([III)I"⟩
def RX12 : String := "FireApologiesModel"
def TX12 : u_T := fun k => match k with
  | 0 => ("FireApologiesModel", "grief", "[I", true)
  | 1 => ("FireApologiesModel", "rains", "[I", true)
  | 2 => ("FireApologiesModel", "rockets", "I", false)
  | 3 => ("FireApologiesModel", "kind", "[I", true)
  | 4 => ("FireApologiesModel", "v", "[I", true)
  | 5 => ("FireApologiesModel", "size", "[I", true)
  | 6 => ("FireApologiesModel", "whom", "[I", true)
  | 7 => ("FireApologiesModel", "damp", "[I", true)
  | 8 => ("FireApologiesModel", "state", "[I", true)
  | 9 => ("FireApologiesModel", "rows", "[I", true)
  | 10 => ("FireApologiesModel", "minute", "I", false)
  | 11 => ("FireApologiesModel", "texted", "I", false)
  | 12 => ("FireApologiesModel", "text", "[I", true)
  | 13 => ("FireApologiesModel", "at", "I", false)
  | 14 => ("FireApologiesModel", "value", "I", false)
  | 15 => ("FireApologiesModel", "digits", "I", false)
  | 16 => ("FireApologiesModel", "open", "I", false)
  | 17 => ("FireApologiesModel", "shows", "I", false)
  | 18 => ("FireApologiesModel", "holds", "I", false)
  | 19 => ("FireApologiesModel", "clauses", "[I", true)
  | 20 => ("FireApologiesModel", "word", "[I", true)
  | 21 => ("FireApologiesModel", "number", "[I", true)
  | 22 => ("FireApologiesModel", "begins", "[I", true)
  | 23 => ("FireApologiesModel", "length", "[I", true)
  | 24 => ("FireApologiesModel", "code", "[I", true)
  | 25 => ("FireApologiesModel", "coded", "I", false)
  | 26 => ("FireApologiesModel", "stack", "[Z", true)
  | 27 => ("FireApologiesModel", "marked", "I", false)
  | 28 => ("FireApologiesModel", "markOf", "[I", true)
  | 29 => ("FireApologiesModel", "markIn", "[I", true)
  | 30 => ("FireApologiesModel", "markLight", "[I", true)
  | 31 => ("FireApologiesModel", "inPlan", "I", false)
  | 32 => ("FireApologiesModel", "goes", "[I", true)
  | 33 => ("FireApologiesModel", "whose", "[I", true)
  | 34 => ("FireApologiesModel", "inBook", "I", false)
  | 35 => ("FireApologiesModel", "booked", "[I", true)
  | 36 => ("FireApologiesModel", "bookDamp", "[I", true)
  | 37 => ("FireApologiesModel", "traced", "I", false)
  | 38 => ("FireApologiesModel", "traces", "[I", true)
  | 39 => ("FireApologiesModel", "imaged", "Z", false)
  | 40 => ("FireApologiesModel", "image", "[I", true)
  | 41 => ("FireApologiesModel", "ahead", "[I", true)
  | 42 => ("FireApologiesModel", "tried", "[I", true)
  | 43 => ("FireApologiesModel", "best", "[I", true)
  | 44 => ("FireApologiesModel", "bestEven", "I", false)
  | 45 => ("FireApologiesModel", "bestGrief", "I", false)
  | 46 => ("FireApologiesModel", "tapeSort", "[I", true)
  | 47 => ("FireApologiesModel", "tapeSize", "[I", true)
  | _ => ("FireApologiesModel", "items", "[J", true)
def tyX12 : Nat → FieldType := fun k => match k with
  | 0 => .array .int
  | 1 => .array .int
  | 2 => .int
  | 3 => .array .int
  | 4 => .array .int
  | 5 => .array .int
  | 6 => .array .int
  | 7 => .array .int
  | 8 => .array .int
  | 9 => .array .int
  | 10 => .int
  | 11 => .int
  | 12 => .array .int
  | 13 => .int
  | 14 => .int
  | 15 => .int
  | 16 => .int
  | 17 => .int
  | 18 => .int
  | 19 => .array .int
  | 20 => .array .int
  | 21 => .array .int
  | 22 => .array .int
  | 23 => .array .int
  | 24 => .array .int
  | 25 => .int
  | 26 => .array .boolean
  | 27 => .int
  | 28 => .array .int
  | 29 => .array .int
  | 30 => .array .int
  | 31 => .int
  | 32 => .array .int
  | 33 => .array .int
  | 34 => .int
  | 35 => .array .int
  | 36 => .array .int
  | 37 => .int
  | 38 => .array .int
  | 39 => .boolean
  | 40 => .array .int
  | 41 => .array .int
  | 42 => .array .int
  | 43 => .array .int
  | 44 => .int
  | 45 => .int
  | 46 => .array .int
  | 47 => .array .int
  | _ => .array .long
theorem nmX12 : ∀ a, a < 49 → ∀ b, b < 49 → a ≠ b → (TX12 a).2.1 ≠ (TX12 b).2.1 := by decide +kernel
theorem tyX12_ok : ∀ k, k < 49 → parseFieldDescriptor (TX12 k).2.2.1 = some (tyX12 k) := by decide +kernel
abbrev cX12_init : ByteArray := prog_14_method_1_code
def yX12_init : MethodName := ⟨RX12, "<init>", "()V"⟩
abbrev cX12_within : ByteArray := prog_14_method_2_code
def yX12_within : MethodName := ⟨RX12, "within", "(III)Z"⟩
abbrev cX12_isOne : ByteArray := prog_14_method_3_code
def yX12_isOne : MethodName := ⟨RX12, "isOne", "(I)Z"⟩
abbrev cX12_isPerson : ByteArray := prog_14_method_4_code
def yX12_isPerson : MethodName := ⟨RX12, "isPerson", "(I)Z"⟩
abbrev cX12_has : ByteArray := prog_14_method_5_code
def yX12_has : MethodName := ⟨RX12, "has", "(II)Z"⟩
abbrev cX12_rocket : ByteArray := prog_14_method_6_code
def yX12_rocket : MethodName := ⟨RX12, "rocket", "(IIII)I"⟩
abbrev cX12_of : ByteArray := prog_14_method_7_code
def yX12_of : MethodName := ⟨RX12, "of", "(II)I"⟩
abbrev cX12_set : ByteArray := prog_14_method_8_code
def yX12_set : MethodName := ⟨RX12, "set", "(III)I"⟩
abbrev cX12_light : ByteArray := prog_14_method_9_code
def yX12_light : MethodName := ⟨RX12, "light", "(I)I"⟩
abbrev cX12_grieve : ByteArray := prog_14_method_10_code
def yX12_grieve : MethodName := ⟨RX12, "grieve", "(II)I"⟩
abbrev cX12_rain : ByteArray := prog_14_method_11_code
def yX12_rain : MethodName := ⟨RX12, "rain", "(II)I"⟩
abbrev cX12_row : ByteArray := prog_14_method_12_code
def yX12_row : MethodName := ⟨RX12, "row", "(III)I"⟩
abbrev cX12_feed : ByteArray := prog_14_method_13_code
def yX12_feed : MethodName := ⟨RX12, "feed", "(I)I"⟩
abbrev cX12_is : ByteArray := prog_14_method_14_code
def yX12_is : MethodName := ⟨RX12, "is", "(I)Z"⟩
abbrev cX12_isDigit : ByteArray := prog_14_method_15_code
def yX12_isDigit : MethodName := ⟨RX12, "isDigit", "()Z"⟩
abbrev cX12_isNumber : ByteArray := prog_14_method_16_code
def yX12_isNumber : MethodName := ⟨RX12, "isNumber", "()Z"⟩
abbrev cX12_isAll : ByteArray := prog_14_method_17_code
def yX12_isAll : MethodName := ⟨RX12, "isAll", "(Ljava/lang/String;)Z"⟩
abbrev cX12_codes : ByteArray := prog_14_method_18_code
def yX12_codes : MethodName := ⟨RX12, "codes", "(I)Z"⟩
abbrev cX12_isTest : ByteArray := prog_14_method_19_code
def yX12_isTest : MethodName := ⟨RX12, "isTest", "()Z"⟩
abbrev cX12_isOpened : ByteArray := prog_14_method_20_code
def yX12_isOpened : MethodName := ⟨RX12, "isOpened", "(I)Z"⟩
abbrev cX12_isF : ByteArray := prog_14_method_21_code
def yX12_isF : MethodName := ⟨RX12, "isF", "()Z"⟩
abbrev cX12_isT : ByteArray := prog_14_method_22_code
def yX12_isT : MethodName := ⟨RX12, "isT", "()Z"⟩
abbrev cX12_isE : ByteArray := prog_14_method_23_code
def yX12_isE : MethodName := ⟨RX12, "isE", "()Z"⟩
abbrev cX12_isClause : ByteArray := prog_14_method_24_code
def yX12_isClause : MethodName := ⟨RX12, "isClause", "(I)Z"⟩
abbrev cX12_show : ByteArray := prog_14_method_25_code
def yX12_show : MethodName := ⟨RX12, "show", "()I"⟩
abbrev cX12_letterOf : ByteArray := prog_14_method_26_code
def yX12_letterOf : MethodName := ⟨RX12, "letterOf", "(II)I"⟩
abbrev cX12_isTrue : ByteArray := prog_14_method_27_code
def yX12_isTrue : MethodName := ⟨RX12, "isTrue", "(II)Z"⟩
abbrev cX12_sum : ByteArray := prog_14_method_28_code
def yX12_sum : MethodName := ⟨RX12, "sum", "(I)I"⟩
abbrev cX12_dryBy : ByteArray := prog_14_method_29_code
def yX12_dryBy : MethodName := ⟨RX12, "dryBy", "()I"⟩
abbrev cX12_areSo : ByteArray := prog_14_method_30_code
def yX12_areSo : MethodName := ⟨RX12, "areSo", "(I)I"⟩
abbrev cX12_lightOf : ByteArray := prog_14_method_31_code
def yX12_lightOf : MethodName := ⟨RX12, "lightOf", "(I)I"⟩
abbrev cX12_lights : ByteArray := prog_14_method_32_code
def yX12_lights : MethodName := ⟨RX12, "lights", "(I)V"⟩
abbrev cX12_lightsAll : ByteArray := prog_14_method_33_code
def yX12_lightsAll : MethodName := ⟨RX12, "lightsAll", "(I)V"⟩
abbrev cX12_goesMinute : ByteArray := prog_14_method_34_code
def yX12_goesMinute : MethodName := ⟨RX12, "goesMinute", "()V"⟩
abbrev cX12_even : ByteArray := prog_14_method_35_code
def yX12_even : MethodName := ⟨RX12, "even", "()I"⟩
abbrev cX12_allGrief : ByteArray := prog_14_method_36_code
def yX12_allGrief : MethodName := ⟨RX12, "allGrief", "()I"⟩
abbrev cX12_told : ByteArray := prog_14_method_37_code
def yX12_told : MethodName := ⟨RX12, "told", "(I)I"⟩
abbrev cX12_pass : ByteArray := prog_14_method_38_code
def yX12_pass : MethodName := ⟨RX12, "pass", "(I)I"⟩
abbrev cX12_on : ByteArray := prog_14_method_39_code
def yX12_on : MethodName := ⟨RX12, "on", "(II)I"⟩
abbrev cX12_brightest : ByteArray := prog_14_method_40_code
def yX12_brightest : MethodName := ⟨RX12, "brightest", "(II)I"⟩
abbrev cX12_tries : ByteArray := prog_14_method_41_code
def yX12_tries : MethodName := ⟨RX12, "tries", "(II)V"⟩
abbrev cX12_best : ByteArray := prog_14_method_42_code
def yX12_best : MethodName := ⟨RX12, "best", "(II)I"⟩
abbrev cX12_enough : ByteArray := prog_14_method_43_code
def yX12_enough : MethodName := ⟨RX12, "enough", "(I)I"⟩
abbrev cX12_gift : ByteArray := prog_14_method_44_code
def yX12_gift : MethodName := ⟨RX12, "gift", "(I)I"⟩
abbrev cX12_mark : ByteArray := prog_14_method_45_code
def yX12_mark : MethodName := ⟨RX12, "mark", "(III)I"⟩
abbrev cX12_isMarked : ByteArray := prog_14_method_46_code
def yX12_isMarked : MethodName := ⟨RX12, "isMarked", "(I)Z"⟩
abbrev cX12_areMarked : ByteArray := prog_14_method_47_code
def yX12_areMarked : MethodName := ⟨RX12, "areMarked", "(I)Z"⟩
abbrev cX12_sizes : ByteArray := prog_14_method_48_code
def yX12_sizes : MethodName := ⟨RX12, "sizes", "(I)I"⟩
abbrev cX12_wrong : ByteArray := prog_14_method_49_code
def yX12_wrong : MethodName := ⟨RX12, "wrong", "()I"⟩
abbrev cX12_can : ByteArray := prog_14_method_50_code
def yX12_can : MethodName := ⟨RX12, "can", "(II)I"⟩
abbrev cX12_part : ByteArray := prog_14_method_51_code
def yX12_part : MethodName := ⟨RX12, "part", "(JJI)J"⟩
abbrev cX12_odds : ByteArray := prog_14_method_52_code
def yX12_odds : MethodName := ⟨RX12, "odds", "(II)J"⟩
abbrev cX12_mean : ByteArray := prog_14_method_53_code
def yX12_mean : MethodName := ⟨RX12, "mean", "(I)J"⟩
abbrev cX12_plan : ByteArray := prog_14_method_54_code
def yX12_plan : MethodName := ⟨RX12, "plan", "(II)I"⟩
abbrev cX12_ends : ByteArray := prog_14_method_55_code
def yX12_ends : MethodName := ⟨RX12, "ends", "(I)I"⟩
abbrev cX12_book : ByteArray := prog_14_method_56_code
def yX12_book : MethodName := ⟨RX12, "book", "(II)I"⟩
abbrev cX12_looked : ByteArray := prog_14_method_57_code
def yX12_looked : MethodName := ⟨RX12, "looked", "()I"⟩
abbrev cX12_judge : ByteArray := prog_14_method_58_code
def yX12_judge : MethodName := ⟨RX12, "judge", "(II)I"⟩
abbrev cX12_keep : ByteArray := prog_14_method_59_code
def yX12_keep : MethodName := ⟨RX12, "keep", "([I)V"⟩
abbrev cX12_again : ByteArray := prog_14_method_60_code
def yX12_again : MethodName := ⟨RX12, "again", "([I)V"⟩
abbrev cX12_image : ByteArray := prog_14_method_61_code
def yX12_image : MethodName := ⟨RX12, "image", "()I"⟩
abbrev cX12_undo : ByteArray := prog_14_method_62_code
def yX12_undo : MethodName := ⟨RX12, "undo", "()I"⟩
abbrev cX12_ran : ByteArray := prog_14_method_63_code
def yX12_ran : MethodName := ⟨RX12, "ran", "(I)V"⟩
abbrev cX12_above : ByteArray := prog_14_method_64_code
def yX12_above : MethodName := ⟨RX12, "above", "(I)I"⟩
abbrev cX12_hisses : ByteArray := prog_14_method_65_code
def yX12_hisses : MethodName := ⟨RX12, "hisses", "(III)I"⟩
abbrev cX12_climbs : ByteArray := prog_14_method_66_code
def yX12_climbs : MethodName := ⟨RX12, "climbs", "(III)I"⟩
abbrev cX12_tells : ByteArray := prog_14_method_67_code
def yX12_tells : MethodName := ⟨RX12, "tells", "(III)I"⟩
abbrev cX12_act : ByteArray := prog_14_method_68_code
def yX12_act : MethodName := ⟨RX12, "act", "(III)I"⟩
abbrev cX12_trace : ByteArray := prog_14_method_69_code
def yX12_trace : MethodName := ⟨RX12, "trace", "(I)I"⟩
abbrev cX12_taken : ByteArray := prog_14_method_70_code
def yX12_taken : MethodName := ⟨RX12, "taken", "(II)I"⟩
abbrev cX12_count : ByteArray := prog_14_method_71_code
def yX12_count : MethodName := ⟨RX12, "count", "(I)I"⟩
abbrev cX12_isTape : ByteArray := prog_14_method_72_code
def yX12_isTape : MethodName := ⟨RX12, "isTape", "(I)Z"⟩
abbrev cX12_tape : ByteArray := prog_14_method_73_code
def yX12_tape : MethodName := ⟨RX12, "tape", "(III)I"⟩
abbrev cX12_kept : ByteArray := prog_14_method_74_code
def yX12_kept : MethodName := ⟨RX12, "kept", "(IJ)J"⟩
abbrev cX12_item : ByteArray := prog_14_method_75_code
def yX12_item : MethodName := ⟨RX12, "item", "(IIJ)I"⟩
abbrev cX12_read : ByteArray := prog_14_method_76_code
def yX12_read : MethodName := ⟨RX12, "read", "(II)J"⟩
abbrev cX12_shift : ByteArray := prog_14_method_77_code
def yX12_shift : MethodName := ⟨RX12, "shift", "(IIIII)I"⟩
def RJx145de : String := "java/io/Serializable"
def TJx145de : u_T := fun k => match k with
  | _ => ("", "", "", false)
def tyJx145de : Nat → FieldType := fun k => match k with
  | _ => .int
theorem nmJx145de : ∀ a, a < 0 → ∀ b, b < 0 → a ≠ b → (TJx145de a).2.1 ≠ (TJx145de b).2.1 := by decide +kernel
theorem tyJx145de_ok : ∀ k, k < 0 → parseFieldDescriptor (TJx145de k).2.2.1 = some (tyJx145de k) := by decide +kernel
def RJx9f9b0 : String := "java/lang/CharSequence"
def TJx9f9b0 : u_T := fun k => match k with
  | _ => ("", "", "", false)
def tyJx9f9b0 : Nat → FieldType := fun k => match k with
  | _ => .int
theorem nmJx9f9b0 : ∀ a, a < 0 → ∀ b, b < 0 → a ≠ b → (TJx9f9b0 a).2.1 ≠ (TJx9f9b0 b).2.1 := by decide +kernel
theorem tyJx9f9b0_ok : ∀ k, k < 0 → parseFieldDescriptor (TJx9f9b0 k).2.2.1 = some (tyJx9f9b0 k) := by decide +kernel
def RJ11 : String := "java/lang/Character"
def TJ11 : u_T := fun k => match k with
  | _ => ("", "", "", false)
def tyJ11 : Nat → FieldType := fun k => match k with
  | _ => .int
theorem nmJ11 : ∀ a, a < 0 → ∀ b, b < 0 → a ≠ b → (TJ11 a).2.1 ≠ (TJ11 b).2.1 := by decide +kernel
theorem tyJ11_ok : ∀ k, k < 0 → parseFieldDescriptor (TJ11 k).2.2.1 = some (tyJ11 k) := by decide +kernel
abbrev cJ11_isValidCodePoint_9a6ad : ByteArray := prog_15_method_11_code
def yJ11_isValidCodePoint_9a6ad : MethodName := ⟨RJ11, "isValidCodePoint", "(I)Z"⟩
abbrev cJ11_highSurrogate_5068e : ByteArray := prog_15_method_28_code
def yJ11_highSurrogate_5068e : MethodName := ⟨RJ11, "highSurrogate", "(I)C"⟩
abbrev cJ11_lowSurrogate_5068e : ByteArray := prog_15_method_29_code
def yJ11_lowSurrogate_5068e : MethodName := ⟨RJ11, "lowSurrogate", "(I)C"⟩
def RJx8e188 : String := "java/lang/Cloneable"
def TJx8e188 : u_T := fun k => match k with
  | _ => ("", "", "", false)
def tyJx8e188 : Nat → FieldType := fun k => match k with
  | _ => .int
theorem nmJx8e188 : ∀ a, a < 0 → ∀ b, b < 0 → a ≠ b → (TJx8e188 a).2.1 ≠ (TJx8e188 b).2.1 := by decide +kernel
theorem tyJx8e188_ok : ∀ k, k < 0 → parseFieldDescriptor (TJx8e188 k).2.2.1 = some (tyJx8e188 k) := by decide +kernel
def RJxb160c : String := "java/lang/Comparable"
def TJxb160c : u_T := fun k => match k with
  | _ => ("", "", "", false)
def tyJxb160c : Nat → FieldType := fun k => match k with
  | _ => .int
theorem nmJxb160c : ∀ a, a < 0 → ∀ b, b < 0 → a ≠ b → (TJxb160c a).2.1 ≠ (TJxb160c b).2.1 := by decide +kernel
theorem tyJxb160c_ok : ∀ k, k < 0 → parseFieldDescriptor (TJxb160c k).2.2.1 = some (tyJxb160c k) := by decide +kernel
def RJ6 : String := "java/lang/Integer"
def TJ6 : u_T := fun k => match k with
  | _ => ("", "", "", false)
def tyJ6 : Nat → FieldType := fun k => match k with
  | _ => .int
theorem nmJ6 : ∀ a, a < 0 → ∀ b, b < 0 → a ≠ b → (TJ6 a).2.1 ≠ (TJ6 b).2.1 := by decide +kernel
theorem tyJ6_ok : ∀ k, k < 0 → parseFieldDescriptor (TJ6 k).2.2.1 = some (tyJ6 k) := by decide +kernel
abbrev cJ6_numberOfTrailingZeros_0f7a4 : ByteArray := prog_17_method_48_code
def yJ6_numberOfTrailingZeros_0f7a4 : MethodName := ⟨RJ6, "numberOfTrailingZeros", "(I)I"⟩
abbrev cJ6_bitCount_0f7a4 : ByteArray := prog_17_method_49_code
def yJ6_bitCount_0f7a4 : MethodName := ⟨RJ6, "bitCount", "(I)I"⟩
def RJ9 : String := "java/lang/Math"
def TJ9 : u_T := fun k => match k with
  | _ => ("", "", "", false)
def tyJ9 : Nat → FieldType := fun k => match k with
  | _ => .int
theorem nmJ9 : ∀ a, a < 0 → ∀ b, b < 0 → a ≠ b → (TJ9 a).2.1 ≠ (TJ9 b).2.1 := by decide +kernel
theorem tyJ9_ok : ∀ k, k < 0 → parseFieldDescriptor (TJ9 k).2.2.1 = some (tyJ9 k) := by decide +kernel
abbrev cJ9_floorDiv_7cf53 : ByteArray := prog_18_method_47_code
def yJ9_floorDiv_7cf53 : MethodName := ⟨RJ9, "floorDiv", "(II)I"⟩
abbrev cJ9_floorMod_7cf53 : ByteArray := prog_18_method_50_code
def yJ9_floorMod_7cf53 : MethodName := ⟨RJ9, "floorMod", "(II)I"⟩
abbrev cJ9_max_7cf53 : ByteArray := prog_18_method_65_code
def yJ9_max_7cf53 : MethodName := ⟨RJ9, "max", "(II)I"⟩
abbrev cJ9_min_7cf53 : ByteArray := prog_18_method_69_code
def yJ9_min_7cf53 : MethodName := ⟨RJ9, "min", "(II)I"⟩
def RJ0 : String := "java/lang/String"
def TJ0 : u_T := fun k => match k with
  | _ => ("", "", "", false)
def tyJ0 : Nat → FieldType := fun k => match k with
  | _ => .int
theorem nmJ0 : ∀ a, a < 0 → ∀ b, b < 0 → a ≠ b → (TJ0 a).2.1 ≠ (TJ0 b).2.1 := by decide +kernel
theorem tyJ0_ok : ∀ k, k < 0 → parseFieldDescriptor (TJ0 k).2.2.1 = some (tyJ0 k) := by decide +kernel
abbrev cJ0_length_8abf5 : ByteArray := prog_19_method_54_code
def yJ0_length_8abf5 : MethodName := ⟨RJ0, "length", "()I"⟩
abbrev cJ0_charAt_5068e : ByteArray := prog_19_method_56_code
def yJ0_charAt_5068e : MethodName := ⟨RJ0, "charAt", "(I)C"⟩
abbrev cJ0_indexOf_0f7a4 : ByteArray := prog_19_method_79_code
def yJ0_indexOf_0f7a4 : MethodName := ⟨RJ0, "indexOf", "(I)I"⟩
abbrev cJ0_indexOf_7cf53 : ByteArray := prog_19_method_80_code
def yJ0_indexOf_7cf53 : MethodName := ⟨RJ0, "indexOf", "(II)I"⟩
abbrev cJ0_coder_7d493 : ByteArray := prog_19_method_152_code
def yJ0_coder_7d493 : MethodName := ⟨RJ0, "coder", "()B"⟩
abbrev cJ0_isLatin1_aae02 : ByteArray := prog_19_method_154_code
def yJ0_isLatin1_aae02 : MethodName := ⟨RJ0, "isLatin1", "()Z"⟩
abbrev cJ0_checkIndex_df160 : ByteArray := prog_19_method_155_code
def yJ0_checkIndex_df160 : MethodName := ⟨RJ0, "checkIndex", "(II)V"⟩
abbrev cJ0_checkBoundsBeginEnd_23922 : ByteArray := prog_19_method_158_code
def yJ0_checkBoundsBeginEnd_23922 : MethodName := ⟨RJ0, "checkBoundsBeginEnd", "(III)V"⟩
def RJ1 : String := "java/lang/StringLatin1"
def TJ1 : u_T := fun k => match k with
  | _ => ("", "", "", false)
def tyJ1 : Nat → FieldType := fun k => match k with
  | _ => .int
theorem nmJ1 : ∀ a, a < 0 → ∀ b, b < 0 → a ≠ b → (TJ1 a).2.1 ≠ (TJ1 b).2.1 := by decide +kernel
theorem tyJ1_ok : ∀ k, k < 0 → parseFieldDescriptor (TJ1 k).2.2.1 = some (tyJ1 k) := by decide +kernel
abbrev cJ1_charAt_3b067 : ByteArray := prog_20_method_2_code
def yJ1_charAt_3b067 : MethodName := ⟨RJ1, "charAt", "([BI)C"⟩
abbrev cJ1_canEncode_9a6ad : ByteArray := prog_20_method_4_code
def yJ1_canEncode_9a6ad : MethodName := ⟨RJ1, "canEncode", "(I)Z"⟩
abbrev cJ1_indexOf_4cfef : ByteArray := prog_20_method_22_code
def yJ1_indexOf_4cfef : MethodName := ⟨RJ1, "indexOf", "([BIII)I"⟩
abbrev cJ1_indexOfChar_4cfef : ByteArray := prog_20_method_23_code
def yJ1_indexOfChar_4cfef : MethodName := ⟨RJ1, "indexOfChar", "([BIII)I"⟩
def RJ2 : String := "java/lang/StringUTF16"
def TJ2 : u_T := fun k => match k with
  | _ => ("", "", "", false)
def tyJ2 : Nat → FieldType := fun k => match k with
  | _ => .int
theorem nmJ2 : ∀ a, a < 0 → ∀ b, b < 0 → a ≠ b → (TJ2 a).2.1 ≠ (TJ2 b).2.1 := by decide +kernel
theorem tyJ2_ok : ∀ k, k < 0 → parseFieldDescriptor (TJ2 k).2.2.1 = some (tyJ2 k) := by decide +kernel
abbrev cJ2_getChar_3b067 : ByteArray := prog_21_method_5_code
def yJ2_getChar_3b067 : MethodName := ⟨RJ2, "getChar", "([BI)C"⟩
abbrev cJ2_length_9d52b : ByteArray := prog_21_method_6_code
def yJ2_length_9d52b : MethodName := ⟨RJ2, "length", "([B)I"⟩
abbrev cJ2_indexOf_4cfef : ByteArray := prog_21_method_40_code
def yJ2_indexOf_4cfef : MethodName := ⟨RJ2, "indexOf", "([BIII)I"⟩
abbrev cJ2_indexOfChar_4cfef : ByteArray := prog_21_method_47_code
def yJ2_indexOfChar_4cfef : MethodName := ⟨RJ2, "indexOfChar", "([BIII)I"⟩
abbrev cJ2_indexOfCharUnsafe_4cfef : ByteArray := prog_21_method_48_code
def yJ2_indexOfCharUnsafe_4cfef : MethodName := ⟨RJ2, "indexOfCharUnsafe", "([BIII)I"⟩
abbrev cJ2_indexOfSupplementary_4cfef : ByteArray := prog_21_method_49_code
def yJ2_indexOfSupplementary_4cfef : MethodName := ⟨RJ2, "indexOfSupplementary", "([BIII)I"⟩
abbrev cJ2_charAt_3b067 : ByteArray := prog_21_method_83_code
def yJ2_charAt_3b067 : MethodName := ⟨RJ2, "charAt", "([BI)C"⟩
abbrev cJ2_checkIndex_2214a : ByteArray := prog_21_method_91_code
def yJ2_checkIndex_2214a : MethodName := ⟨RJ2, "checkIndex", "(I[B)V"⟩
abbrev cJ2_checkBoundsBeginEnd_d044e : ByteArray := prog_21_method_93_code
def yJ2_checkBoundsBeginEnd_d044e : MethodName := ⟨RJ2, "checkBoundsBeginEnd", "(II[B)V"⟩
def RJ10 : String := "java/lang/System"
def TJ10 : u_T := fun k => match k with
  | _ => ("", "", "", false)
def tyJ10 : Nat → FieldType := fun k => match k with
  | _ => .int
theorem nmJ10 : ∀ a, a < 0 → ∀ b, b < 0 → a ≠ b → (TJ10 a).2.1 ≠ (TJ10 b).2.1 := by decide +kernel
theorem tyJ10_ok : ∀ k, k < 0 → parseFieldDescriptor (TJ10 k).2.2.1 = some (tyJ10 k) := by decide +kernel
def RJxfd54e : String := "java/lang/constant/Constable"
def TJxfd54e : u_T := fun k => match k with
  | _ => ("", "", "", false)
def tyJxfd54e : Nat → FieldType := fun k => match k with
  | _ => .int
theorem nmJxfd54e : ∀ a, a < 0 → ∀ b, b < 0 → a ≠ b → (TJxfd54e a).2.1 ≠ (TJxfd54e b).2.1 := by decide +kernel
theorem tyJxfd54e_ok : ∀ k, k < 0 → parseFieldDescriptor (TJxfd54e k).2.2.1 = some (tyJxfd54e k) := by decide +kernel
def RJx3cf43 : String := "java/lang/constant/ConstantDesc"
def TJx3cf43 : u_T := fun k => match k with
  | _ => ("", "", "", false)
def tyJx3cf43 : Nat → FieldType := fun k => match k with
  | _ => .int
theorem nmJx3cf43 : ∀ a, a < 0 → ∀ b, b < 0 → a ≠ b → (TJx3cf43 a).2.1 ≠ (TJx3cf43 b).2.1 := by decide +kernel
theorem tyJx3cf43_ok : ∀ k, k < 0 → parseFieldDescriptor (TJx3cf43 k).2.2.1 = some (tyJx3cf43 k) := by decide +kernel
def RJ7 : String := "java/util/Arrays"
def TJ7 : u_T := fun k => match k with
  | _ => ("", "", "", false)
def tyJ7 : Nat → FieldType := fun k => match k with
  | _ => .int
theorem nmJ7 : ∀ a, a < 0 → ∀ b, b < 0 → a ≠ b → (TJ7 a).2.1 ≠ (TJ7 b).2.1 := by decide +kernel
theorem tyJ7_ok : ∀ k, k < 0 → parseFieldDescriptor (TJ7 k).2.2.1 = some (tyJ7 k) := by decide +kernel
abbrev cJ7_fill_d0a16 : ByteArray := prog_23_method_101_code
def yJ7_fill_d0a16 : MethodName := ⟨RJ7, "fill", "([JJ)V"⟩
abbrev cJ7_fill_53178 : ByteArray := prog_23_method_103_code
def yJ7_fill_53178 : MethodName := ⟨RJ7, "fill", "([II)V"⟩
abbrev cJ7_copyOf_59c91 : ByteArray := prog_23_method_123_code
def yJ7_copyOf_59c91 : MethodName := ⟨RJ7, "copyOf", "([II)[I"⟩
def RJ3 : String := "jdk/internal/util/Preconditions"
def TJ3 : u_T := fun k => match k with
  | _ => ("", "", "", false)
def tyJ3 : Nat → FieldType := fun k => match k with
  | _ => .int
theorem nmJ3 : ∀ a, a < 0 → ∀ b, b < 0 → a ≠ b → (TJ3 a).2.1 ≠ (TJ3 b).2.1 := by decide +kernel
theorem tyJ3_ok : ∀ k, k < 0 → parseFieldDescriptor (TJ3 k).2.2.1 = some (tyJ3 k) := by decide +kernel
abbrev cJ3_checkIndex_8e157 : ByteArray := prog_24_method_11_code
def yJ3_checkIndex_8e157 : MethodName := ⟨RJ3, "checkIndex", "(IILjava/util/function/BiFunction;)I"⟩
abbrev cJ3_checkFromToIndex_8c36e : ByteArray := prog_24_method_12_code
def yJ3_checkFromToIndex_8c36e : MethodName := ⟨RJ3, "checkFromToIndex", "(IIILjava/util/function/BiFunction;)I"⟩
end
section
theorem dX12_init_0 : decode cX12_init 0 = .ok (.aload_n 0, 1) := by decide +kernel
theorem dX12_init_1 : decode cX12_init 1 = .ok (.invokespecial 3, 3) := by decide +kernel
theorem dX12_init_4 : decode cX12_init 4 = .ok (.aload_n 0, 1) := by decide +kernel
theorem dX12_init_5 : decode cX12_init 5 = .ok (.iconst 4, 1) := by decide +kernel
theorem dX12_init_6 : decode cX12_init 6 = .ok (.newarray .int, 2) := by decide +kernel
theorem dX12_init_8 : decode cX12_init 8 = .ok (.putfield 9, 3) := by decide +kernel
theorem dX12_init_11 : decode cX12_init 11 = .ok (.aload_n 0, 1) := by decide +kernel
theorem dX12_init_12 : decode cX12_init 12 = .ok (.iconst 4, 1) := by decide +kernel
theorem dX12_init_13 : decode cX12_init 13 = .ok (.newarray .int, 2) := by decide +kernel
theorem dX12_init_15 : decode cX12_init 15 = .ok (.putfield 15, 3) := by decide +kernel
theorem dX12_init_18 : decode cX12_init 18 = .ok (.aload_n 0, 1) := by decide +kernel
theorem dX12_init_19 : decode cX12_init 19 = .ok (.bipush 6, 2) := by decide +kernel
theorem dX12_init_21 : decode cX12_init 21 = .ok (.newarray .int, 2) := by decide +kernel
theorem dX12_init_23 : decode cX12_init 23 = .ok (.putfield 18, 3) := by decide +kernel
theorem dX12_init_26 : decode cX12_init 26 = .ok (.aload_n 0, 1) := by decide +kernel
theorem dX12_init_27 : decode cX12_init 27 = .ok (.bipush 6, 2) := by decide +kernel
theorem dX12_init_29 : decode cX12_init 29 = .ok (.newarray .int, 2) := by decide +kernel
theorem dX12_init_31 : decode cX12_init 31 = .ok (.putfield 21, 3) := by decide +kernel
theorem dX12_init_34 : decode cX12_init 34 = .ok (.aload_n 0, 1) := by decide +kernel
theorem dX12_init_35 : decode cX12_init 35 = .ok (.bipush 6, 2) := by decide +kernel
theorem dX12_init_37 : decode cX12_init 37 = .ok (.newarray .int, 2) := by decide +kernel
theorem dX12_init_39 : decode cX12_init 39 = .ok (.putfield 24, 3) := by decide +kernel
theorem dX12_init_42 : decode cX12_init 42 = .ok (.aload_n 0, 1) := by decide +kernel
theorem dX12_init_43 : decode cX12_init 43 = .ok (.bipush 6, 2) := by decide +kernel
theorem dX12_init_45 : decode cX12_init 45 = .ok (.newarray .int, 2) := by decide +kernel
theorem dX12_init_47 : decode cX12_init 47 = .ok (.putfield 27, 3) := by decide +kernel
theorem dX12_init_50 : decode cX12_init 50 = .ok (.aload_n 0, 1) := by decide +kernel
theorem dX12_init_51 : decode cX12_init 51 = .ok (.bipush 6, 2) := by decide +kernel
theorem dX12_init_53 : decode cX12_init 53 = .ok (.newarray .int, 2) := by decide +kernel
theorem dX12_init_55 : decode cX12_init 55 = .ok (.putfield 30, 3) := by decide +kernel
theorem dX12_init_58 : decode cX12_init 58 = .ok (.aload_n 0, 1) := by decide +kernel
theorem dX12_init_59 : decode cX12_init 59 = .ok (.bipush 6, 2) := by decide +kernel
theorem dX12_init_61 : decode cX12_init 61 = .ok (.newarray .int, 2) := by decide +kernel
theorem dX12_init_63 : decode cX12_init 63 = .ok (.putfield 33, 3) := by decide +kernel
theorem dX12_init_66 : decode cX12_init 66 = .ok (.aload_n 0, 1) := by decide +kernel
theorem dX12_init_67 : decode cX12_init 67 = .ok (.bipush 24, 2) := by decide +kernel
theorem dX12_init_69 : decode cX12_init 69 = .ok (.newarray .int, 2) := by decide +kernel
theorem dX12_init_71 : decode cX12_init 71 = .ok (.putfield 36, 3) := by decide +kernel
theorem dX12_init_74 : decode cX12_init 74 = .ok (.aload_n 0, 1) := by decide +kernel
theorem dX12_init_75 : decode cX12_init 75 = .ok (.bipush 100, 2) := by decide +kernel
theorem dX12_init_77 : decode cX12_init 77 = .ok (.newarray .int, 2) := by decide +kernel
theorem dX12_init_79 : decode cX12_init 79 = .ok (.putfield 39, 3) := by decide +kernel
theorem dX12_init_82 : decode cX12_init 82 = .ok (.aload_n 0, 1) := by decide +kernel
theorem dX12_init_83 : decode cX12_init 83 = .ok (.bipush 6, 2) := by decide +kernel
theorem dX12_init_85 : decode cX12_init 85 = .ok (.newarray .int, 2) := by decide +kernel
theorem dX12_init_87 : decode cX12_init 87 = .ok (.putfield 42, 3) := by decide +kernel
theorem dX12_init_90 : decode cX12_init 90 = .ok (.aload_n 0, 1) := by decide +kernel
theorem dX12_init_91 : decode cX12_init 91 = .ok (.bipush 61, 2) := by decide +kernel
theorem dX12_init_93 : decode cX12_init 93 = .ok (.newarray .int, 2) := by decide +kernel
theorem dX12_init_95 : decode cX12_init 95 = .ok (.putfield 45, 3) := by decide +kernel
theorem dX12_init_98 : decode cX12_init 98 = .ok (.aload_n 0, 1) := by decide +kernel
theorem dX12_init_99 : decode cX12_init 99 = .ok (.bipush 61, 2) := by decide +kernel
theorem dX12_init_101 : decode cX12_init 101 = .ok (.newarray .int, 2) := by decide +kernel
theorem dX12_init_103 : decode cX12_init 103 = .ok (.putfield 48, 3) := by decide +kernel
theorem dX12_init_106 : decode cX12_init 106 = .ok (.aload_n 0, 1) := by decide +kernel
theorem dX12_init_107 : decode cX12_init 107 = .ok (.bipush 61, 2) := by decide +kernel
theorem dX12_init_109 : decode cX12_init 109 = .ok (.newarray .int, 2) := by decide +kernel
theorem dX12_init_111 : decode cX12_init 111 = .ok (.putfield 51, 3) := by decide +kernel
theorem dX12_init_114 : decode cX12_init 114 = .ok (.aload_n 0, 1) := by decide +kernel
theorem dX12_init_115 : decode cX12_init 115 = .ok (.bipush 61, 2) := by decide +kernel
theorem dX12_init_117 : decode cX12_init 117 = .ok (.newarray .int, 2) := by decide +kernel
theorem dX12_init_119 : decode cX12_init 119 = .ok (.putfield 54, 3) := by decide +kernel
theorem dX12_init_122 : decode cX12_init 122 = .ok (.aload_n 0, 1) := by decide +kernel
theorem dX12_init_123 : decode cX12_init 123 = .ok (.sipush 800, 3) := by decide +kernel
theorem dX12_init_126 : decode cX12_init 126 = .ok (.newarray .int, 2) := by decide +kernel
theorem dX12_init_128 : decode cX12_init 128 = .ok (.putfield 57, 3) := by decide +kernel
theorem dX12_init_131 : decode cX12_init 131 = .ok (.aload_n 0, 1) := by decide +kernel
theorem dX12_init_132 : decode cX12_init 132 = .ok (.bipush 110, 2) := by decide +kernel
theorem dX12_init_134 : decode cX12_init 134 = .ok (.newarray .boolean, 2) := by decide +kernel
theorem dX12_init_136 : decode cX12_init 136 = .ok (.putfield 60, 3) := by decide +kernel
theorem dX12_init_139 : decode cX12_init 139 = .ok (.aload_n 0, 1) := by decide +kernel
theorem dX12_init_140 : decode cX12_init 140 = .ok (.iconst 5, 1) := by decide +kernel
theorem dX12_init_141 : decode cX12_init 141 = .ok (.newarray .int, 2) := by decide +kernel
theorem dX12_init_143 : decode cX12_init 143 = .ok (.putfield 64, 3) := by decide +kernel
theorem dX12_init_146 : decode cX12_init 146 = .ok (.aload_n 0, 1) := by decide +kernel
theorem dX12_init_147 : decode cX12_init 147 = .ok (.iconst 5, 1) := by decide +kernel
theorem dX12_init_148 : decode cX12_init 148 = .ok (.newarray .int, 2) := by decide +kernel
theorem dX12_init_150 : decode cX12_init 150 = .ok (.putfield 67, 3) := by decide +kernel
theorem dX12_init_153 : decode cX12_init 153 = .ok (.aload_n 0, 1) := by decide +kernel
theorem dX12_init_154 : decode cX12_init 154 = .ok (.iconst 5, 1) := by decide +kernel
theorem dX12_init_155 : decode cX12_init 155 = .ok (.newarray .int, 2) := by decide +kernel
theorem dX12_init_157 : decode cX12_init 157 = .ok (.putfield 70, 3) := by decide +kernel
theorem dX12_init_160 : decode cX12_init 160 = .ok (.aload_n 0, 1) := by decide +kernel
theorem dX12_init_161 : decode cX12_init 161 = .ok (.bipush 10, 2) := by decide +kernel
theorem dX12_init_163 : decode cX12_init 163 = .ok (.newarray .int, 2) := by decide +kernel
theorem dX12_init_165 : decode cX12_init 165 = .ok (.putfield 73, 3) := by decide +kernel
theorem dX12_init_168 : decode cX12_init 168 = .ok (.aload_n 0, 1) := by decide +kernel
theorem dX12_init_169 : decode cX12_init 169 = .ok (.bipush 10, 2) := by decide +kernel
theorem dX12_init_171 : decode cX12_init 171 = .ok (.newarray .int, 2) := by decide +kernel
theorem dX12_init_173 : decode cX12_init 173 = .ok (.putfield 76, 3) := by decide +kernel
theorem dX12_init_176 : decode cX12_init 176 = .ok (.aload_n 0, 1) := by decide +kernel
theorem dX12_init_177 : decode cX12_init 177 = .ok (.bipush 8, 2) := by decide +kernel
theorem dX12_init_179 : decode cX12_init 179 = .ok (.newarray .int, 2) := by decide +kernel
theorem dX12_init_181 : decode cX12_init 181 = .ok (.putfield 79, 3) := by decide +kernel
theorem dX12_init_184 : decode cX12_init 184 = .ok (.aload_n 0, 1) := by decide +kernel
theorem dX12_init_185 : decode cX12_init 185 = .ok (.bipush 8, 2) := by decide +kernel
theorem dX12_init_187 : decode cX12_init 187 = .ok (.newarray .int, 2) := by decide +kernel
theorem dX12_init_189 : decode cX12_init 189 = .ok (.putfield 82, 3) := by decide +kernel
theorem dX12_init_192 : decode cX12_init 192 = .ok (.aload_n 0, 1) := by decide +kernel
theorem dX12_init_193 : decode cX12_init 193 = .ok (.bipush 20, 2) := by decide +kernel
theorem dX12_init_195 : decode cX12_init 195 = .ok (.newarray .int, 2) := by decide +kernel
theorem dX12_init_197 : decode cX12_init 197 = .ok (.putfield 85, 3) := by decide +kernel
theorem dX12_init_200 : decode cX12_init 200 = .ok (.aload_n 0, 1) := by decide +kernel
theorem dX12_init_201 : decode cX12_init 201 = .ok (.bipush 125, 2) := by decide +kernel
theorem dX12_init_203 : decode cX12_init 203 = .ok (.newarray .int, 2) := by decide +kernel
theorem dX12_init_205 : decode cX12_init 205 = .ok (.putfield 88, 3) := by decide +kernel
theorem dX12_init_208 : decode cX12_init 208 = .ok (.aload_n 0, 1) := by decide +kernel
theorem dX12_init_209 : decode cX12_init 209 = .ok (.bipush 125, 2) := by decide +kernel
theorem dX12_init_211 : decode cX12_init 211 = .ok (.newarray .int, 2) := by decide +kernel
theorem dX12_init_213 : decode cX12_init 213 = .ok (.putfield 91, 3) := by decide +kernel
theorem dX12_init_216 : decode cX12_init 216 = .ok (.aload_n 0, 1) := by decide +kernel
theorem dX12_init_217 : decode cX12_init 217 = .ok (.iconst 3, 1) := by decide +kernel
theorem dX12_init_218 : decode cX12_init 218 = .ok (.newarray .int, 2) := by decide +kernel
theorem dX12_init_220 : decode cX12_init 220 = .ok (.putfield 94, 3) := by decide +kernel
theorem dX12_init_223 : decode cX12_init 223 = .ok (.aload_n 0, 1) := by decide +kernel
theorem dX12_init_224 : decode cX12_init 224 = .ok (.iconst 3, 1) := by decide +kernel
theorem dX12_init_225 : decode cX12_init 225 = .ok (.newarray .int, 2) := by decide +kernel
theorem dX12_init_227 : decode cX12_init 227 = .ok (.putfield 97, 3) := by decide +kernel
theorem dX12_init_230 : decode cX12_init 230 = .ok (.aload_n 0, 1) := by decide +kernel
theorem dX12_init_231 : decode cX12_init 231 = .ok (.bipush 6, 2) := by decide +kernel
theorem dX12_init_233 : decode cX12_init 233 = .ok (.newarray .int, 2) := by decide +kernel
theorem dX12_init_235 : decode cX12_init 235 = .ok (.putfield 100, 3) := by decide +kernel
theorem dX12_init_238 : decode cX12_init 238 = .ok (.aload_n 0, 1) := by decide +kernel
theorem dX12_init_239 : decode cX12_init 239 = .ok (.bipush 6, 2) := by decide +kernel
theorem dX12_init_241 : decode cX12_init 241 = .ok (.newarray .int, 2) := by decide +kernel
theorem dX12_init_243 : decode cX12_init 243 = .ok (.putfield 103, 3) := by decide +kernel
theorem dX12_init_246 : decode cX12_init 246 = .ok (.aload_n 0, 1) := by decide +kernel
theorem dX12_init_247 : decode cX12_init 247 = .ok (.sipush 360, 3) := by decide +kernel
theorem dX12_init_250 : decode cX12_init 250 = .ok (.newarray .long, 2) := by decide +kernel
theorem dX12_init_252 : decode cX12_init 252 = .ok (.putfield 106, 3) := by decide +kernel
theorem dX12_init_255 : decode cX12_init 255 = .ok (.aload_n 0, 1) := by decide +kernel
theorem dX12_init_256 : decode cX12_init 256 = .ok (.iconst (-1), 1) := by decide +kernel
theorem dX12_init_257 : decode cX12_init 257 = .ok (.putfield 110, 3) := by decide +kernel
theorem dX12_init_260 : decode cX12_init 260 = .ok (.iconst 0, 1) := by decide +kernel
theorem dX12_init_261 : decode cX12_init 261 = .ok (.istore_n 1, 1) := by decide +kernel
theorem dX12_init_262 : decode cX12_init 262 = .ok (.iload_n 1, 1) := by decide +kernel
theorem dX12_init_263 : decode cX12_init 263 = .ok (.bipush 6, 2) := by decide +kernel
theorem dX12_init_265 : decode cX12_init 265 = .ok (.if_icmp .ge 16, 3) := by decide +kernel
theorem dX12_init_268 : decode cX12_init 268 = .ok (.aload_n 0, 1) := by decide +kernel
theorem dX12_init_269 : decode cX12_init 269 = .ok (.getfield 100, 3) := by decide +kernel
theorem dX12_init_272 : decode cX12_init 272 = .ok (.iload_n 1, 1) := by decide +kernel
theorem dX12_init_273 : decode cX12_init 273 = .ok (.iconst (-1), 1) := by decide +kernel
theorem dX12_init_274 : decode cX12_init 274 = .ok (.iastore, 1) := by decide +kernel
theorem dX12_init_275 : decode cX12_init 275 = .ok (.iinc 1 1, 3) := by decide +kernel
theorem dX12_init_278 : decode cX12_init 278 = .ok (.goto (-16), 3) := by decide +kernel
theorem dX12_init_281 : decode cX12_init 281 = .ok (.return_, 1) := by decide +kernel
theorem dX12_within_0 : decode cX12_within 0 = .ok (.iload_n 0, 1) := by decide +kernel
theorem dX12_within_1 : decode cX12_within 1 = .ok (.iload_n 1, 1) := by decide +kernel
theorem dX12_within_2 : decode cX12_within 2 = .ok (.if_icmp .lt 12, 3) := by decide +kernel
theorem dX12_within_5 : decode cX12_within 5 = .ok (.iload_n 0, 1) := by decide +kernel
theorem dX12_within_6 : decode cX12_within 6 = .ok (.iload_n 2, 1) := by decide +kernel
theorem dX12_within_7 : decode cX12_within 7 = .ok (.if_icmp .gt 7, 3) := by decide +kernel
theorem dX12_within_10 : decode cX12_within 10 = .ok (.iconst 1, 1) := by decide +kernel
theorem dX12_within_11 : decode cX12_within 11 = .ok (.goto 4, 3) := by decide +kernel
theorem dX12_within_14 : decode cX12_within 14 = .ok (.iconst 0, 1) := by decide +kernel
theorem dX12_within_15 : decode cX12_within 15 = .ok (.ireturn, 1) := by decide +kernel
theorem dX12_isOne_0 : decode cX12_isOne 0 = .ok (.iload_n 1, 1) := by decide +kernel
theorem dX12_isOne_1 : decode cX12_isOne 1 = .ok (.iconst 0, 1) := by decide +kernel
theorem dX12_isOne_2 : decode cX12_isOne 2 = .ok (.aload_n 0, 1) := by decide +kernel
theorem dX12_isOne_3 : decode cX12_isOne 3 = .ok (.getfield 114, 3) := by decide +kernel
theorem dX12_isOne_6 : decode cX12_isOne 6 = .ok (.iconst 1, 1) := by decide +kernel
theorem dX12_isOne_7 : decode cX12_isOne 7 = .ok (.isub, 1) := by decide +kernel
theorem dX12_isOne_8 : decode cX12_isOne 8 = .ok (.invokestatic 117, 3) := by decide +kernel
theorem dX12_isOne_11 : decode cX12_isOne 11 = .ok (.ireturn, 1) := by decide +kernel
theorem dX12_isPerson_0 : decode cX12_isPerson 0 = .ok (.iload_n 0, 1) := by decide +kernel
theorem dX12_isPerson_1 : decode cX12_isPerson 1 = .ok (.iconst 0, 1) := by decide +kernel
theorem dX12_isPerson_2 : decode cX12_isPerson 2 = .ok (.iconst 3, 1) := by decide +kernel
theorem dX12_isPerson_3 : decode cX12_isPerson 3 = .ok (.invokestatic 117, 3) := by decide +kernel
theorem dX12_isPerson_6 : decode cX12_isPerson 6 = .ok (.ireturn, 1) := by decide +kernel
theorem dX12_has_0 : decode cX12_has 0 = .ok (.iload_n 0, 1) := by decide +kernel
theorem dX12_has_1 : decode cX12_has 1 = .ok (.iload_n 1, 1) := by decide +kernel
theorem dX12_has_2 : decode cX12_has 2 = .ok (.ishr, 1) := by decide +kernel
theorem dX12_has_3 : decode cX12_has 3 = .ok (.iconst 1, 1) := by decide +kernel
theorem dX12_has_4 : decode cX12_has 4 = .ok (.iand, 1) := by decide +kernel
theorem dX12_has_5 : decode cX12_has 5 = .ok (.iconst 1, 1) := by decide +kernel
theorem dX12_has_6 : decode cX12_has 6 = .ok (.if_icmp .ne 7, 3) := by decide +kernel
theorem dX12_has_9 : decode cX12_has 9 = .ok (.iconst 1, 1) := by decide +kernel
theorem dX12_has_10 : decode cX12_has 10 = .ok (.goto 4, 3) := by decide +kernel
theorem dX12_has_13 : decode cX12_has 13 = .ok (.iconst 0, 1) := by decide +kernel
theorem dX12_has_14 : decode cX12_has 14 = .ok (.ireturn, 1) := by decide +kernel
theorem dX12_rocket_0 : decode cX12_rocket 0 = .ok (.iload_n 1, 1) := by decide +kernel
theorem dX12_rocket_1 : decode cX12_rocket 1 = .ok (.iconst 0, 1) := by decide +kernel
theorem dX12_rocket_2 : decode cX12_rocket 2 = .ok (.bipush 6, 2) := by decide +kernel
theorem dX12_rocket_4 : decode cX12_rocket 4 = .ok (.invokestatic 117, 3) := by decide +kernel
theorem dX12_rocket_7 : decode cX12_rocket 7 = .ok (.ifCond .eq 11, 3) := by decide +kernel
theorem dX12_rocket_10 : decode cX12_rocket 10 = .ok (.iload 4, 2) := by decide +kernel
theorem dX12_rocket_12 : decode cX12_rocket 12 = .ok (.invokestatic 121, 3) := by decide +kernel
theorem dX12_rocket_15 : decode cX12_rocket 15 = .ok (.ifCond .ne 5, 3) := by decide +kernel
theorem dX12_rocket_18 : decode cX12_rocket 18 = .ok (.iconst (-1), 1) := by decide +kernel
theorem dX12_rocket_19 : decode cX12_rocket 19 = .ok (.ireturn, 1) := by decide +kernel
theorem dX12_rocket_20 : decode cX12_rocket 20 = .ok (.iload_n 2, 1) := by decide +kernel
theorem dX12_rocket_21 : decode cX12_rocket 21 = .ok (.iconst 0, 1) := by decide +kernel
theorem dX12_rocket_22 : decode cX12_rocket 22 = .ok (.bipush 9, 2) := by decide +kernel
theorem dX12_rocket_24 : decode cX12_rocket 24 = .ok (.invokestatic 117, 3) := by decide +kernel
theorem dX12_rocket_27 : decode cX12_rocket 27 = .ok (.ifCond .eq 13, 3) := by decide +kernel
theorem dX12_rocket_30 : decode cX12_rocket 30 = .ok (.iload_n 3, 1) := by decide +kernel
theorem dX12_rocket_31 : decode cX12_rocket 31 = .ok (.iconst 0, 1) := by decide +kernel
theorem dX12_rocket_32 : decode cX12_rocket 32 = .ok (.bipush 20, 2) := by decide +kernel
theorem dX12_rocket_34 : decode cX12_rocket 34 = .ok (.invokestatic 117, 3) := by decide +kernel
theorem dX12_rocket_37 : decode cX12_rocket 37 = .ok (.ifCond .ne 6, 3) := by decide +kernel
theorem dX12_rocket_40 : decode cX12_rocket 40 = .ok (.bipush (-2), 2) := by decide +kernel
theorem dX12_rocket_42 : decode cX12_rocket 42 = .ok (.ireturn, 1) := by decide +kernel
theorem dX12_rocket_43 : decode cX12_rocket 43 = .ok (.aload_n 0, 1) := by decide +kernel
theorem dX12_rocket_44 : decode cX12_rocket 44 = .ok (.getfield 114, 3) := by decide +kernel
theorem dX12_rocket_47 : decode cX12_rocket 47 = .ok (.bipush 6, 2) := by decide +kernel
theorem dX12_rocket_49 : decode cX12_rocket 49 = .ok (.if_icmp .ne 6, 3) := by decide +kernel
theorem dX12_rocket_52 : decode cX12_rocket 52 = .ok (.bipush (-4), 2) := by decide +kernel
theorem dX12_rocket_54 : decode cX12_rocket 54 = .ok (.ireturn, 1) := by decide +kernel
theorem dX12_rocket_55 : decode cX12_rocket 55 = .ok (.aload_n 0, 1) := by decide +kernel
theorem dX12_rocket_56 : decode cX12_rocket 56 = .ok (.getfield 18, 3) := by decide +kernel
theorem dX12_rocket_59 : decode cX12_rocket 59 = .ok (.aload_n 0, 1) := by decide +kernel
theorem dX12_rocket_60 : decode cX12_rocket 60 = .ok (.getfield 114, 3) := by decide +kernel
theorem dX12_rocket_63 : decode cX12_rocket 63 = .ok (.iload_n 1, 1) := by decide +kernel
theorem dX12_rocket_64 : decode cX12_rocket 64 = .ok (.iastore, 1) := by decide +kernel
theorem dX12_rocket_65 : decode cX12_rocket 65 = .ok (.aload_n 0, 1) := by decide +kernel
theorem dX12_rocket_66 : decode cX12_rocket 66 = .ok (.getfield 21, 3) := by decide +kernel
theorem dX12_rocket_69 : decode cX12_rocket 69 = .ok (.aload_n 0, 1) := by decide +kernel
theorem dX12_rocket_70 : decode cX12_rocket 70 = .ok (.getfield 114, 3) := by decide +kernel
theorem dX12_rocket_73 : decode cX12_rocket 73 = .ok (.iload_n 2, 1) := by decide +kernel
theorem dX12_rocket_74 : decode cX12_rocket 74 = .ok (.iastore, 1) := by decide +kernel
theorem dX12_rocket_75 : decode cX12_rocket 75 = .ok (.aload_n 0, 1) := by decide +kernel
theorem dX12_rocket_76 : decode cX12_rocket 76 = .ok (.getfield 24, 3) := by decide +kernel
theorem dX12_rocket_79 : decode cX12_rocket 79 = .ok (.aload_n 0, 1) := by decide +kernel
theorem dX12_rocket_80 : decode cX12_rocket 80 = .ok (.getfield 114, 3) := by decide +kernel
theorem dX12_rocket_83 : decode cX12_rocket 83 = .ok (.iload_n 3, 1) := by decide +kernel
theorem dX12_rocket_84 : decode cX12_rocket 84 = .ok (.iastore, 1) := by decide +kernel
theorem dX12_rocket_85 : decode cX12_rocket 85 = .ok (.aload_n 0, 1) := by decide +kernel
theorem dX12_rocket_86 : decode cX12_rocket 86 = .ok (.getfield 27, 3) := by decide +kernel
theorem dX12_rocket_89 : decode cX12_rocket 89 = .ok (.aload_n 0, 1) := by decide +kernel
theorem dX12_rocket_90 : decode cX12_rocket 90 = .ok (.getfield 114, 3) := by decide +kernel
theorem dX12_rocket_93 : decode cX12_rocket 93 = .ok (.iload 4, 2) := by decide +kernel
theorem dX12_rocket_95 : decode cX12_rocket 95 = .ok (.iastore, 1) := by decide +kernel
theorem dX12_rocket_96 : decode cX12_rocket 96 = .ok (.aload_n 0, 1) := by decide +kernel
theorem dX12_rocket_97 : decode cX12_rocket 97 = .ok (.getfield 30, 3) := by decide +kernel
theorem dX12_rocket_100 : decode cX12_rocket 100 = .ok (.aload_n 0, 1) := by decide +kernel
theorem dX12_rocket_101 : decode cX12_rocket 101 = .ok (.getfield 114, 3) := by decide +kernel
theorem dX12_rocket_104 : decode cX12_rocket 104 = .ok (.iconst 0, 1) := by decide +kernel
theorem dX12_rocket_105 : decode cX12_rocket 105 = .ok (.iastore, 1) := by decide +kernel
theorem dX12_rocket_106 : decode cX12_rocket 106 = .ok (.aload_n 0, 1) := by decide +kernel
theorem dX12_rocket_107 : decode cX12_rocket 107 = .ok (.getfield 33, 3) := by decide +kernel
theorem dX12_rocket_110 : decode cX12_rocket 110 = .ok (.aload_n 0, 1) := by decide +kernel
theorem dX12_rocket_111 : decode cX12_rocket 111 = .ok (.getfield 114, 3) := by decide +kernel
theorem dX12_rocket_114 : decode cX12_rocket 114 = .ok (.iconst 0, 1) := by decide +kernel
theorem dX12_rocket_115 : decode cX12_rocket 115 = .ok (.iastore, 1) := by decide +kernel
theorem dX12_rocket_116 : decode cX12_rocket 116 = .ok (.iconst 0, 1) := by decide +kernel
theorem dX12_rocket_117 : decode cX12_rocket 117 = .ok (.istore 5, 2) := by decide +kernel
theorem dX12_rocket_119 : decode cX12_rocket 119 = .ok (.iload 5, 2) := by decide +kernel
theorem dX12_rocket_121 : decode cX12_rocket 121 = .ok (.iconst 4, 1) := by decide +kernel
theorem dX12_rocket_122 : decode cX12_rocket 122 = .ok (.if_icmp .ge 24, 3) := by decide +kernel
theorem dX12_rocket_125 : decode cX12_rocket 125 = .ok (.aload_n 0, 1) := by decide +kernel
theorem dX12_rocket_126 : decode cX12_rocket 126 = .ok (.getfield 36, 3) := by decide +kernel
theorem dX12_rocket_129 : decode cX12_rocket 129 = .ok (.iconst 4, 1) := by decide +kernel
theorem dX12_rocket_130 : decode cX12_rocket 130 = .ok (.aload_n 0, 1) := by decide +kernel
theorem dX12_rocket_131 : decode cX12_rocket 131 = .ok (.getfield 114, 3) := by decide +kernel
theorem dX12_rocket_134 : decode cX12_rocket 134 = .ok (.imul, 1) := by decide +kernel
theorem dX12_rocket_135 : decode cX12_rocket 135 = .ok (.iload 5, 2) := by decide +kernel
theorem dX12_rocket_137 : decode cX12_rocket 137 = .ok (.iadd, 1) := by decide +kernel
theorem dX12_rocket_138 : decode cX12_rocket 138 = .ok (.iconst 0, 1) := by decide +kernel
theorem dX12_rocket_139 : decode cX12_rocket 139 = .ok (.iastore, 1) := by decide +kernel
theorem dX12_rocket_140 : decode cX12_rocket 140 = .ok (.iinc 5 1, 3) := by decide +kernel
theorem dX12_rocket_143 : decode cX12_rocket 143 = .ok (.goto (-24), 3) := by decide +kernel
theorem dX12_rocket_146 : decode cX12_rocket 146 = .ok (.aload_n 0, 1) := by decide +kernel
theorem dX12_rocket_147 : decode cX12_rocket 147 = .ok (.dup, 1) := by decide +kernel
theorem dX12_rocket_148 : decode cX12_rocket 148 = .ok (.getfield 114, 3) := by decide +kernel
theorem dX12_rocket_151 : decode cX12_rocket 151 = .ok (.dup_x1, 1) := by decide +kernel
theorem dX12_rocket_152 : decode cX12_rocket 152 = .ok (.iconst 1, 1) := by decide +kernel
theorem dX12_rocket_153 : decode cX12_rocket 153 = .ok (.iadd, 1) := by decide +kernel
theorem dX12_rocket_154 : decode cX12_rocket 154 = .ok (.putfield 114, 3) := by decide +kernel
theorem dX12_rocket_157 : decode cX12_rocket 157 = .ok (.ireturn, 1) := by decide +kernel
theorem dX12_of_0 : decode cX12_of 0 = .ok (.aload_n 0, 1) := by decide +kernel
theorem dX12_of_1 : decode cX12_of 1 = .ok (.iload_n 1, 1) := by decide +kernel
theorem dX12_of_2 : decode cX12_of 2 = .ok (.invokevirtual 125, 3) := by decide +kernel
theorem dX12_of_5 : decode cX12_of 5 = .ok (.ifCond .ne 7, 3) := by decide +kernel
theorem dX12_of_8 : decode cX12_of 8 = .ok (.sipush (-10001), 3) := by decide +kernel
theorem dX12_of_11 : decode cX12_of 11 = .ok (.ireturn, 1) := by decide +kernel
theorem dX12_of_12 : decode cX12_of 12 = .ok (.iload_n 2, 1) := by decide +kernel
theorem dX12_of_13 : decode cX12_of 13 = .ok (.tableswitch 133 0 10 #[59, 66, 73, 80, 87, 94, 101, 107, 114, 121, 127], 59) := by decide +kernel
theorem dX12_of_72 : decode cX12_of 72 = .ok (.aload_n 0, 1) := by decide +kernel
theorem dX12_of_73 : decode cX12_of 73 = .ok (.getfield 18, 3) := by decide +kernel
theorem dX12_of_76 : decode cX12_of 76 = .ok (.iload_n 1, 1) := by decide +kernel
theorem dX12_of_77 : decode cX12_of 77 = .ok (.iaload, 1) := by decide +kernel
theorem dX12_of_78 : decode cX12_of 78 = .ok (.ireturn, 1) := by decide +kernel
theorem dX12_of_79 : decode cX12_of 79 = .ok (.aload_n 0, 1) := by decide +kernel
theorem dX12_of_80 : decode cX12_of 80 = .ok (.getfield 21, 3) := by decide +kernel
theorem dX12_of_83 : decode cX12_of 83 = .ok (.iload_n 1, 1) := by decide +kernel
theorem dX12_of_84 : decode cX12_of 84 = .ok (.iaload, 1) := by decide +kernel
theorem dX12_of_85 : decode cX12_of 85 = .ok (.ireturn, 1) := by decide +kernel
theorem dX12_of_86 : decode cX12_of 86 = .ok (.aload_n 0, 1) := by decide +kernel
theorem dX12_of_87 : decode cX12_of 87 = .ok (.getfield 24, 3) := by decide +kernel
theorem dX12_of_90 : decode cX12_of 90 = .ok (.iload_n 1, 1) := by decide +kernel
theorem dX12_of_91 : decode cX12_of 91 = .ok (.iaload, 1) := by decide +kernel
theorem dX12_of_92 : decode cX12_of 92 = .ok (.ireturn, 1) := by decide +kernel
theorem dX12_of_93 : decode cX12_of 93 = .ok (.aload_n 0, 1) := by decide +kernel
theorem dX12_of_94 : decode cX12_of 94 = .ok (.getfield 27, 3) := by decide +kernel
theorem dX12_of_97 : decode cX12_of 97 = .ok (.iload_n 1, 1) := by decide +kernel
theorem dX12_of_98 : decode cX12_of 98 = .ok (.iaload, 1) := by decide +kernel
theorem dX12_of_99 : decode cX12_of 99 = .ok (.ireturn, 1) := by decide +kernel
theorem dX12_of_100 : decode cX12_of 100 = .ok (.aload_n 0, 1) := by decide +kernel
theorem dX12_of_101 : decode cX12_of 101 = .ok (.getfield 30, 3) := by decide +kernel
theorem dX12_of_104 : decode cX12_of 104 = .ok (.iload_n 1, 1) := by decide +kernel
theorem dX12_of_105 : decode cX12_of 105 = .ok (.iaload, 1) := by decide +kernel
theorem dX12_of_106 : decode cX12_of 106 = .ok (.ireturn, 1) := by decide +kernel
theorem dX12_of_107 : decode cX12_of 107 = .ok (.aload_n 0, 1) := by decide +kernel
theorem dX12_of_108 : decode cX12_of 108 = .ok (.getfield 33, 3) := by decide +kernel
theorem dX12_of_111 : decode cX12_of 111 = .ok (.iload_n 1, 1) := by decide +kernel
theorem dX12_of_112 : decode cX12_of 112 = .ok (.iaload, 1) := by decide +kernel
theorem dX12_of_113 : decode cX12_of 113 = .ok (.ireturn, 1) := by decide +kernel
theorem dX12_of_114 : decode cX12_of 114 = .ok (.aload_n 0, 1) := by decide +kernel
theorem dX12_of_115 : decode cX12_of 115 = .ok (.iload_n 1, 1) := by decide +kernel
theorem dX12_of_116 : decode cX12_of 116 = .ok (.invokevirtual 128, 3) := by decide +kernel
theorem dX12_of_119 : decode cX12_of 119 = .ok (.ireturn, 1) := by decide +kernel
theorem dX12_of_120 : decode cX12_of 120 = .ok (.aload_n 0, 1) := by decide +kernel
theorem dX12_of_121 : decode cX12_of 121 = .ok (.iload_n 1, 1) := by decide +kernel
theorem dX12_of_122 : decode cX12_of 122 = .ok (.iconst 0, 1) := by decide +kernel
theorem dX12_of_123 : decode cX12_of 123 = .ok (.invokevirtual 132, 3) := by decide +kernel
theorem dX12_of_126 : decode cX12_of 126 = .ok (.ireturn, 1) := by decide +kernel
theorem dX12_of_127 : decode cX12_of 127 = .ok (.aload_n 0, 1) := by decide +kernel
theorem dX12_of_128 : decode cX12_of 128 = .ok (.iload_n 1, 1) := by decide +kernel
theorem dX12_of_129 : decode cX12_of 129 = .ok (.iconst 1, 1) := by decide +kernel
theorem dX12_of_130 : decode cX12_of 130 = .ok (.invokevirtual 132, 3) := by decide +kernel
theorem dX12_of_133 : decode cX12_of 133 = .ok (.ireturn, 1) := by decide +kernel
theorem dX12_of_134 : decode cX12_of 134 = .ok (.aload_n 0, 1) := by decide +kernel
theorem dX12_of_135 : decode cX12_of 135 = .ok (.iload_n 1, 1) := by decide +kernel
theorem dX12_of_136 : decode cX12_of 136 = .ok (.invokevirtual 136, 3) := by decide +kernel
theorem dX12_of_139 : decode cX12_of 139 = .ok (.ireturn, 1) := by decide +kernel
theorem dX12_of_140 : decode cX12_of 140 = .ok (.aload_n 0, 1) := by decide +kernel
theorem dX12_of_141 : decode cX12_of 141 = .ok (.iload_n 1, 1) := by decide +kernel
theorem dX12_of_142 : decode cX12_of 142 = .ok (.invokevirtual 139, 3) := by decide +kernel
theorem dX12_of_145 : decode cX12_of 145 = .ok (.ireturn, 1) := by decide +kernel
theorem dX12_of_146 : decode cX12_of 146 = .ok (.sipush (-10001), 3) := by decide +kernel
theorem dX12_of_149 : decode cX12_of 149 = .ok (.ireturn, 1) := by decide +kernel
theorem dX12_set_0 : decode cX12_set 0 = .ok (.aload_n 0, 1) := by decide +kernel
theorem dX12_set_1 : decode cX12_set 1 = .ok (.iload_n 1, 1) := by decide +kernel
theorem dX12_set_2 : decode cX12_set 2 = .ok (.invokevirtual 125, 3) := by decide +kernel
theorem dX12_set_5 : decode cX12_set 5 = .ok (.ifCond .eq 12, 3) := by decide +kernel
theorem dX12_set_8 : decode cX12_set 8 = .ok (.iload_n 2, 1) := by decide +kernel
theorem dX12_set_9 : decode cX12_set 9 = .ok (.iconst 0, 1) := by decide +kernel
theorem dX12_set_10 : decode cX12_set 10 = .ok (.iconst 2, 1) := by decide +kernel
theorem dX12_set_11 : decode cX12_set 11 = .ok (.invokestatic 117, 3) := by decide +kernel
theorem dX12_set_14 : decode cX12_set 14 = .ok (.ifCond .ne 5, 3) := by decide +kernel
theorem dX12_set_17 : decode cX12_set 17 = .ok (.iconst (-1), 1) := by decide +kernel
theorem dX12_set_18 : decode cX12_set 18 = .ok (.ireturn, 1) := by decide +kernel
theorem dX12_set_19 : decode cX12_set 19 = .ok (.iload_n 3, 1) := by decide +kernel
theorem dX12_set_20 : decode cX12_set 20 = .ok (.iconst 0, 1) := by decide +kernel
theorem dX12_set_21 : decode cX12_set 21 = .ok (.iload_n 2, 1) := by decide +kernel
theorem dX12_set_22 : decode cX12_set 22 = .ok (.ifCond .ne 8, 3) := by decide +kernel
theorem dX12_set_25 : decode cX12_set 25 = .ok (.bipush 20, 2) := by decide +kernel
theorem dX12_set_27 : decode cX12_set 27 = .ok (.goto 14, 3) := by decide +kernel
theorem dX12_set_30 : decode cX12_set 30 = .ok (.iload_n 2, 1) := by decide +kernel
theorem dX12_set_31 : decode cX12_set 31 = .ok (.iconst 1, 1) := by decide +kernel
theorem dX12_set_32 : decode cX12_set 32 = .ok (.if_icmp .ne 8, 3) := by decide +kernel
theorem dX12_set_35 : decode cX12_set 35 = .ok (.bipush 99, 2) := by decide +kernel
theorem dX12_set_37 : decode cX12_set 37 = .ok (.goto 4, 3) := by decide +kernel
theorem dX12_set_40 : decode cX12_set 40 = .ok (.iconst 3, 1) := by decide +kernel
theorem dX12_set_41 : decode cX12_set 41 = .ok (.invokestatic 117, 3) := by decide +kernel
theorem dX12_set_44 : decode cX12_set 44 = .ok (.ifCond .ne 6, 3) := by decide +kernel
theorem dX12_set_47 : decode cX12_set 47 = .ok (.bipush (-2), 2) := by decide +kernel
theorem dX12_set_49 : decode cX12_set 49 = .ok (.ireturn, 1) := by decide +kernel
theorem dX12_set_50 : decode cX12_set 50 = .ok (.iload_n 2, 1) := by decide +kernel
theorem dX12_set_51 : decode cX12_set 51 = .ok (.ifCond .ne 12, 3) := by decide +kernel
theorem dX12_set_54 : decode cX12_set 54 = .ok (.aload_n 0, 1) := by decide +kernel
theorem dX12_set_55 : decode cX12_set 55 = .ok (.getfield 24, 3) := by decide +kernel
theorem dX12_set_58 : decode cX12_set 58 = .ok (.iload_n 1, 1) := by decide +kernel
theorem dX12_set_59 : decode cX12_set 59 = .ok (.iaload, 1) := by decide +kernel
theorem dX12_set_60 : decode cX12_set 60 = .ok (.goto 23, 3) := by decide +kernel
theorem dX12_set_63 : decode cX12_set 63 = .ok (.iload_n 2, 1) := by decide +kernel
theorem dX12_set_64 : decode cX12_set 64 = .ok (.iconst 1, 1) := by decide +kernel
theorem dX12_set_65 : decode cX12_set 65 = .ok (.if_icmp .ne 12, 3) := by decide +kernel
theorem dX12_set_68 : decode cX12_set 68 = .ok (.aload_n 0, 1) := by decide +kernel
theorem dX12_set_69 : decode cX12_set 69 = .ok (.getfield 30, 3) := by decide +kernel
theorem dX12_set_72 : decode cX12_set 72 = .ok (.iload_n 1, 1) := by decide +kernel
theorem dX12_set_73 : decode cX12_set 73 = .ok (.iaload, 1) := by decide +kernel
theorem dX12_set_74 : decode cX12_set 74 = .ok (.goto 9, 3) := by decide +kernel
theorem dX12_set_77 : decode cX12_set 77 = .ok (.aload_n 0, 1) := by decide +kernel
theorem dX12_set_78 : decode cX12_set 78 = .ok (.getfield 27, 3) := by decide +kernel
theorem dX12_set_81 : decode cX12_set 81 = .ok (.iload_n 1, 1) := by decide +kernel
theorem dX12_set_82 : decode cX12_set 82 = .ok (.iaload, 1) := by decide +kernel
theorem dX12_set_83 : decode cX12_set 83 = .ok (.istore 4, 2) := by decide +kernel
theorem dX12_set_85 : decode cX12_set 85 = .ok (.iload_n 2, 1) := by decide +kernel
theorem dX12_set_86 : decode cX12_set 86 = .ok (.ifCond .ne 13, 3) := by decide +kernel
theorem dX12_set_89 : decode cX12_set 89 = .ok (.aload_n 0, 1) := by decide +kernel
theorem dX12_set_90 : decode cX12_set 90 = .ok (.getfield 24, 3) := by decide +kernel
theorem dX12_set_93 : decode cX12_set 93 = .ok (.iload_n 1, 1) := by decide +kernel
theorem dX12_set_94 : decode cX12_set 94 = .ok (.iload_n 3, 1) := by decide +kernel
theorem dX12_set_95 : decode cX12_set 95 = .ok (.iastore, 1) := by decide +kernel
theorem dX12_set_96 : decode cX12_set 96 = .ok (.goto 25, 3) := by decide +kernel
theorem dX12_set_99 : decode cX12_set 99 = .ok (.iload_n 2, 1) := by decide +kernel
theorem dX12_set_100 : decode cX12_set 100 = .ok (.iconst 1, 1) := by decide +kernel
theorem dX12_set_101 : decode cX12_set 101 = .ok (.if_icmp .ne 13, 3) := by decide +kernel
theorem dX12_set_104 : decode cX12_set 104 = .ok (.aload_n 0, 1) := by decide +kernel
theorem dX12_set_105 : decode cX12_set 105 = .ok (.getfield 30, 3) := by decide +kernel
theorem dX12_set_108 : decode cX12_set 108 = .ok (.iload_n 1, 1) := by decide +kernel
theorem dX12_set_109 : decode cX12_set 109 = .ok (.iload_n 3, 1) := by decide +kernel
theorem dX12_set_110 : decode cX12_set 110 = .ok (.iastore, 1) := by decide +kernel
theorem dX12_set_111 : decode cX12_set 111 = .ok (.goto 10, 3) := by decide +kernel
theorem dX12_set_114 : decode cX12_set 114 = .ok (.aload_n 0, 1) := by decide +kernel
theorem dX12_set_115 : decode cX12_set 115 = .ok (.getfield 27, 3) := by decide +kernel
theorem dX12_set_118 : decode cX12_set 118 = .ok (.iload_n 1, 1) := by decide +kernel
theorem dX12_set_119 : decode cX12_set 119 = .ok (.iload_n 3, 1) := by decide +kernel
theorem dX12_set_120 : decode cX12_set 120 = .ok (.iastore, 1) := by decide +kernel
theorem dX12_set_121 : decode cX12_set 121 = .ok (.iload 4, 2) := by decide +kernel
theorem dX12_set_123 : decode cX12_set 123 = .ok (.ireturn, 1) := by decide +kernel
theorem dX12_light_0 : decode cX12_light 0 = .ok (.aload_n 0, 1) := by decide +kernel
theorem dX12_light_1 : decode cX12_light 1 = .ok (.iload_n 1, 1) := by decide +kernel
theorem dX12_light_2 : decode cX12_light 2 = .ok (.invokevirtual 125, 3) := by decide +kernel
theorem dX12_light_5 : decode cX12_light 5 = .ok (.ifCond .ne 5, 3) := by decide +kernel
theorem dX12_light_8 : decode cX12_light 8 = .ok (.iconst (-1), 1) := by decide +kernel
theorem dX12_light_9 : decode cX12_light 9 = .ok (.ireturn, 1) := by decide +kernel
theorem dX12_light_10 : decode cX12_light 10 = .ok (.aload_n 0, 1) := by decide +kernel
theorem dX12_light_11 : decode cX12_light 11 = .ok (.getfield 33, 3) := by decide +kernel
theorem dX12_light_14 : decode cX12_light 14 = .ok (.iload_n 1, 1) := by decide +kernel
theorem dX12_light_15 : decode cX12_light 15 = .ok (.iaload, 1) := by decide +kernel
theorem dX12_light_16 : decode cX12_light 16 = .ok (.ifCond .eq 6, 3) := by decide +kernel
theorem dX12_light_19 : decode cX12_light 19 = .ok (.bipush (-3), 2) := by decide +kernel
theorem dX12_light_21 : decode cX12_light 21 = .ok (.ireturn, 1) := by decide +kernel
theorem dX12_light_22 : decode cX12_light 22 = .ok (.aload_n 0, 1) := by decide +kernel
theorem dX12_light_23 : decode cX12_light 23 = .ok (.iload_n 1, 1) := by decide +kernel
theorem dX12_light_24 : decode cX12_light 24 = .ok (.invokevirtual 142, 3) := by decide +kernel
theorem dX12_light_27 : decode cX12_light 27 = .ok (.aload_n 0, 1) := by decide +kernel
theorem dX12_light_28 : decode cX12_light 28 = .ok (.getfield 33, 3) := by decide +kernel
theorem dX12_light_31 : decode cX12_light 31 = .ok (.iload_n 1, 1) := by decide +kernel
theorem dX12_light_32 : decode cX12_light 32 = .ok (.iaload, 1) := by decide +kernel
theorem dX12_light_33 : decode cX12_light 33 = .ok (.ireturn, 1) := by decide +kernel
theorem dX12_grieve_0 : decode cX12_grieve 0 = .ok (.iload_n 1, 1) := by decide +kernel
theorem dX12_grieve_1 : decode cX12_grieve 1 = .ok (.invokestatic 121, 3) := by decide +kernel
theorem dX12_grieve_4 : decode cX12_grieve 4 = .ok (.ifCond .ne 5, 3) := by decide +kernel
theorem dX12_grieve_7 : decode cX12_grieve 7 = .ok (.iconst (-1), 1) := by decide +kernel
theorem dX12_grieve_8 : decode cX12_grieve 8 = .ok (.ireturn, 1) := by decide +kernel
theorem dX12_grieve_9 : decode cX12_grieve 9 = .ok (.iload_n 2, 1) := by decide +kernel
theorem dX12_grieve_10 : decode cX12_grieve 10 = .ok (.iconst 0, 1) := by decide +kernel
theorem dX12_grieve_11 : decode cX12_grieve 11 = .ok (.sipush 999, 3) := by decide +kernel
theorem dX12_grieve_14 : decode cX12_grieve 14 = .ok (.invokestatic 117, 3) := by decide +kernel
theorem dX12_grieve_17 : decode cX12_grieve 17 = .ok (.ifCond .ne 6, 3) := by decide +kernel
theorem dX12_grieve_20 : decode cX12_grieve 20 = .ok (.bipush (-2), 2) := by decide +kernel
theorem dX12_grieve_22 : decode cX12_grieve 22 = .ok (.ireturn, 1) := by decide +kernel
theorem dX12_grieve_23 : decode cX12_grieve 23 = .ok (.aload_n 0, 1) := by decide +kernel
theorem dX12_grieve_24 : decode cX12_grieve 24 = .ok (.getfield 9, 3) := by decide +kernel
theorem dX12_grieve_27 : decode cX12_grieve 27 = .ok (.iload_n 1, 1) := by decide +kernel
theorem dX12_grieve_28 : decode cX12_grieve 28 = .ok (.iaload, 1) := by decide +kernel
theorem dX12_grieve_29 : decode cX12_grieve 29 = .ok (.istore_n 3, 1) := by decide +kernel
theorem dX12_grieve_30 : decode cX12_grieve 30 = .ok (.aload_n 0, 1) := by decide +kernel
theorem dX12_grieve_31 : decode cX12_grieve 31 = .ok (.getfield 9, 3) := by decide +kernel
theorem dX12_grieve_34 : decode cX12_grieve 34 = .ok (.iload_n 1, 1) := by decide +kernel
theorem dX12_grieve_35 : decode cX12_grieve 35 = .ok (.iload_n 2, 1) := by decide +kernel
theorem dX12_grieve_36 : decode cX12_grieve 36 = .ok (.iastore, 1) := by decide +kernel
theorem dX12_grieve_37 : decode cX12_grieve 37 = .ok (.iload_n 3, 1) := by decide +kernel
theorem dX12_grieve_38 : decode cX12_grieve 38 = .ok (.ireturn, 1) := by decide +kernel
theorem dX12_rain_0 : decode cX12_rain 0 = .ok (.iload_n 1, 1) := by decide +kernel
theorem dX12_rain_1 : decode cX12_rain 1 = .ok (.iconst 0, 1) := by decide +kernel
theorem dX12_rain_2 : decode cX12_rain 2 = .ok (.iconst 3, 1) := by decide +kernel
theorem dX12_rain_3 : decode cX12_rain 3 = .ok (.invokestatic 117, 3) := by decide +kernel
theorem dX12_rain_6 : decode cX12_rain 6 = .ok (.ifCond .ne 5, 3) := by decide +kernel
theorem dX12_rain_9 : decode cX12_rain 9 = .ok (.iconst (-1), 1) := by decide +kernel
theorem dX12_rain_10 : decode cX12_rain 10 = .ok (.ireturn, 1) := by decide +kernel
theorem dX12_rain_11 : decode cX12_rain 11 = .ok (.iload_n 2, 1) := by decide +kernel
theorem dX12_rain_12 : decode cX12_rain 12 = .ok (.iconst 0, 1) := by decide +kernel
theorem dX12_rain_13 : decode cX12_rain 13 = .ok (.bipush 9, 2) := by decide +kernel
theorem dX12_rain_15 : decode cX12_rain 15 = .ok (.invokestatic 117, 3) := by decide +kernel
theorem dX12_rain_18 : decode cX12_rain 18 = .ok (.ifCond .ne 6, 3) := by decide +kernel
theorem dX12_rain_21 : decode cX12_rain 21 = .ok (.bipush (-2), 2) := by decide +kernel
theorem dX12_rain_23 : decode cX12_rain 23 = .ok (.ireturn, 1) := by decide +kernel
theorem dX12_rain_24 : decode cX12_rain 24 = .ok (.aload_n 0, 1) := by decide +kernel
theorem dX12_rain_25 : decode cX12_rain 25 = .ok (.getfield 15, 3) := by decide +kernel
theorem dX12_rain_28 : decode cX12_rain 28 = .ok (.iload_n 1, 1) := by decide +kernel
theorem dX12_rain_29 : decode cX12_rain 29 = .ok (.iaload, 1) := by decide +kernel
theorem dX12_rain_30 : decode cX12_rain 30 = .ok (.istore_n 3, 1) := by decide +kernel
theorem dX12_rain_31 : decode cX12_rain 31 = .ok (.aload_n 0, 1) := by decide +kernel
theorem dX12_rain_32 : decode cX12_rain 32 = .ok (.getfield 15, 3) := by decide +kernel
theorem dX12_rain_35 : decode cX12_rain 35 = .ok (.iload_n 1, 1) := by decide +kernel
theorem dX12_rain_36 : decode cX12_rain 36 = .ok (.iload_n 2, 1) := by decide +kernel
theorem dX12_rain_37 : decode cX12_rain 37 = .ok (.iastore, 1) := by decide +kernel
theorem dX12_rain_38 : decode cX12_rain 38 = .ok (.iload_n 3, 1) := by decide +kernel
theorem dX12_rain_39 : decode cX12_rain 39 = .ok (.ireturn, 1) := by decide +kernel
theorem dX12_row_0 : decode cX12_row 0 = .ok (.aload_n 0, 1) := by decide +kernel
theorem dX12_row_1 : decode cX12_row 1 = .ok (.iload_n 1, 1) := by decide +kernel
theorem dX12_row_2 : decode cX12_row 2 = .ok (.invokevirtual 125, 3) := by decide +kernel
theorem dX12_row_5 : decode cX12_row 5 = .ok (.ifCond .eq 12, 3) := by decide +kernel
theorem dX12_row_8 : decode cX12_row 8 = .ok (.iload_n 2, 1) := by decide +kernel
theorem dX12_row_9 : decode cX12_row 9 = .ok (.iconst 0, 1) := by decide +kernel
theorem dX12_row_10 : decode cX12_row 10 = .ok (.iconst 3, 1) := by decide +kernel
theorem dX12_row_11 : decode cX12_row 11 = .ok (.invokestatic 117, 3) := by decide +kernel
theorem dX12_row_14 : decode cX12_row 14 = .ok (.ifCond .ne 5, 3) := by decide +kernel
theorem dX12_row_17 : decode cX12_row 17 = .ok (.iconst (-1), 1) := by decide +kernel
theorem dX12_row_18 : decode cX12_row 18 = .ok (.ireturn, 1) := by decide +kernel
theorem dX12_row_19 : decode cX12_row 19 = .ok (.iload_n 3, 1) := by decide +kernel
theorem dX12_row_20 : decode cX12_row 20 = .ok (.iconst 0, 1) := by decide +kernel
theorem dX12_row_21 : decode cX12_row 21 = .ok (.bipush 9, 2) := by decide +kernel
theorem dX12_row_23 : decode cX12_row 23 = .ok (.invokestatic 117, 3) := by decide +kernel
theorem dX12_row_26 : decode cX12_row 26 = .ok (.ifCond .ne 6, 3) := by decide +kernel
theorem dX12_row_29 : decode cX12_row 29 = .ok (.bipush (-2), 2) := by decide +kernel
theorem dX12_row_31 : decode cX12_row 31 = .ok (.ireturn, 1) := by decide +kernel
theorem dX12_row_32 : decode cX12_row 32 = .ok (.aload_n 0, 1) := by decide +kernel
theorem dX12_row_33 : decode cX12_row 33 = .ok (.getfield 18, 3) := by decide +kernel
theorem dX12_row_36 : decode cX12_row 36 = .ok (.iload_n 1, 1) := by decide +kernel
theorem dX12_row_37 : decode cX12_row 37 = .ok (.iaload, 1) := by decide +kernel
theorem dX12_row_38 : decode cX12_row 38 = .ok (.bipush 6, 2) := by decide +kernel
theorem dX12_row_40 : decode cX12_row 40 = .ok (.if_icmp .eq 6, 3) := by decide +kernel
theorem dX12_row_43 : decode cX12_row 43 = .ok (.bipush (-3), 2) := by decide +kernel
theorem dX12_row_45 : decode cX12_row 45 = .ok (.ireturn, 1) := by decide +kernel
theorem dX12_row_46 : decode cX12_row 46 = .ok (.aload_n 0, 1) := by decide +kernel
theorem dX12_row_47 : decode cX12_row 47 = .ok (.getfield 36, 3) := by decide +kernel
theorem dX12_row_50 : decode cX12_row 50 = .ok (.iconst 4, 1) := by decide +kernel
theorem dX12_row_51 : decode cX12_row 51 = .ok (.iload_n 1, 1) := by decide +kernel
theorem dX12_row_52 : decode cX12_row 52 = .ok (.imul, 1) := by decide +kernel
theorem dX12_row_53 : decode cX12_row 53 = .ok (.iload_n 2, 1) := by decide +kernel
theorem dX12_row_54 : decode cX12_row 54 = .ok (.iadd, 1) := by decide +kernel
theorem dX12_row_55 : decode cX12_row 55 = .ok (.iaload, 1) := by decide +kernel
theorem dX12_row_56 : decode cX12_row 56 = .ok (.istore 4, 2) := by decide +kernel
theorem dX12_row_58 : decode cX12_row 58 = .ok (.aload_n 0, 1) := by decide +kernel
theorem dX12_row_59 : decode cX12_row 59 = .ok (.getfield 36, 3) := by decide +kernel
theorem dX12_row_62 : decode cX12_row 62 = .ok (.iconst 4, 1) := by decide +kernel
theorem dX12_row_63 : decode cX12_row 63 = .ok (.iload_n 1, 1) := by decide +kernel
theorem dX12_row_64 : decode cX12_row 64 = .ok (.imul, 1) := by decide +kernel
theorem dX12_row_65 : decode cX12_row 65 = .ok (.iload_n 2, 1) := by decide +kernel
theorem dX12_row_66 : decode cX12_row 66 = .ok (.iadd, 1) := by decide +kernel
theorem dX12_row_67 : decode cX12_row 67 = .ok (.iload_n 3, 1) := by decide +kernel
theorem dX12_row_68 : decode cX12_row 68 = .ok (.iastore, 1) := by decide +kernel
theorem dX12_row_69 : decode cX12_row 69 = .ok (.iload 4, 2) := by decide +kernel
theorem dX12_row_71 : decode cX12_row 71 = .ok (.ireturn, 1) := by decide +kernel
theorem dX12_feed_0 : decode cX12_feed 0 = .ok (.iload_n 1, 1) := by decide +kernel
theorem dX12_feed_1 : decode cX12_feed 1 = .ok (.iconst 0, 1) := by decide +kernel
theorem dX12_feed_2 : decode cX12_feed 2 = .ok (.bipush 127, 2) := by decide +kernel
theorem dX12_feed_4 : decode cX12_feed 4 = .ok (.invokestatic 117, 3) := by decide +kernel
theorem dX12_feed_7 : decode cX12_feed 7 = .ok (.ifCond .ne 6, 3) := by decide +kernel
theorem dX12_feed_10 : decode cX12_feed 10 = .ok (.bipush (-2), 2) := by decide +kernel
theorem dX12_feed_12 : decode cX12_feed 12 = .ok (.ireturn, 1) := by decide +kernel
theorem dX12_feed_13 : decode cX12_feed 13 = .ok (.aload_n 0, 1) := by decide +kernel
theorem dX12_feed_14 : decode cX12_feed 14 = .ok (.getfield 146, 3) := by decide +kernel
theorem dX12_feed_17 : decode cX12_feed 17 = .ok (.bipush 100, 2) := by decide +kernel
theorem dX12_feed_19 : decode cX12_feed 19 = .ok (.if_icmp .ne 6, 3) := by decide +kernel
theorem dX12_feed_22 : decode cX12_feed 22 = .ok (.bipush (-4), 2) := by decide +kernel
theorem dX12_feed_24 : decode cX12_feed 24 = .ok (.ireturn, 1) := by decide +kernel
theorem dX12_feed_25 : decode cX12_feed 25 = .ok (.aload_n 0, 1) := by decide +kernel
theorem dX12_feed_26 : decode cX12_feed 26 = .ok (.getfield 39, 3) := by decide +kernel
theorem dX12_feed_29 : decode cX12_feed 29 = .ok (.aload_n 0, 1) := by decide +kernel
theorem dX12_feed_30 : decode cX12_feed 30 = .ok (.dup, 1) := by decide +kernel
theorem dX12_feed_31 : decode cX12_feed 31 = .ok (.getfield 146, 3) := by decide +kernel
theorem dX12_feed_34 : decode cX12_feed 34 = .ok (.dup_x1, 1) := by decide +kernel
theorem dX12_feed_35 : decode cX12_feed 35 = .ok (.iconst 1, 1) := by decide +kernel
theorem dX12_feed_36 : decode cX12_feed 36 = .ok (.iadd, 1) := by decide +kernel
theorem dX12_feed_37 : decode cX12_feed 37 = .ok (.putfield 146, 3) := by decide +kernel
theorem dX12_feed_40 : decode cX12_feed 40 = .ok (.iload_n 1, 1) := by decide +kernel
theorem dX12_feed_41 : decode cX12_feed 41 = .ok (.iastore, 1) := by decide +kernel
theorem dX12_feed_42 : decode cX12_feed 42 = .ok (.aload_n 0, 1) := by decide +kernel
theorem dX12_feed_43 : decode cX12_feed 43 = .ok (.getfield 146, 3) := by decide +kernel
theorem dX12_feed_46 : decode cX12_feed 46 = .ok (.ireturn, 1) := by decide +kernel
theorem dX12_is_0 : decode cX12_is 0 = .ok (.aload_n 0, 1) := by decide +kernel
theorem dX12_is_1 : decode cX12_is 1 = .ok (.getfield 149, 3) := by decide +kernel
theorem dX12_is_4 : decode cX12_is 4 = .ok (.aload_n 0, 1) := by decide +kernel
theorem dX12_is_5 : decode cX12_is 5 = .ok (.getfield 146, 3) := by decide +kernel
theorem dX12_is_8 : decode cX12_is 8 = .ok (.if_icmp .eq 16, 3) := by decide +kernel
theorem dX12_is_11 : decode cX12_is 11 = .ok (.aload_n 0, 1) := by decide +kernel
theorem dX12_is_12 : decode cX12_is 12 = .ok (.getfield 39, 3) := by decide +kernel
theorem dX12_is_15 : decode cX12_is 15 = .ok (.aload_n 0, 1) := by decide +kernel
theorem dX12_is_16 : decode cX12_is 16 = .ok (.getfield 149, 3) := by decide +kernel
theorem dX12_is_19 : decode cX12_is 19 = .ok (.iaload, 1) := by decide +kernel
theorem dX12_is_20 : decode cX12_is 20 = .ok (.iload_n 1, 1) := by decide +kernel
theorem dX12_is_21 : decode cX12_is 21 = .ok (.if_icmp .eq 5, 3) := by decide +kernel
theorem dX12_is_24 : decode cX12_is 24 = .ok (.iconst 0, 1) := by decide +kernel
theorem dX12_is_25 : decode cX12_is 25 = .ok (.ireturn, 1) := by decide +kernel
theorem dX12_is_26 : decode cX12_is 26 = .ok (.aload_n 0, 1) := by decide +kernel
theorem dX12_is_27 : decode cX12_is 27 = .ok (.dup, 1) := by decide +kernel
theorem dX12_is_28 : decode cX12_is 28 = .ok (.getfield 149, 3) := by decide +kernel
theorem dX12_is_31 : decode cX12_is 31 = .ok (.iconst 1, 1) := by decide +kernel
theorem dX12_is_32 : decode cX12_is 32 = .ok (.iadd, 1) := by decide +kernel
theorem dX12_is_33 : decode cX12_is 33 = .ok (.putfield 149, 3) := by decide +kernel
theorem dX12_is_36 : decode cX12_is 36 = .ok (.iconst 1, 1) := by decide +kernel
theorem dX12_is_37 : decode cX12_is 37 = .ok (.ireturn, 1) := by decide +kernel
theorem dX12_isDigit_0 : decode cX12_isDigit 0 = .ok (.aload_n 0, 1) := by decide +kernel
theorem dX12_isDigit_1 : decode cX12_isDigit 1 = .ok (.getfield 149, 3) := by decide +kernel
theorem dX12_isDigit_4 : decode cX12_isDigit 4 = .ok (.aload_n 0, 1) := by decide +kernel
theorem dX12_isDigit_5 : decode cX12_isDigit 5 = .ok (.getfield 146, 3) := by decide +kernel
theorem dX12_isDigit_8 : decode cX12_isDigit 8 = .ok (.if_icmp .ge 35, 3) := by decide +kernel
theorem dX12_isDigit_11 : decode cX12_isDigit 11 = .ok (.aload_n 0, 1) := by decide +kernel
theorem dX12_isDigit_12 : decode cX12_isDigit 12 = .ok (.getfield 39, 3) := by decide +kernel
theorem dX12_isDigit_15 : decode cX12_isDigit 15 = .ok (.aload_n 0, 1) := by decide +kernel
theorem dX12_isDigit_16 : decode cX12_isDigit 16 = .ok (.getfield 149, 3) := by decide +kernel
theorem dX12_isDigit_19 : decode cX12_isDigit 19 = .ok (.iaload, 1) := by decide +kernel
theorem dX12_isDigit_20 : decode cX12_isDigit 20 = .ok (.bipush 48, 2) := by decide +kernel
theorem dX12_isDigit_22 : decode cX12_isDigit 22 = .ok (.if_icmp .lt 21, 3) := by decide +kernel
theorem dX12_isDigit_25 : decode cX12_isDigit 25 = .ok (.aload_n 0, 1) := by decide +kernel
theorem dX12_isDigit_26 : decode cX12_isDigit 26 = .ok (.getfield 39, 3) := by decide +kernel
theorem dX12_isDigit_29 : decode cX12_isDigit 29 = .ok (.aload_n 0, 1) := by decide +kernel
theorem dX12_isDigit_30 : decode cX12_isDigit 30 = .ok (.getfield 149, 3) := by decide +kernel
theorem dX12_isDigit_33 : decode cX12_isDigit 33 = .ok (.iaload, 1) := by decide +kernel
theorem dX12_isDigit_34 : decode cX12_isDigit 34 = .ok (.bipush 57, 2) := by decide +kernel
theorem dX12_isDigit_36 : decode cX12_isDigit 36 = .ok (.if_icmp .gt 7, 3) := by decide +kernel
theorem dX12_isDigit_39 : decode cX12_isDigit 39 = .ok (.iconst 1, 1) := by decide +kernel
theorem dX12_isDigit_40 : decode cX12_isDigit 40 = .ok (.goto 4, 3) := by decide +kernel
theorem dX12_isDigit_43 : decode cX12_isDigit 43 = .ok (.iconst 0, 1) := by decide +kernel
theorem dX12_isDigit_44 : decode cX12_isDigit 44 = .ok (.ireturn, 1) := by decide +kernel
theorem dX12_isNumber_0 : decode cX12_isNumber 0 = .ok (.aload_n 0, 1) := by decide +kernel
theorem dX12_isNumber_1 : decode cX12_isNumber 1 = .ok (.iconst 0, 1) := by decide +kernel
theorem dX12_isNumber_2 : decode cX12_isNumber 2 = .ok (.putfield 152, 3) := by decide +kernel
theorem dX12_isNumber_5 : decode cX12_isNumber 5 = .ok (.aload_n 0, 1) := by decide +kernel
theorem dX12_isNumber_6 : decode cX12_isNumber 6 = .ok (.iconst 0, 1) := by decide +kernel
theorem dX12_isNumber_7 : decode cX12_isNumber 7 = .ok (.putfield 155, 3) := by decide +kernel
theorem dX12_isNumber_10 : decode cX12_isNumber 10 = .ok (.aload_n 0, 1) := by decide +kernel
theorem dX12_isNumber_11 : decode cX12_isNumber 11 = .ok (.getfield 155, 3) := by decide +kernel
theorem dX12_isNumber_14 : decode cX12_isNumber 14 = .ok (.iconst 2, 1) := by decide +kernel
theorem dX12_isNumber_15 : decode cX12_isNumber 15 = .ok (.if_icmp .ge 57, 3) := by decide +kernel
theorem dX12_isNumber_18 : decode cX12_isNumber 18 = .ok (.aload_n 0, 1) := by decide +kernel
theorem dX12_isNumber_19 : decode cX12_isNumber 19 = .ok (.invokevirtual 158, 3) := by decide +kernel
theorem dX12_isNumber_22 : decode cX12_isNumber 22 = .ok (.ifCond .eq 50, 3) := by decide +kernel
theorem dX12_isNumber_25 : decode cX12_isNumber 25 = .ok (.aload_n 0, 1) := by decide +kernel
theorem dX12_isNumber_26 : decode cX12_isNumber 26 = .ok (.bipush 10, 2) := by decide +kernel
theorem dX12_isNumber_28 : decode cX12_isNumber 28 = .ok (.aload_n 0, 1) := by decide +kernel
theorem dX12_isNumber_29 : decode cX12_isNumber 29 = .ok (.getfield 152, 3) := by decide +kernel
theorem dX12_isNumber_32 : decode cX12_isNumber 32 = .ok (.imul, 1) := by decide +kernel
theorem dX12_isNumber_33 : decode cX12_isNumber 33 = .ok (.aload_n 0, 1) := by decide +kernel
theorem dX12_isNumber_34 : decode cX12_isNumber 34 = .ok (.getfield 39, 3) := by decide +kernel
theorem dX12_isNumber_37 : decode cX12_isNumber 37 = .ok (.aload_n 0, 1) := by decide +kernel
theorem dX12_isNumber_38 : decode cX12_isNumber 38 = .ok (.getfield 149, 3) := by decide +kernel
theorem dX12_isNumber_41 : decode cX12_isNumber 41 = .ok (.iaload, 1) := by decide +kernel
theorem dX12_isNumber_42 : decode cX12_isNumber 42 = .ok (.iadd, 1) := by decide +kernel
theorem dX12_isNumber_43 : decode cX12_isNumber 43 = .ok (.bipush 48, 2) := by decide +kernel
theorem dX12_isNumber_45 : decode cX12_isNumber 45 = .ok (.isub, 1) := by decide +kernel
theorem dX12_isNumber_46 : decode cX12_isNumber 46 = .ok (.putfield 152, 3) := by decide +kernel
theorem dX12_isNumber_49 : decode cX12_isNumber 49 = .ok (.aload_n 0, 1) := by decide +kernel
theorem dX12_isNumber_50 : decode cX12_isNumber 50 = .ok (.dup, 1) := by decide +kernel
theorem dX12_isNumber_51 : decode cX12_isNumber 51 = .ok (.getfield 149, 3) := by decide +kernel
theorem dX12_isNumber_54 : decode cX12_isNumber 54 = .ok (.iconst 1, 1) := by decide +kernel
theorem dX12_isNumber_55 : decode cX12_isNumber 55 = .ok (.iadd, 1) := by decide +kernel
theorem dX12_isNumber_56 : decode cX12_isNumber 56 = .ok (.putfield 149, 3) := by decide +kernel
theorem dX12_isNumber_59 : decode cX12_isNumber 59 = .ok (.aload_n 0, 1) := by decide +kernel
theorem dX12_isNumber_60 : decode cX12_isNumber 60 = .ok (.dup, 1) := by decide +kernel
theorem dX12_isNumber_61 : decode cX12_isNumber 61 = .ok (.getfield 155, 3) := by decide +kernel
theorem dX12_isNumber_64 : decode cX12_isNumber 64 = .ok (.iconst 1, 1) := by decide +kernel
theorem dX12_isNumber_65 : decode cX12_isNumber 65 = .ok (.iadd, 1) := by decide +kernel
theorem dX12_isNumber_66 : decode cX12_isNumber 66 = .ok (.putfield 155, 3) := by decide +kernel
theorem dX12_isNumber_69 : decode cX12_isNumber 69 = .ok (.goto (-59), 3) := by decide +kernel
theorem dX12_isNumber_72 : decode cX12_isNumber 72 = .ok (.aload_n 0, 1) := by decide +kernel
theorem dX12_isNumber_73 : decode cX12_isNumber 73 = .ok (.getfield 155, 3) := by decide +kernel
theorem dX12_isNumber_76 : decode cX12_isNumber 76 = .ok (.ifCond .le 7, 3) := by decide +kernel
theorem dX12_isNumber_79 : decode cX12_isNumber 79 = .ok (.iconst 1, 1) := by decide +kernel
theorem dX12_isNumber_80 : decode cX12_isNumber 80 = .ok (.goto 4, 3) := by decide +kernel
theorem dX12_isNumber_83 : decode cX12_isNumber 83 = .ok (.iconst 0, 1) := by decide +kernel
theorem dX12_isNumber_84 : decode cX12_isNumber 84 = .ok (.ireturn, 1) := by decide +kernel
theorem dX12_isAll_0 : decode cX12_isAll 0 = .ok (.iconst 0, 1) := by decide +kernel
theorem dX12_isAll_1 : decode cX12_isAll 1 = .ok (.istore_n 2, 1) := by decide +kernel
theorem dX12_isAll_2 : decode cX12_isAll 2 = .ok (.iload_n 2, 1) := by decide +kernel
theorem dX12_isAll_3 : decode cX12_isAll 3 = .ok (.aload_n 1, 1) := by decide +kernel
theorem dX12_isAll_4 : decode cX12_isAll 4 = .ok (.invokevirtual 162, 3) := by decide +kernel
theorem dX12_isAll_7 : decode cX12_isAll 7 = .ok (.if_icmp .ge 23, 3) := by decide +kernel
theorem dX12_isAll_10 : decode cX12_isAll 10 = .ok (.aload_n 0, 1) := by decide +kernel
theorem dX12_isAll_11 : decode cX12_isAll 11 = .ok (.aload_n 1, 1) := by decide +kernel
theorem dX12_isAll_12 : decode cX12_isAll 12 = .ok (.iload_n 2, 1) := by decide +kernel
theorem dX12_isAll_13 : decode cX12_isAll 13 = .ok (.invokevirtual 167, 3) := by decide +kernel
theorem dX12_isAll_16 : decode cX12_isAll 16 = .ok (.invokevirtual 171, 3) := by decide +kernel
theorem dX12_isAll_19 : decode cX12_isAll 19 = .ok (.ifCond .ne 5, 3) := by decide +kernel
theorem dX12_isAll_22 : decode cX12_isAll 22 = .ok (.iconst 0, 1) := by decide +kernel
theorem dX12_isAll_23 : decode cX12_isAll 23 = .ok (.ireturn, 1) := by decide +kernel
theorem dX12_isAll_24 : decode cX12_isAll 24 = .ok (.iinc 2 1, 3) := by decide +kernel
theorem dX12_isAll_27 : decode cX12_isAll 27 = .ok (.goto (-25), 3) := by decide +kernel
theorem dX12_isAll_30 : decode cX12_isAll 30 = .ok (.iconst 1, 1) := by decide +kernel
theorem dX12_isAll_31 : decode cX12_isAll 31 = .ok (.ireturn, 1) := by decide +kernel
theorem dX12_codes_0 : decode cX12_codes 0 = .ok (.aload_n 0, 1) := by decide +kernel
theorem dX12_codes_1 : decode cX12_codes 1 = .ok (.getfield 57, 3) := by decide +kernel
theorem dX12_codes_4 : decode cX12_codes 4 = .ok (.aload_n 0, 1) := by decide +kernel
theorem dX12_codes_5 : decode cX12_codes 5 = .ok (.dup, 1) := by decide +kernel
theorem dX12_codes_6 : decode cX12_codes 6 = .ok (.getfield 174, 3) := by decide +kernel
theorem dX12_codes_9 : decode cX12_codes 9 = .ok (.dup_x1, 1) := by decide +kernel
theorem dX12_codes_10 : decode cX12_codes 10 = .ok (.iconst 1, 1) := by decide +kernel
theorem dX12_codes_11 : decode cX12_codes 11 = .ok (.iadd, 1) := by decide +kernel
theorem dX12_codes_12 : decode cX12_codes 12 = .ok (.putfield 174, 3) := by decide +kernel
theorem dX12_codes_15 : decode cX12_codes 15 = .ok (.iload_n 1, 1) := by decide +kernel
theorem dX12_codes_16 : decode cX12_codes 16 = .ok (.iastore, 1) := by decide +kernel
theorem dX12_codes_17 : decode cX12_codes 17 = .ok (.iconst 1, 1) := by decide +kernel
theorem dX12_codes_18 : decode cX12_codes 18 = .ok (.ireturn, 1) := by decide +kernel
theorem dX12_isTest_0 : decode cX12_isTest 0 = .ok (.aload_n 0, 1) := by decide +kernel
theorem dX12_isTest_1 : decode cX12_isTest 1 = .ok (.getfield 149, 3) := by decide +kernel
theorem dX12_isTest_4 : decode cX12_isTest 4 = .ok (.aload_n 0, 1) := by decide +kernel
theorem dX12_isTest_5 : decode cX12_isTest 5 = .ok (.getfield 146, 3) := by decide +kernel
theorem dX12_isTest_8 : decode cX12_isTest 8 = .ok (.if_icmp .ge 32, 3) := by decide +kernel
theorem dX12_isTest_11 : decode cX12_isTest 11 = .ok (.aload_n 0, 1) := by decide +kernel
theorem dX12_isTest_12 : decode cX12_isTest 12 = .ok (.getfield 39, 3) := by decide +kernel
theorem dX12_isTest_15 : decode cX12_isTest 15 = .ok (.aload_n 0, 1) := by decide +kernel
theorem dX12_isTest_16 : decode cX12_isTest 16 = .ok (.getfield 149, 3) := by decide +kernel
theorem dX12_isTest_19 : decode cX12_isTest 19 = .ok (.iaload, 1) := by decide +kernel
theorem dX12_isTest_20 : decode cX12_isTest 20 = .ok (.ifCond .le 20, 3) := by decide +kernel
theorem dX12_isTest_23 : decode cX12_isTest 23 = .ok (.ldc 177, 2) := by decide +kernel
theorem dX12_isTest_25 : decode cX12_isTest 25 = .ok (.aload_n 0, 1) := by decide +kernel
theorem dX12_isTest_26 : decode cX12_isTest 26 = .ok (.getfield 39, 3) := by decide +kernel
theorem dX12_isTest_29 : decode cX12_isTest 29 = .ok (.aload_n 0, 1) := by decide +kernel
theorem dX12_isTest_30 : decode cX12_isTest 30 = .ok (.getfield 149, 3) := by decide +kernel
theorem dX12_isTest_33 : decode cX12_isTest 33 = .ok (.iaload, 1) := by decide +kernel
theorem dX12_isTest_34 : decode cX12_isTest 34 = .ok (.invokevirtual 179, 3) := by decide +kernel
theorem dX12_isTest_37 : decode cX12_isTest 37 = .ok (.goto 4, 3) := by decide +kernel
theorem dX12_isTest_40 : decode cX12_isTest 40 = .ok (.iconst (-1), 1) := by decide +kernel
theorem dX12_isTest_41 : decode cX12_isTest 41 = .ok (.istore_n 1, 1) := by decide +kernel
theorem dX12_isTest_42 : decode cX12_isTest 42 = .ok (.iload_n 1, 1) := by decide +kernel
theorem dX12_isTest_43 : decode cX12_isTest 43 = .ok (.ifCond .ge 5, 3) := by decide +kernel
theorem dX12_isTest_46 : decode cX12_isTest 46 = .ok (.iconst 0, 1) := by decide +kernel
theorem dX12_isTest_47 : decode cX12_isTest 47 = .ok (.ireturn, 1) := by decide +kernel
theorem dX12_isTest_48 : decode cX12_isTest 48 = .ok (.aload_n 0, 1) := by decide +kernel
theorem dX12_isTest_49 : decode cX12_isTest 49 = .ok (.dup, 1) := by decide +kernel
theorem dX12_isTest_50 : decode cX12_isTest 50 = .ok (.getfield 149, 3) := by decide +kernel
theorem dX12_isTest_53 : decode cX12_isTest 53 = .ok (.iconst 1, 1) := by decide +kernel
theorem dX12_isTest_54 : decode cX12_isTest 54 = .ok (.iadd, 1) := by decide +kernel
theorem dX12_isTest_55 : decode cX12_isTest 55 = .ok (.putfield 149, 3) := by decide +kernel
theorem dX12_isTest_58 : decode cX12_isTest 58 = .ok (.aload_n 0, 1) := by decide +kernel
theorem dX12_isTest_59 : decode cX12_isTest 59 = .ok (.getfield 149, 3) := by decide +kernel
theorem dX12_isTest_62 : decode cX12_isTest 62 = .ok (.aload_n 0, 1) := by decide +kernel
theorem dX12_isTest_63 : decode cX12_isTest 63 = .ok (.getfield 146, 3) := by decide +kernel
theorem dX12_isTest_66 : decode cX12_isTest 66 = .ok (.if_icmp .ge 32, 3) := by decide +kernel
theorem dX12_isTest_69 : decode cX12_isTest 69 = .ok (.aload_n 0, 1) := by decide +kernel
theorem dX12_isTest_70 : decode cX12_isTest 70 = .ok (.getfield 39, 3) := by decide +kernel
theorem dX12_isTest_73 : decode cX12_isTest 73 = .ok (.aload_n 0, 1) := by decide +kernel
theorem dX12_isTest_74 : decode cX12_isTest 74 = .ok (.getfield 149, 3) := by decide +kernel
theorem dX12_isTest_77 : decode cX12_isTest 77 = .ok (.iaload, 1) := by decide +kernel
theorem dX12_isTest_78 : decode cX12_isTest 78 = .ok (.ifCond .le 20, 3) := by decide +kernel
theorem dX12_isTest_81 : decode cX12_isTest 81 = .ok (.ldc 182, 2) := by decide +kernel
theorem dX12_isTest_83 : decode cX12_isTest 83 = .ok (.aload_n 0, 1) := by decide +kernel
theorem dX12_isTest_84 : decode cX12_isTest 84 = .ok (.getfield 39, 3) := by decide +kernel
theorem dX12_isTest_87 : decode cX12_isTest 87 = .ok (.aload_n 0, 1) := by decide +kernel
theorem dX12_isTest_88 : decode cX12_isTest 88 = .ok (.getfield 149, 3) := by decide +kernel
theorem dX12_isTest_91 : decode cX12_isTest 91 = .ok (.iaload, 1) := by decide +kernel
theorem dX12_isTest_92 : decode cX12_isTest 92 = .ok (.invokevirtual 179, 3) := by decide +kernel
theorem dX12_isTest_95 : decode cX12_isTest 95 = .ok (.goto 4, 3) := by decide +kernel
theorem dX12_isTest_98 : decode cX12_isTest 98 = .ok (.iconst (-1), 1) := by decide +kernel
theorem dX12_isTest_99 : decode cX12_isTest 99 = .ok (.istore_n 2, 1) := by decide +kernel
theorem dX12_isTest_100 : decode cX12_isTest 100 = .ok (.iload_n 2, 1) := by decide +kernel
theorem dX12_isTest_101 : decode cX12_isTest 101 = .ok (.ifCond .ge 5, 3) := by decide +kernel
theorem dX12_isTest_104 : decode cX12_isTest 104 = .ok (.iconst 0, 1) := by decide +kernel
theorem dX12_isTest_105 : decode cX12_isTest 105 = .ok (.ireturn, 1) := by decide +kernel
theorem dX12_isTest_106 : decode cX12_isTest 106 = .ok (.aload_n 0, 1) := by decide +kernel
theorem dX12_isTest_107 : decode cX12_isTest 107 = .ok (.dup, 1) := by decide +kernel
theorem dX12_isTest_108 : decode cX12_isTest 108 = .ok (.getfield 149, 3) := by decide +kernel
theorem dX12_isTest_111 : decode cX12_isTest 111 = .ok (.iconst 1, 1) := by decide +kernel
theorem dX12_isTest_112 : decode cX12_isTest 112 = .ok (.iadd, 1) := by decide +kernel
theorem dX12_isTest_113 : decode cX12_isTest 113 = .ok (.putfield 149, 3) := by decide +kernel
theorem dX12_isTest_116 : decode cX12_isTest 116 = .ok (.aload_n 0, 1) := by decide +kernel
theorem dX12_isTest_117 : decode cX12_isTest 117 = .ok (.invokevirtual 184, 3) := by decide +kernel
theorem dX12_isTest_120 : decode cX12_isTest 120 = .ok (.ifCond .eq 31, 3) := by decide +kernel
theorem dX12_isTest_123 : decode cX12_isTest 123 = .ok (.aload_n 0, 1) := by decide +kernel
theorem dX12_isTest_124 : decode cX12_isTest 124 = .ok (.iconst 3, 1) := by decide +kernel
theorem dX12_isTest_125 : decode cX12_isTest 125 = .ok (.sipush 300, 3) := by decide +kernel
theorem dX12_isTest_128 : decode cX12_isTest 128 = .ok (.iload_n 1, 1) := by decide +kernel
theorem dX12_isTest_129 : decode cX12_isTest 129 = .ok (.imul, 1) := by decide +kernel
theorem dX12_isTest_130 : decode cX12_isTest 130 = .ok (.iadd, 1) := by decide +kernel
theorem dX12_isTest_131 : decode cX12_isTest 131 = .ok (.bipush 100, 2) := by decide +kernel
theorem dX12_isTest_133 : decode cX12_isTest 133 = .ok (.iload_n 2, 1) := by decide +kernel
theorem dX12_isTest_134 : decode cX12_isTest 134 = .ok (.imul, 1) := by decide +kernel
theorem dX12_isTest_135 : decode cX12_isTest 135 = .ok (.iadd, 1) := by decide +kernel
theorem dX12_isTest_136 : decode cX12_isTest 136 = .ok (.aload_n 0, 1) := by decide +kernel
theorem dX12_isTest_137 : decode cX12_isTest 137 = .ok (.getfield 152, 3) := by decide +kernel
theorem dX12_isTest_140 : decode cX12_isTest 140 = .ok (.iadd, 1) := by decide +kernel
theorem dX12_isTest_141 : decode cX12_isTest 141 = .ok (.invokevirtual 187, 3) := by decide +kernel
theorem dX12_isTest_144 : decode cX12_isTest 144 = .ok (.ifCond .eq 7, 3) := by decide +kernel
theorem dX12_isTest_147 : decode cX12_isTest 147 = .ok (.iconst 1, 1) := by decide +kernel
theorem dX12_isTest_148 : decode cX12_isTest 148 = .ok (.goto 4, 3) := by decide +kernel
theorem dX12_isTest_151 : decode cX12_isTest 151 = .ok (.iconst 0, 1) := by decide +kernel
theorem dX12_isTest_152 : decode cX12_isTest 152 = .ok (.ireturn, 1) := by decide +kernel
theorem dX12_isOpened_0 : decode cX12_isOpened 0 = .ok (.aload_n 0, 1) := by decide +kernel
theorem dX12_isOpened_1 : decode cX12_isOpened 1 = .ok (.getfield 190, 3) := by decide +kernel
theorem dX12_isOpened_4 : decode cX12_isOpened 4 = .ok (.iconst 4, 1) := by decide +kernel
theorem dX12_isOpened_5 : decode cX12_isOpened 5 = .ok (.if_icmp .eq 11, 3) := by decide +kernel
theorem dX12_isOpened_8 : decode cX12_isOpened 8 = .ok (.aload_n 0, 1) := by decide +kernel
theorem dX12_isOpened_9 : decode cX12_isOpened 9 = .ok (.iload_n 1, 1) := by decide +kernel
theorem dX12_isOpened_10 : decode cX12_isOpened 10 = .ok (.invokevirtual 171, 3) := by decide +kernel
theorem dX12_isOpened_13 : decode cX12_isOpened 13 = .ok (.ifCond .ne 5, 3) := by decide +kernel
theorem dX12_isOpened_16 : decode cX12_isOpened 16 = .ok (.iconst 0, 1) := by decide +kernel
theorem dX12_isOpened_17 : decode cX12_isOpened 17 = .ok (.ireturn, 1) := by decide +kernel
theorem dX12_isOpened_18 : decode cX12_isOpened 18 = .ok (.aload_n 0, 1) := by decide +kernel
theorem dX12_isOpened_19 : decode cX12_isOpened 19 = .ok (.dup, 1) := by decide +kernel
theorem dX12_isOpened_20 : decode cX12_isOpened 20 = .ok (.getfield 190, 3) := by decide +kernel
theorem dX12_isOpened_23 : decode cX12_isOpened 23 = .ok (.iconst 1, 1) := by decide +kernel
theorem dX12_isOpened_24 : decode cX12_isOpened 24 = .ok (.iadd, 1) := by decide +kernel
theorem dX12_isOpened_25 : decode cX12_isOpened 25 = .ok (.putfield 190, 3) := by decide +kernel
theorem dX12_isOpened_28 : decode cX12_isOpened 28 = .ok (.iconst 1, 1) := by decide +kernel
theorem dX12_isOpened_29 : decode cX12_isOpened 29 = .ok (.ireturn, 1) := by decide +kernel
theorem dX12_isF_0 : decode cX12_isF 0 = .ok (.aload_n 0, 1) := by decide +kernel
theorem dX12_isF_1 : decode cX12_isF 1 = .ok (.bipush 33, 2) := by decide +kernel
theorem dX12_isF_3 : decode cX12_isF 3 = .ok (.invokevirtual 193, 3) := by decide +kernel
theorem dX12_isF_6 : decode cX12_isF 6 = .ok (.ifCond .eq 27, 3) := by decide +kernel
theorem dX12_isF_9 : decode cX12_isF 9 = .ok (.aload_n 0, 1) := by decide +kernel
theorem dX12_isF_10 : decode cX12_isF 10 = .ok (.invokevirtual 196, 3) := by decide +kernel
theorem dX12_isF_13 : decode cX12_isF 13 = .ok (.ifCond .eq 15, 3) := by decide +kernel
theorem dX12_isF_16 : decode cX12_isF 16 = .ok (.aload_n 0, 1) := by decide +kernel
theorem dX12_isF_17 : decode cX12_isF 17 = .ok (.iconst 0, 1) := by decide +kernel
theorem dX12_isF_18 : decode cX12_isF 18 = .ok (.invokevirtual 187, 3) := by decide +kernel
theorem dX12_isF_21 : decode cX12_isF 21 = .ok (.ifCond .eq 7, 3) := by decide +kernel
theorem dX12_isF_24 : decode cX12_isF 24 = .ok (.iconst 1, 1) := by decide +kernel
theorem dX12_isF_25 : decode cX12_isF 25 = .ok (.goto 4, 3) := by decide +kernel
theorem dX12_isF_28 : decode cX12_isF 28 = .ok (.iconst 0, 1) := by decide +kernel
theorem dX12_isF_29 : decode cX12_isF 29 = .ok (.istore_n 1, 1) := by decide +kernel
theorem dX12_isF_30 : decode cX12_isF 30 = .ok (.goto 42, 3) := by decide +kernel
theorem dX12_isF_33 : decode cX12_isF 33 = .ok (.aload_n 0, 1) := by decide +kernel
theorem dX12_isF_34 : decode cX12_isF 34 = .ok (.bipush 40, 2) := by decide +kernel
theorem dX12_isF_36 : decode cX12_isF 36 = .ok (.invokevirtual 193, 3) := by decide +kernel
theorem dX12_isF_39 : decode cX12_isF 39 = .ok (.ifCond .eq 28, 3) := by decide +kernel
theorem dX12_isF_42 : decode cX12_isF 42 = .ok (.aload_n 0, 1) := by decide +kernel
theorem dX12_isF_43 : decode cX12_isF 43 = .ok (.invokevirtual 199, 3) := by decide +kernel
theorem dX12_isF_46 : decode cX12_isF 46 = .ok (.ifCond .eq 16, 3) := by decide +kernel
theorem dX12_isF_49 : decode cX12_isF 49 = .ok (.aload_n 0, 1) := by decide +kernel
theorem dX12_isF_50 : decode cX12_isF 50 = .ok (.bipush 41, 2) := by decide +kernel
theorem dX12_isF_52 : decode cX12_isF 52 = .ok (.invokevirtual 171, 3) := by decide +kernel
theorem dX12_isF_55 : decode cX12_isF 55 = .ok (.ifCond .eq 7, 3) := by decide +kernel
theorem dX12_isF_58 : decode cX12_isF 58 = .ok (.iconst 1, 1) := by decide +kernel
theorem dX12_isF_59 : decode cX12_isF 59 = .ok (.goto 4, 3) := by decide +kernel
theorem dX12_isF_62 : decode cX12_isF 62 = .ok (.iconst 0, 1) := by decide +kernel
theorem dX12_isF_63 : decode cX12_isF 63 = .ok (.istore_n 1, 1) := by decide +kernel
theorem dX12_isF_64 : decode cX12_isF 64 = .ok (.goto 8, 3) := by decide +kernel
theorem dX12_isF_67 : decode cX12_isF 67 = .ok (.aload_n 0, 1) := by decide +kernel
theorem dX12_isF_68 : decode cX12_isF 68 = .ok (.invokevirtual 202, 3) := by decide +kernel
theorem dX12_isF_71 : decode cX12_isF 71 = .ok (.ireturn, 1) := by decide +kernel
theorem dX12_isF_72 : decode cX12_isF 72 = .ok (.aload_n 0, 1) := by decide +kernel
theorem dX12_isF_73 : decode cX12_isF 73 = .ok (.dup, 1) := by decide +kernel
theorem dX12_isF_74 : decode cX12_isF 74 = .ok (.getfield 190, 3) := by decide +kernel
theorem dX12_isF_77 : decode cX12_isF 77 = .ok (.iconst 1, 1) := by decide +kernel
theorem dX12_isF_78 : decode cX12_isF 78 = .ok (.isub, 1) := by decide +kernel
theorem dX12_isF_79 : decode cX12_isF 79 = .ok (.putfield 190, 3) := by decide +kernel
theorem dX12_isF_82 : decode cX12_isF 82 = .ok (.iload_n 1, 1) := by decide +kernel
theorem dX12_isF_83 : decode cX12_isF 83 = .ok (.ireturn, 1) := by decide +kernel
theorem dX12_isT_0 : decode cX12_isT 0 = .ok (.aload_n 0, 1) := by decide +kernel
theorem dX12_isT_1 : decode cX12_isT 1 = .ok (.invokevirtual 196, 3) := by decide +kernel
theorem dX12_isT_4 : decode cX12_isT 4 = .ok (.ifCond .ne 5, 3) := by decide +kernel
theorem dX12_isT_7 : decode cX12_isT 7 = .ok (.iconst 0, 1) := by decide +kernel
theorem dX12_isT_8 : decode cX12_isT 8 = .ok (.ireturn, 1) := by decide +kernel
theorem dX12_isT_9 : decode cX12_isT 9 = .ok (.aload_n 0, 1) := by decide +kernel
theorem dX12_isT_10 : decode cX12_isT 10 = .ok (.bipush 38, 2) := by decide +kernel
theorem dX12_isT_12 : decode cX12_isT 12 = .ok (.invokevirtual 171, 3) := by decide +kernel
theorem dX12_isT_15 : decode cX12_isT 15 = .ok (.ifCond .eq 20, 3) := by decide +kernel
theorem dX12_isT_18 : decode cX12_isT 18 = .ok (.aload_n 0, 1) := by decide +kernel
theorem dX12_isT_19 : decode cX12_isT 19 = .ok (.invokevirtual 196, 3) := by decide +kernel
theorem dX12_isT_22 : decode cX12_isT 22 = .ok (.ifCond .eq 11, 3) := by decide +kernel
theorem dX12_isT_25 : decode cX12_isT 25 = .ok (.aload_n 0, 1) := by decide +kernel
theorem dX12_isT_26 : decode cX12_isT 26 = .ok (.iconst 1, 1) := by decide +kernel
theorem dX12_isT_27 : decode cX12_isT 27 = .ok (.invokevirtual 187, 3) := by decide +kernel
theorem dX12_isT_30 : decode cX12_isT 30 = .ok (.ifCond .ne (-21), 3) := by decide +kernel
theorem dX12_isT_33 : decode cX12_isT 33 = .ok (.iconst 0, 1) := by decide +kernel
theorem dX12_isT_34 : decode cX12_isT 34 = .ok (.ireturn, 1) := by decide +kernel
theorem dX12_isT_35 : decode cX12_isT 35 = .ok (.iconst 1, 1) := by decide +kernel
theorem dX12_isT_36 : decode cX12_isT 36 = .ok (.ireturn, 1) := by decide +kernel
theorem dX12_isE_0 : decode cX12_isE 0 = .ok (.aload_n 0, 1) := by decide +kernel
theorem dX12_isE_1 : decode cX12_isE 1 = .ok (.invokevirtual 205, 3) := by decide +kernel
theorem dX12_isE_4 : decode cX12_isE 4 = .ok (.ifCond .ne 5, 3) := by decide +kernel
theorem dX12_isE_7 : decode cX12_isE 7 = .ok (.iconst 0, 1) := by decide +kernel
theorem dX12_isE_8 : decode cX12_isE 8 = .ok (.ireturn, 1) := by decide +kernel
theorem dX12_isE_9 : decode cX12_isE 9 = .ok (.aload_n 0, 1) := by decide +kernel
theorem dX12_isE_10 : decode cX12_isE 10 = .ok (.bipush 124, 2) := by decide +kernel
theorem dX12_isE_12 : decode cX12_isE 12 = .ok (.invokevirtual 171, 3) := by decide +kernel
theorem dX12_isE_15 : decode cX12_isE 15 = .ok (.ifCond .eq 20, 3) := by decide +kernel
theorem dX12_isE_18 : decode cX12_isE 18 = .ok (.aload_n 0, 1) := by decide +kernel
theorem dX12_isE_19 : decode cX12_isE 19 = .ok (.invokevirtual 205, 3) := by decide +kernel
theorem dX12_isE_22 : decode cX12_isE 22 = .ok (.ifCond .eq 11, 3) := by decide +kernel
theorem dX12_isE_25 : decode cX12_isE 25 = .ok (.aload_n 0, 1) := by decide +kernel
theorem dX12_isE_26 : decode cX12_isE 26 = .ok (.iconst 2, 1) := by decide +kernel
theorem dX12_isE_27 : decode cX12_isE 27 = .ok (.invokevirtual 187, 3) := by decide +kernel
theorem dX12_isE_30 : decode cX12_isE 30 = .ok (.ifCond .ne (-21), 3) := by decide +kernel
theorem dX12_isE_33 : decode cX12_isE 33 = .ok (.iconst 0, 1) := by decide +kernel
theorem dX12_isE_34 : decode cX12_isE 34 = .ok (.ireturn, 1) := by decide +kernel
theorem dX12_isE_35 : decode cX12_isE 35 = .ok (.iconst 1, 1) := by decide +kernel
theorem dX12_isE_36 : decode cX12_isE 36 = .ok (.ireturn, 1) := by decide +kernel
theorem dX12_isClause_0 : decode cX12_isClause 0 = .ok (.iconst (-1), 1) := by decide +kernel
theorem dX12_isClause_1 : decode cX12_isClause 1 = .ok (.istore_n 2, 1) := by decide +kernel
theorem dX12_isClause_2 : decode cX12_isClause 2 = .ok (.aload_n 0, 1) := by decide +kernel
theorem dX12_isClause_3 : decode cX12_isClause 3 = .ok (.getfield 149, 3) := by decide +kernel
theorem dX12_isClause_6 : decode cX12_isClause 6 = .ok (.aload_n 0, 1) := by decide +kernel
theorem dX12_isClause_7 : decode cX12_isClause 7 = .ok (.getfield 146, 3) := by decide +kernel
theorem dX12_isClause_10 : decode cX12_isClause 10 = .ok (.if_icmp .ge 41, 3) := by decide +kernel
theorem dX12_isClause_13 : decode cX12_isClause 13 = .ok (.aload_n 0, 1) := by decide +kernel
theorem dX12_isClause_14 : decode cX12_isClause 14 = .ok (.getfield 39, 3) := by decide +kernel
theorem dX12_isClause_17 : decode cX12_isClause 17 = .ok (.aload_n 0, 1) := by decide +kernel
theorem dX12_isClause_18 : decode cX12_isClause 18 = .ok (.getfield 149, 3) := by decide +kernel
theorem dX12_isClause_21 : decode cX12_isClause 21 = .ok (.iaload, 1) := by decide +kernel
theorem dX12_isClause_22 : decode cX12_isClause 22 = .ok (.bipush 98, 2) := by decide +kernel
theorem dX12_isClause_24 : decode cX12_isClause 24 = .ok (.if_icmp .ne 7, 3) := by decide +kernel
theorem dX12_isClause_27 : decode cX12_isClause 27 = .ok (.iconst 0, 1) := by decide +kernel
theorem dX12_isClause_28 : decode cX12_isClause 28 = .ok (.goto 22, 3) := by decide +kernel
theorem dX12_isClause_31 : decode cX12_isClause 31 = .ok (.aload_n 0, 1) := by decide +kernel
theorem dX12_isClause_32 : decode cX12_isClause 32 = .ok (.getfield 39, 3) := by decide +kernel
theorem dX12_isClause_35 : decode cX12_isClause 35 = .ok (.aload_n 0, 1) := by decide +kernel
theorem dX12_isClause_36 : decode cX12_isClause 36 = .ok (.getfield 149, 3) := by decide +kernel
theorem dX12_isClause_39 : decode cX12_isClause 39 = .ok (.iaload, 1) := by decide +kernel
theorem dX12_isClause_40 : decode cX12_isClause 40 = .ok (.bipush 100, 2) := by decide +kernel
theorem dX12_isClause_42 : decode cX12_isClause 42 = .ok (.if_icmp .ne 7, 3) := by decide +kernel
theorem dX12_isClause_45 : decode cX12_isClause 45 = .ok (.iconst 1, 1) := by decide +kernel
theorem dX12_isClause_46 : decode cX12_isClause 46 = .ok (.goto 4, 3) := by decide +kernel
theorem dX12_isClause_49 : decode cX12_isClause 49 = .ok (.iconst (-1), 1) := by decide +kernel
theorem dX12_isClause_50 : decode cX12_isClause 50 = .ok (.istore_n 2, 1) := by decide +kernel
theorem dX12_isClause_51 : decode cX12_isClause 51 = .ok (.iload_n 2, 1) := by decide +kernel
theorem dX12_isClause_52 : decode cX12_isClause 52 = .ok (.iconst 1, 1) := by decide +kernel
theorem dX12_isClause_53 : decode cX12_isClause 53 = .ok (.if_icmp .ne 34, 3) := by decide +kernel
theorem dX12_isClause_56 : decode cX12_isClause 56 = .ok (.aload_n 0, 1) := by decide +kernel
theorem dX12_isClause_57 : decode cX12_isClause 57 = .ok (.getfield 149, 3) := by decide +kernel
theorem dX12_isClause_60 : decode cX12_isClause 60 = .ok (.iconst 1, 1) := by decide +kernel
theorem dX12_isClause_61 : decode cX12_isClause 61 = .ok (.iadd, 1) := by decide +kernel
theorem dX12_isClause_62 : decode cX12_isClause 62 = .ok (.aload_n 0, 1) := by decide +kernel
theorem dX12_isClause_63 : decode cX12_isClause 63 = .ok (.getfield 146, 3) := by decide +kernel
theorem dX12_isClause_66 : decode cX12_isClause 66 = .ok (.if_icmp .ge 21, 3) := by decide +kernel
theorem dX12_isClause_69 : decode cX12_isClause 69 = .ok (.aload_n 0, 1) := by decide +kernel
theorem dX12_isClause_70 : decode cX12_isClause 70 = .ok (.getfield 39, 3) := by decide +kernel
theorem dX12_isClause_73 : decode cX12_isClause 73 = .ok (.aload_n 0, 1) := by decide +kernel
theorem dX12_isClause_74 : decode cX12_isClause 74 = .ok (.getfield 149, 3) := by decide +kernel
theorem dX12_isClause_77 : decode cX12_isClause 77 = .ok (.iconst 1, 1) := by decide +kernel
theorem dX12_isClause_78 : decode cX12_isClause 78 = .ok (.iadd, 1) := by decide +kernel
theorem dX12_isClause_79 : decode cX12_isClause 79 = .ok (.iaload, 1) := by decide +kernel
theorem dX12_isClause_80 : decode cX12_isClause 80 = .ok (.bipush 114, 2) := by decide +kernel
theorem dX12_isClause_82 : decode cX12_isClause 82 = .ok (.if_icmp .ne 5, 3) := by decide +kernel
theorem dX12_isClause_85 : decode cX12_isClause 85 = .ok (.iconst 2, 1) := by decide +kernel
theorem dX12_isClause_86 : decode cX12_isClause 86 = .ok (.istore_n 2, 1) := by decide +kernel
theorem dX12_isClause_87 : decode cX12_isClause 87 = .ok (.iload_n 2, 1) := by decide +kernel
theorem dX12_isClause_88 : decode cX12_isClause 88 = .ok (.ifCond .ne 12, 3) := by decide +kernel
theorem dX12_isClause_91 : decode cX12_isClause 91 = .ok (.aload_n 0, 1) := by decide +kernel
theorem dX12_isClause_92 : decode cX12_isClause 92 = .ok (.ldc 208, 2) := by decide +kernel
theorem dX12_isClause_94 : decode cX12_isClause 94 = .ok (.invokevirtual 210, 3) := by decide +kernel
theorem dX12_isClause_97 : decode cX12_isClause 97 = .ok (.goto 36, 3) := by decide +kernel
theorem dX12_isClause_100 : decode cX12_isClause 100 = .ok (.iload_n 2, 1) := by decide +kernel
theorem dX12_isClause_101 : decode cX12_isClause 101 = .ok (.iconst 1, 1) := by decide +kernel
theorem dX12_isClause_102 : decode cX12_isClause 102 = .ok (.if_icmp .ne 12, 3) := by decide +kernel
theorem dX12_isClause_105 : decode cX12_isClause 105 = .ok (.aload_n 0, 1) := by decide +kernel
theorem dX12_isClause_106 : decode cX12_isClause 106 = .ok (.ldc 214, 2) := by decide +kernel
theorem dX12_isClause_108 : decode cX12_isClause 108 = .ok (.invokevirtual 210, 3) := by decide +kernel
theorem dX12_isClause_111 : decode cX12_isClause 111 = .ok (.goto 22, 3) := by decide +kernel
theorem dX12_isClause_114 : decode cX12_isClause 114 = .ok (.iload_n 2, 1) := by decide +kernel
theorem dX12_isClause_115 : decode cX12_isClause 115 = .ok (.iconst 2, 1) := by decide +kernel
theorem dX12_isClause_116 : decode cX12_isClause 116 = .ok (.if_icmp .ne 16, 3) := by decide +kernel
theorem dX12_isClause_119 : decode cX12_isClause 119 = .ok (.aload_n 0, 1) := by decide +kernel
theorem dX12_isClause_120 : decode cX12_isClause 120 = .ok (.ldc 216, 2) := by decide +kernel
theorem dX12_isClause_122 : decode cX12_isClause 122 = .ok (.invokevirtual 210, 3) := by decide +kernel
theorem dX12_isClause_125 : decode cX12_isClause 125 = .ok (.ifCond .eq 7, 3) := by decide +kernel
theorem dX12_isClause_128 : decode cX12_isClause 128 = .ok (.iconst 1, 1) := by decide +kernel
theorem dX12_isClause_129 : decode cX12_isClause 129 = .ok (.goto 4, 3) := by decide +kernel
theorem dX12_isClause_132 : decode cX12_isClause 132 = .ok (.iconst 0, 1) := by decide +kernel
theorem dX12_isClause_133 : decode cX12_isClause 133 = .ok (.istore_n 3, 1) := by decide +kernel
theorem dX12_isClause_134 : decode cX12_isClause 134 = .ok (.iload_n 3, 1) := by decide +kernel
theorem dX12_isClause_135 : decode cX12_isClause 135 = .ok (.ifCond .eq 10, 3) := by decide +kernel
theorem dX12_isClause_138 : decode cX12_isClause 138 = .ok (.aload_n 0, 1) := by decide +kernel
theorem dX12_isClause_139 : decode cX12_isClause 139 = .ok (.invokevirtual 184, 3) := by decide +kernel
theorem dX12_isClause_142 : decode cX12_isClause 142 = .ok (.ifCond .ne 5, 3) := by decide +kernel
theorem dX12_isClause_145 : decode cX12_isClause 145 = .ok (.iconst 0, 1) := by decide +kernel
theorem dX12_isClause_146 : decode cX12_isClause 146 = .ok (.ireturn, 1) := by decide +kernel
theorem dX12_isClause_147 : decode cX12_isClause 147 = .ok (.aload_n 0, 1) := by decide +kernel
theorem dX12_isClause_148 : decode cX12_isClause 148 = .ok (.getfield 45, 3) := by decide +kernel
theorem dX12_isClause_151 : decode cX12_isClause 151 = .ok (.iload_n 1, 1) := by decide +kernel
theorem dX12_isClause_152 : decode cX12_isClause 152 = .ok (.iload_n 2, 1) := by decide +kernel
theorem dX12_isClause_153 : decode cX12_isClause 153 = .ok (.iastore, 1) := by decide +kernel
theorem dX12_isClause_154 : decode cX12_isClause 154 = .ok (.aload_n 0, 1) := by decide +kernel
theorem dX12_isClause_155 : decode cX12_isClause 155 = .ok (.getfield 48, 3) := by decide +kernel
theorem dX12_isClause_158 : decode cX12_isClause 158 = .ok (.iload_n 1, 1) := by decide +kernel
theorem dX12_isClause_159 : decode cX12_isClause 159 = .ok (.aload_n 0, 1) := by decide +kernel
theorem dX12_isClause_160 : decode cX12_isClause 160 = .ok (.getfield 152, 3) := by decide +kernel
theorem dX12_isClause_163 : decode cX12_isClause 163 = .ok (.iastore, 1) := by decide +kernel
theorem dX12_isClause_164 : decode cX12_isClause 164 = .ok (.aload_n 0, 1) := by decide +kernel
theorem dX12_isClause_165 : decode cX12_isClause 165 = .ok (.getfield 51, 3) := by decide +kernel
theorem dX12_isClause_168 : decode cX12_isClause 168 = .ok (.iload_n 1, 1) := by decide +kernel
theorem dX12_isClause_169 : decode cX12_isClause 169 = .ok (.aload_n 0, 1) := by decide +kernel
theorem dX12_isClause_170 : decode cX12_isClause 170 = .ok (.getfield 174, 3) := by decide +kernel
theorem dX12_isClause_173 : decode cX12_isClause 173 = .ok (.iastore, 1) := by decide +kernel
end
section
theorem dX12_isClause_174 : decode cX12_isClause 174 = .ok (.aload_n 0, 1) := by decide +kernel
theorem dX12_isClause_175 : decode cX12_isClause 175 = .ok (.iconst 0, 1) := by decide +kernel
theorem dX12_isClause_176 : decode cX12_isClause 176 = .ok (.putfield 190, 3) := by decide +kernel
theorem dX12_isClause_179 : decode cX12_isClause 179 = .ok (.iload_n 2, 1) := by decide +kernel
theorem dX12_isClause_180 : decode cX12_isClause 180 = .ok (.iconst 2, 1) := by decide +kernel
theorem dX12_isClause_181 : decode cX12_isClause 181 = .ok (.if_icmp .ge 21, 3) := by decide +kernel
theorem dX12_isClause_184 : decode cX12_isClause 184 = .ok (.aload_n 0, 1) := by decide +kernel
theorem dX12_isClause_185 : decode cX12_isClause 185 = .ok (.bipush 32, 2) := by decide +kernel
theorem dX12_isClause_187 : decode cX12_isClause 187 = .ok (.invokevirtual 171, 3) := by decide +kernel
theorem dX12_isClause_190 : decode cX12_isClause 190 = .ok (.ifCond .eq 10, 3) := by decide +kernel
theorem dX12_isClause_193 : decode cX12_isClause 193 = .ok (.aload_n 0, 1) := by decide +kernel
theorem dX12_isClause_194 : decode cX12_isClause 194 = .ok (.invokevirtual 199, 3) := by decide +kernel
theorem dX12_isClause_197 : decode cX12_isClause 197 = .ok (.ifCond .ne 5, 3) := by decide +kernel
theorem dX12_isClause_200 : decode cX12_isClause 200 = .ok (.iconst 0, 1) := by decide +kernel
theorem dX12_isClause_201 : decode cX12_isClause 201 = .ok (.ireturn, 1) := by decide +kernel
theorem dX12_isClause_202 : decode cX12_isClause 202 = .ok (.aload_n 0, 1) := by decide +kernel
theorem dX12_isClause_203 : decode cX12_isClause 203 = .ok (.getfield 54, 3) := by decide +kernel
theorem dX12_isClause_206 : decode cX12_isClause 206 = .ok (.iload_n 1, 1) := by decide +kernel
theorem dX12_isClause_207 : decode cX12_isClause 207 = .ok (.aload_n 0, 1) := by decide +kernel
theorem dX12_isClause_208 : decode cX12_isClause 208 = .ok (.getfield 174, 3) := by decide +kernel
theorem dX12_isClause_211 : decode cX12_isClause 211 = .ok (.aload_n 0, 1) := by decide +kernel
theorem dX12_isClause_212 : decode cX12_isClause 212 = .ok (.getfield 51, 3) := by decide +kernel
theorem dX12_isClause_215 : decode cX12_isClause 215 = .ok (.iload_n 1, 1) := by decide +kernel
theorem dX12_isClause_216 : decode cX12_isClause 216 = .ok (.iaload, 1) := by decide +kernel
theorem dX12_isClause_217 : decode cX12_isClause 217 = .ok (.isub, 1) := by decide +kernel
theorem dX12_isClause_218 : decode cX12_isClause 218 = .ok (.iastore, 1) := by decide +kernel
theorem dX12_isClause_219 : decode cX12_isClause 219 = .ok (.iconst 1, 1) := by decide +kernel
theorem dX12_isClause_220 : decode cX12_isClause 220 = .ok (.ireturn, 1) := by decide +kernel
theorem dX12_show_0 : decode cX12_show 0 = .ok (.aload_n 0, 1) := by decide +kernel
theorem dX12_show_1 : decode cX12_show 1 = .ok (.getfield 218, 3) := by decide +kernel
theorem dX12_show_4 : decode cX12_show 4 = .ok (.bipush 6, 2) := by decide +kernel
theorem dX12_show_6 : decode cX12_show 6 = .ok (.if_icmp .ne 6, 3) := by decide +kernel
theorem dX12_show_9 : decode cX12_show 9 = .ok (.bipush (-4), 2) := by decide +kernel
theorem dX12_show_11 : decode cX12_show 11 = .ok (.ireturn, 1) := by decide +kernel
theorem dX12_show_12 : decode cX12_show 12 = .ok (.aload_n 0, 1) := by decide +kernel
theorem dX12_show_13 : decode cX12_show 13 = .ok (.getfield 174, 3) := by decide +kernel
theorem dX12_show_16 : decode cX12_show 16 = .ok (.istore_n 1, 1) := by decide +kernel
theorem dX12_show_17 : decode cX12_show 17 = .ok (.aload_n 0, 1) := by decide +kernel
theorem dX12_show_18 : decode cX12_show 18 = .ok (.iconst 0, 1) := by decide +kernel
theorem dX12_show_19 : decode cX12_show 19 = .ok (.putfield 149, 3) := by decide +kernel
theorem dX12_show_22 : decode cX12_show 22 = .ok (.iconst 0, 1) := by decide +kernel
theorem dX12_show_23 : decode cX12_show 23 = .ok (.istore_n 2, 1) := by decide +kernel
theorem dX12_show_24 : decode cX12_show 24 = .ok (.iconst 1, 1) := by decide +kernel
theorem dX12_show_25 : decode cX12_show 25 = .ok (.istore_n 3, 1) := by decide +kernel
theorem dX12_show_26 : decode cX12_show 26 = .ok (.iconst 0, 1) := by decide +kernel
theorem dX12_show_27 : decode cX12_show 27 = .ok (.istore 4, 2) := by decide +kernel
theorem dX12_show_29 : decode cX12_show 29 = .ok (.iload_n 3, 1) := by decide +kernel
theorem dX12_show_30 : decode cX12_show 30 = .ok (.ifCond .eq 93, 3) := by decide +kernel
theorem dX12_show_33 : decode cX12_show 33 = .ok (.iload 4, 2) := by decide +kernel
theorem dX12_show_35 : decode cX12_show 35 = .ok (.ifCond .ne 88, 3) := by decide +kernel
theorem dX12_show_38 : decode cX12_show 38 = .ok (.iload_n 2, 1) := by decide +kernel
theorem dX12_show_39 : decode cX12_show 39 = .ok (.bipush 10, 2) := by decide +kernel
theorem dX12_show_41 : decode cX12_show 41 = .ok (.if_icmp .ge 23, 3) := by decide +kernel
theorem dX12_show_44 : decode cX12_show 44 = .ok (.aload_n 0, 1) := by decide +kernel
theorem dX12_show_45 : decode cX12_show 45 = .ok (.bipush 10, 2) := by decide +kernel
theorem dX12_show_47 : decode cX12_show 47 = .ok (.aload_n 0, 1) := by decide +kernel
theorem dX12_show_48 : decode cX12_show 48 = .ok (.getfield 218, 3) := by decide +kernel
theorem dX12_show_51 : decode cX12_show 51 = .ok (.imul, 1) := by decide +kernel
theorem dX12_show_52 : decode cX12_show 52 = .ok (.iload_n 2, 1) := by decide +kernel
theorem dX12_show_53 : decode cX12_show 53 = .ok (.iadd, 1) := by decide +kernel
theorem dX12_show_54 : decode cX12_show 54 = .ok (.invokevirtual 221, 3) := by decide +kernel
theorem dX12_show_57 : decode cX12_show 57 = .ok (.ifCond .eq 7, 3) := by decide +kernel
theorem dX12_show_60 : decode cX12_show 60 = .ok (.iconst 1, 1) := by decide +kernel
theorem dX12_show_61 : decode cX12_show 61 = .ok (.goto 4, 3) := by decide +kernel
theorem dX12_show_64 : decode cX12_show 64 = .ok (.iconst 0, 1) := by decide +kernel
theorem dX12_show_65 : decode cX12_show 65 = .ok (.istore_n 3, 1) := by decide +kernel
theorem dX12_show_66 : decode cX12_show 66 = .ok (.iload_n 3, 1) := by decide +kernel
theorem dX12_show_67 : decode cX12_show 67 = .ok (.ifCond .ne 6, 3) := by decide +kernel
theorem dX12_show_70 : decode cX12_show 70 = .ok (.goto (-41), 3) := by decide +kernel
theorem dX12_show_73 : decode cX12_show 73 = .ok (.iinc 2 1, 3) := by decide +kernel
theorem dX12_show_76 : decode cX12_show 76 = .ok (.aload_n 0, 1) := by decide +kernel
theorem dX12_show_77 : decode cX12_show 77 = .ok (.getfield 149, 3) := by decide +kernel
theorem dX12_show_80 : decode cX12_show 80 = .ok (.aload_n 0, 1) := by decide +kernel
theorem dX12_show_81 : decode cX12_show 81 = .ok (.getfield 146, 3) := by decide +kernel
theorem dX12_show_84 : decode cX12_show 84 = .ok (.if_icmp .ne 7, 3) := by decide +kernel
theorem dX12_show_87 : decode cX12_show 87 = .ok (.iconst 1, 1) := by decide +kernel
theorem dX12_show_88 : decode cX12_show 88 = .ok (.goto 4, 3) := by decide +kernel
theorem dX12_show_91 : decode cX12_show 91 = .ok (.iconst 0, 1) := by decide +kernel
theorem dX12_show_92 : decode cX12_show 92 = .ok (.istore 4, 2) := by decide +kernel
theorem dX12_show_94 : decode cX12_show 94 = .ok (.iload 4, 2) := by decide +kernel
theorem dX12_show_96 : decode cX12_show 96 = .ok (.ifCond .ne 18, 3) := by decide +kernel
theorem dX12_show_99 : decode cX12_show 99 = .ok (.iload_n 2, 1) := by decide +kernel
theorem dX12_show_100 : decode cX12_show 100 = .ok (.bipush 10, 2) := by decide +kernel
theorem dX12_show_102 : decode cX12_show 102 = .ok (.if_icmp .ge 16, 3) := by decide +kernel
theorem dX12_show_105 : decode cX12_show 105 = .ok (.aload_n 0, 1) := by decide +kernel
theorem dX12_show_106 : decode cX12_show 106 = .ok (.bipush 59, 2) := by decide +kernel
theorem dX12_show_108 : decode cX12_show 108 = .ok (.invokevirtual 171, 3) := by decide +kernel
theorem dX12_show_111 : decode cX12_show 111 = .ok (.ifCond .eq 7, 3) := by decide +kernel
theorem dX12_show_114 : decode cX12_show 114 = .ok (.iconst 1, 1) := by decide +kernel
theorem dX12_show_115 : decode cX12_show 115 = .ok (.goto 4, 3) := by decide +kernel
theorem dX12_show_118 : decode cX12_show 118 = .ok (.iconst 0, 1) := by decide +kernel
theorem dX12_show_119 : decode cX12_show 119 = .ok (.istore_n 3, 1) := by decide +kernel
theorem dX12_show_120 : decode cX12_show 120 = .ok (.goto (-91), 3) := by decide +kernel
theorem dX12_show_123 : decode cX12_show 123 = .ok (.aload_n 0, 1) := by decide +kernel
theorem dX12_show_124 : decode cX12_show 124 = .ok (.iconst 0, 1) := by decide +kernel
theorem dX12_show_125 : decode cX12_show 125 = .ok (.putfield 146, 3) := by decide +kernel
theorem dX12_show_128 : decode cX12_show 128 = .ok (.iload 4, 2) := by decide +kernel
theorem dX12_show_130 : decode cX12_show 130 = .ok (.ifCond .ne 16, 3) := by decide +kernel
theorem dX12_show_133 : decode cX12_show 133 = .ok (.aload_n 0, 1) := by decide +kernel
theorem dX12_show_134 : decode cX12_show 134 = .ok (.iload_n 1, 1) := by decide +kernel
theorem dX12_show_135 : decode cX12_show 135 = .ok (.putfield 174, 3) := by decide +kernel
theorem dX12_show_138 : decode cX12_show 138 = .ok (.bipush (-10), 2) := by decide +kernel
theorem dX12_show_140 : decode cX12_show 140 = .ok (.aload_n 0, 1) := by decide +kernel
theorem dX12_show_141 : decode cX12_show 141 = .ok (.getfield 149, 3) := by decide +kernel
theorem dX12_show_144 : decode cX12_show 144 = .ok (.isub, 1) := by decide +kernel
theorem dX12_show_145 : decode cX12_show 145 = .ok (.ireturn, 1) := by decide +kernel
theorem dX12_show_146 : decode cX12_show 146 = .ok (.aload_n 0, 1) := by decide +kernel
theorem dX12_show_147 : decode cX12_show 147 = .ok (.getfield 42, 3) := by decide +kernel
theorem dX12_show_150 : decode cX12_show 150 = .ok (.aload_n 0, 1) := by decide +kernel
theorem dX12_show_151 : decode cX12_show 151 = .ok (.getfield 218, 3) := by decide +kernel
theorem dX12_show_154 : decode cX12_show 154 = .ok (.iload_n 2, 1) := by decide +kernel
theorem dX12_show_155 : decode cX12_show 155 = .ok (.iastore, 1) := by decide +kernel
theorem dX12_show_156 : decode cX12_show 156 = .ok (.aload_n 0, 1) := by decide +kernel
theorem dX12_show_157 : decode cX12_show 157 = .ok (.aload_n 0, 1) := by decide +kernel
theorem dX12_show_158 : decode cX12_show 158 = .ok (.getfield 218, 3) := by decide +kernel
theorem dX12_show_161 : decode cX12_show 161 = .ok (.putfield 110, 3) := by decide +kernel
theorem dX12_show_164 : decode cX12_show 164 = .ok (.aload_n 0, 1) := by decide +kernel
theorem dX12_show_165 : decode cX12_show 165 = .ok (.dup, 1) := by decide +kernel
theorem dX12_show_166 : decode cX12_show 166 = .ok (.getfield 218, 3) := by decide +kernel
theorem dX12_show_169 : decode cX12_show 169 = .ok (.dup_x1, 1) := by decide +kernel
theorem dX12_show_170 : decode cX12_show 170 = .ok (.iconst 1, 1) := by decide +kernel
theorem dX12_show_171 : decode cX12_show 171 = .ok (.iadd, 1) := by decide +kernel
theorem dX12_show_172 : decode cX12_show 172 = .ok (.putfield 218, 3) := by decide +kernel
theorem dX12_show_175 : decode cX12_show 175 = .ok (.ireturn, 1) := by decide +kernel
theorem dX12_letterOf_0 : decode cX12_letterOf 0 = .ok (.iload_n 2, 1) := by decide +kernel
theorem dX12_letterOf_1 : decode cX12_letterOf 1 = .ok (.tableswitch 68 0 4 #[35, 37, 44, 51, 58], 35) := by decide +kernel
theorem dX12_letterOf_36 : decode cX12_letterOf 36 = .ok (.iload_n 1, 1) := by decide +kernel
theorem dX12_letterOf_37 : decode cX12_letterOf 37 = .ok (.ireturn, 1) := by decide +kernel
theorem dX12_letterOf_38 : decode cX12_letterOf 38 = .ok (.aload_n 0, 1) := by decide +kernel
theorem dX12_letterOf_39 : decode cX12_letterOf 39 = .ok (.getfield 18, 3) := by decide +kernel
theorem dX12_letterOf_42 : decode cX12_letterOf 42 = .ok (.iload_n 1, 1) := by decide +kernel
theorem dX12_letterOf_43 : decode cX12_letterOf 43 = .ok (.iaload, 1) := by decide +kernel
theorem dX12_letterOf_44 : decode cX12_letterOf 44 = .ok (.ireturn, 1) := by decide +kernel
theorem dX12_letterOf_45 : decode cX12_letterOf 45 = .ok (.aload_n 0, 1) := by decide +kernel
theorem dX12_letterOf_46 : decode cX12_letterOf 46 = .ok (.getfield 21, 3) := by decide +kernel
theorem dX12_letterOf_49 : decode cX12_letterOf 49 = .ok (.iload_n 1, 1) := by decide +kernel
theorem dX12_letterOf_50 : decode cX12_letterOf 50 = .ok (.iaload, 1) := by decide +kernel
theorem dX12_letterOf_51 : decode cX12_letterOf 51 = .ok (.ireturn, 1) := by decide +kernel
theorem dX12_letterOf_52 : decode cX12_letterOf 52 = .ok (.aload_n 0, 1) := by decide +kernel
theorem dX12_letterOf_53 : decode cX12_letterOf 53 = .ok (.getfield 24, 3) := by decide +kernel
theorem dX12_letterOf_56 : decode cX12_letterOf 56 = .ok (.iload_n 1, 1) := by decide +kernel
theorem dX12_letterOf_57 : decode cX12_letterOf 57 = .ok (.iaload, 1) := by decide +kernel
theorem dX12_letterOf_58 : decode cX12_letterOf 58 = .ok (.ireturn, 1) := by decide +kernel
theorem dX12_letterOf_59 : decode cX12_letterOf 59 = .ok (.aload_n 0, 1) := by decide +kernel
theorem dX12_letterOf_60 : decode cX12_letterOf 60 = .ok (.getfield 30, 3) := by decide +kernel
theorem dX12_letterOf_63 : decode cX12_letterOf 63 = .ok (.iload_n 1, 1) := by decide +kernel
theorem dX12_letterOf_64 : decode cX12_letterOf 64 = .ok (.iaload, 1) := by decide +kernel
theorem dX12_letterOf_65 : decode cX12_letterOf 65 = .ok (.bipush 10, 2) := by decide +kernel
theorem dX12_letterOf_67 : decode cX12_letterOf 67 = .ok (.idiv, 1) := by decide +kernel
theorem dX12_letterOf_68 : decode cX12_letterOf 68 = .ok (.ireturn, 1) := by decide +kernel
theorem dX12_letterOf_69 : decode cX12_letterOf 69 = .ok (.aload_n 0, 1) := by decide +kernel
theorem dX12_letterOf_70 : decode cX12_letterOf 70 = .ok (.getfield 224, 3) := by decide +kernel
theorem dX12_letterOf_73 : decode cX12_letterOf 73 = .ok (.bipush 10, 2) := by decide +kernel
theorem dX12_letterOf_75 : decode cX12_letterOf 75 = .ok (.irem, 1) := by decide +kernel
theorem dX12_letterOf_76 : decode cX12_letterOf 76 = .ok (.ireturn, 1) := by decide +kernel
theorem dX12_isTrue_0 : decode cX12_isTrue 0 = .ok (.iconst 0, 1) := by decide +kernel
theorem dX12_isTrue_1 : decode cX12_isTrue 1 = .ok (.istore_n 3, 1) := by decide +kernel
theorem dX12_isTrue_2 : decode cX12_isTrue 2 = .ok (.aload_n 0, 1) := by decide +kernel
theorem dX12_isTrue_3 : decode cX12_isTrue 3 = .ok (.getfield 51, 3) := by decide +kernel
theorem dX12_isTrue_6 : decode cX12_isTrue 6 = .ok (.iload_n 2, 1) := by decide +kernel
theorem dX12_isTrue_7 : decode cX12_isTrue 7 = .ok (.iaload, 1) := by decide +kernel
theorem dX12_isTrue_8 : decode cX12_isTrue 8 = .ok (.istore 4, 2) := by decide +kernel
theorem dX12_isTrue_10 : decode cX12_isTrue 10 = .ok (.iload 4, 2) := by decide +kernel
theorem dX12_isTrue_12 : decode cX12_isTrue 12 = .ok (.aload_n 0, 1) := by decide +kernel
theorem dX12_isTrue_13 : decode cX12_isTrue 13 = .ok (.getfield 51, 3) := by decide +kernel
theorem dX12_isTrue_16 : decode cX12_isTrue 16 = .ok (.iload_n 2, 1) := by decide +kernel
theorem dX12_isTrue_17 : decode cX12_isTrue 17 = .ok (.iaload, 1) := by decide +kernel
theorem dX12_isTrue_18 : decode cX12_isTrue 18 = .ok (.aload_n 0, 1) := by decide +kernel
theorem dX12_isTrue_19 : decode cX12_isTrue 19 = .ok (.getfield 54, 3) := by decide +kernel
theorem dX12_isTrue_22 : decode cX12_isTrue 22 = .ok (.iload_n 2, 1) := by decide +kernel
theorem dX12_isTrue_23 : decode cX12_isTrue 23 = .ok (.iaload, 1) := by decide +kernel
theorem dX12_isTrue_24 : decode cX12_isTrue 24 = .ok (.iadd, 1) := by decide +kernel
theorem dX12_isTrue_25 : decode cX12_isTrue 25 = .ok (.if_icmp .ge 226, 3) := by decide +kernel
theorem dX12_isTrue_28 : decode cX12_isTrue 28 = .ok (.aload_n 0, 1) := by decide +kernel
theorem dX12_isTrue_29 : decode cX12_isTrue 29 = .ok (.getfield 57, 3) := by decide +kernel
theorem dX12_isTrue_32 : decode cX12_isTrue 32 = .ok (.iload 4, 2) := by decide +kernel
theorem dX12_isTrue_34 : decode cX12_isTrue 34 = .ok (.iaload, 1) := by decide +kernel
theorem dX12_isTrue_35 : decode cX12_isTrue 35 = .ok (.istore 5, 2) := by decide +kernel
theorem dX12_isTrue_37 : decode cX12_isTrue 37 = .ok (.iload 5, 2) := by decide +kernel
theorem dX12_isTrue_39 : decode cX12_isTrue 39 = .ok (.iconst 3, 1) := by decide +kernel
theorem dX12_isTrue_40 : decode cX12_isTrue 40 = .ok (.if_icmp .lt 103, 3) := by decide +kernel
theorem dX12_isTrue_43 : decode cX12_isTrue 43 = .ok (.aload_n 0, 1) := by decide +kernel
theorem dX12_isTrue_44 : decode cX12_isTrue 44 = .ok (.iload_n 1, 1) := by decide +kernel
theorem dX12_isTrue_45 : decode cX12_isTrue 45 = .ok (.iload 5, 2) := by decide +kernel
theorem dX12_isTrue_47 : decode cX12_isTrue 47 = .ok (.iconst 3, 1) := by decide +kernel
theorem dX12_isTrue_48 : decode cX12_isTrue 48 = .ok (.isub, 1) := by decide +kernel
theorem dX12_isTrue_49 : decode cX12_isTrue 49 = .ok (.sipush 300, 3) := by decide +kernel
theorem dX12_isTrue_52 : decode cX12_isTrue 52 = .ok (.idiv, 1) := by decide +kernel
theorem dX12_isTrue_53 : decode cX12_isTrue 53 = .ok (.invokevirtual 227, 3) := by decide +kernel
theorem dX12_isTrue_56 : decode cX12_isTrue 56 = .ok (.istore 6, 2) := by decide +kernel
theorem dX12_isTrue_58 : decode cX12_isTrue 58 = .ok (.iload 5, 2) := by decide +kernel
theorem dX12_isTrue_60 : decode cX12_isTrue 60 = .ok (.iconst 3, 1) := by decide +kernel
theorem dX12_isTrue_61 : decode cX12_isTrue 61 = .ok (.isub, 1) := by decide +kernel
theorem dX12_isTrue_62 : decode cX12_isTrue 62 = .ok (.bipush 100, 2) := by decide +kernel
theorem dX12_isTrue_64 : decode cX12_isTrue 64 = .ok (.irem, 1) := by decide +kernel
theorem dX12_isTrue_65 : decode cX12_isTrue 65 = .ok (.istore 7, 2) := by decide +kernel
theorem dX12_isTrue_67 : decode cX12_isTrue 67 = .ok (.iload 5, 2) := by decide +kernel
theorem dX12_isTrue_69 : decode cX12_isTrue 69 = .ok (.iconst 3, 1) := by decide +kernel
theorem dX12_isTrue_70 : decode cX12_isTrue 70 = .ok (.isub, 1) := by decide +kernel
theorem dX12_isTrue_71 : decode cX12_isTrue 71 = .ok (.bipush 100, 2) := by decide +kernel
theorem dX12_isTrue_73 : decode cX12_isTrue 73 = .ok (.idiv, 1) := by decide +kernel
theorem dX12_isTrue_74 : decode cX12_isTrue 74 = .ok (.iconst 3, 1) := by decide +kernel
theorem dX12_isTrue_75 : decode cX12_isTrue 75 = .ok (.irem, 1) := by decide +kernel
theorem dX12_isTrue_76 : decode cX12_isTrue 76 = .ok (.istore 8, 2) := by decide +kernel
theorem dX12_isTrue_78 : decode cX12_isTrue 78 = .ok (.aload_n 0, 1) := by decide +kernel
theorem dX12_isTrue_79 : decode cX12_isTrue 79 = .ok (.getfield 60, 3) := by decide +kernel
theorem dX12_isTrue_82 : decode cX12_isTrue 82 = .ok (.iload_n 3, 1) := by decide +kernel
theorem dX12_isTrue_83 : decode cX12_isTrue 83 = .ok (.iinc 3 1, 3) := by decide +kernel
theorem dX12_isTrue_86 : decode cX12_isTrue 86 = .ok (.iload 8, 2) := by decide +kernel
theorem dX12_isTrue_88 : decode cX12_isTrue 88 = .ok (.ifCond .ne 18, 3) := by decide +kernel
theorem dX12_isTrue_91 : decode cX12_isTrue 91 = .ok (.iload 6, 2) := by decide +kernel
theorem dX12_isTrue_93 : decode cX12_isTrue 93 = .ok (.iload 7, 2) := by decide +kernel
theorem dX12_isTrue_95 : decode cX12_isTrue 95 = .ok (.if_icmp .ge 7, 3) := by decide +kernel
theorem dX12_isTrue_98 : decode cX12_isTrue 98 = .ok (.iconst 1, 1) := by decide +kernel
theorem dX12_isTrue_99 : decode cX12_isTrue 99 = .ok (.goto 40, 3) := by decide +kernel
theorem dX12_isTrue_102 : decode cX12_isTrue 102 = .ok (.iconst 0, 1) := by decide +kernel
theorem dX12_isTrue_103 : decode cX12_isTrue 103 = .ok (.goto 36, 3) := by decide +kernel
theorem dX12_isTrue_106 : decode cX12_isTrue 106 = .ok (.iload 8, 2) := by decide +kernel
theorem dX12_isTrue_108 : decode cX12_isTrue 108 = .ok (.iconst 1, 1) := by decide +kernel
theorem dX12_isTrue_109 : decode cX12_isTrue 109 = .ok (.if_icmp .ne 18, 3) := by decide +kernel
theorem dX12_isTrue_112 : decode cX12_isTrue 112 = .ok (.iload 6, 2) := by decide +kernel
theorem dX12_isTrue_114 : decode cX12_isTrue 114 = .ok (.iload 7, 2) := by decide +kernel
theorem dX12_isTrue_116 : decode cX12_isTrue 116 = .ok (.if_icmp .ne 7, 3) := by decide +kernel
theorem dX12_isTrue_119 : decode cX12_isTrue 119 = .ok (.iconst 1, 1) := by decide +kernel
theorem dX12_isTrue_120 : decode cX12_isTrue 120 = .ok (.goto 19, 3) := by decide +kernel
theorem dX12_isTrue_123 : decode cX12_isTrue 123 = .ok (.iconst 0, 1) := by decide +kernel
theorem dX12_isTrue_124 : decode cX12_isTrue 124 = .ok (.goto 15, 3) := by decide +kernel
theorem dX12_isTrue_127 : decode cX12_isTrue 127 = .ok (.iload 6, 2) := by decide +kernel
theorem dX12_isTrue_129 : decode cX12_isTrue 129 = .ok (.iload 7, 2) := by decide +kernel
theorem dX12_isTrue_131 : decode cX12_isTrue 131 = .ok (.if_icmp .le 7, 3) := by decide +kernel
theorem dX12_isTrue_134 : decode cX12_isTrue 134 = .ok (.iconst 1, 1) := by decide +kernel
theorem dX12_isTrue_135 : decode cX12_isTrue 135 = .ok (.goto 4, 3) := by decide +kernel
theorem dX12_isTrue_138 : decode cX12_isTrue 138 = .ok (.iconst 0, 1) := by decide +kernel
theorem dX12_isTrue_139 : decode cX12_isTrue 139 = .ok (.bastore, 1) := by decide +kernel
theorem dX12_isTrue_140 : decode cX12_isTrue 140 = .ok (.goto 105, 3) := by decide +kernel
theorem dX12_isTrue_143 : decode cX12_isTrue 143 = .ok (.iload 5, 2) := by decide +kernel
theorem dX12_isTrue_145 : decode cX12_isTrue 145 = .ok (.ifCond .ne 30, 3) := by decide +kernel
theorem dX12_isTrue_148 : decode cX12_isTrue 148 = .ok (.aload_n 0, 1) := by decide +kernel
theorem dX12_isTrue_149 : decode cX12_isTrue 149 = .ok (.getfield 60, 3) := by decide +kernel
theorem dX12_isTrue_152 : decode cX12_isTrue 152 = .ok (.iload_n 3, 1) := by decide +kernel
theorem dX12_isTrue_153 : decode cX12_isTrue 153 = .ok (.iconst 1, 1) := by decide +kernel
theorem dX12_isTrue_154 : decode cX12_isTrue 154 = .ok (.isub, 1) := by decide +kernel
theorem dX12_isTrue_155 : decode cX12_isTrue 155 = .ok (.aload_n 0, 1) := by decide +kernel
theorem dX12_isTrue_156 : decode cX12_isTrue 156 = .ok (.getfield 60, 3) := by decide +kernel
theorem dX12_isTrue_159 : decode cX12_isTrue 159 = .ok (.iload_n 3, 1) := by decide +kernel
theorem dX12_isTrue_160 : decode cX12_isTrue 160 = .ok (.iconst 1, 1) := by decide +kernel
theorem dX12_isTrue_161 : decode cX12_isTrue 161 = .ok (.isub, 1) := by decide +kernel
theorem dX12_isTrue_162 : decode cX12_isTrue 162 = .ok (.baload, 1) := by decide +kernel
theorem dX12_isTrue_163 : decode cX12_isTrue 163 = .ok (.ifCond .ne 7, 3) := by decide +kernel
theorem dX12_isTrue_166 : decode cX12_isTrue 166 = .ok (.iconst 1, 1) := by decide +kernel
theorem dX12_isTrue_167 : decode cX12_isTrue 167 = .ok (.goto 4, 3) := by decide +kernel
theorem dX12_isTrue_170 : decode cX12_isTrue 170 = .ok (.iconst 0, 1) := by decide +kernel
theorem dX12_isTrue_171 : decode cX12_isTrue 171 = .ok (.bastore, 1) := by decide +kernel
theorem dX12_isTrue_172 : decode cX12_isTrue 172 = .ok (.goto 73, 3) := by decide +kernel
theorem dX12_isTrue_175 : decode cX12_isTrue 175 = .ok (.iinc 3 (-1), 3) := by decide +kernel
theorem dX12_isTrue_178 : decode cX12_isTrue 178 = .ok (.aload_n 0, 1) := by decide +kernel
theorem dX12_isTrue_179 : decode cX12_isTrue 179 = .ok (.getfield 60, 3) := by decide +kernel
theorem dX12_isTrue_182 : decode cX12_isTrue 182 = .ok (.iload_n 3, 1) := by decide +kernel
theorem dX12_isTrue_183 : decode cX12_isTrue 183 = .ok (.iconst 1, 1) := by decide +kernel
theorem dX12_isTrue_184 : decode cX12_isTrue 184 = .ok (.isub, 1) := by decide +kernel
theorem dX12_isTrue_185 : decode cX12_isTrue 185 = .ok (.iload 5, 2) := by decide +kernel
theorem dX12_isTrue_187 : decode cX12_isTrue 187 = .ok (.iconst 1, 1) := by decide +kernel
theorem dX12_isTrue_188 : decode cX12_isTrue 188 = .ok (.if_icmp .ne 31, 3) := by decide +kernel
theorem dX12_isTrue_191 : decode cX12_isTrue 191 = .ok (.aload_n 0, 1) := by decide +kernel
theorem dX12_isTrue_192 : decode cX12_isTrue 192 = .ok (.getfield 60, 3) := by decide +kernel
theorem dX12_isTrue_195 : decode cX12_isTrue 195 = .ok (.iload_n 3, 1) := by decide +kernel
theorem dX12_isTrue_196 : decode cX12_isTrue 196 = .ok (.iconst 1, 1) := by decide +kernel
theorem dX12_isTrue_197 : decode cX12_isTrue 197 = .ok (.isub, 1) := by decide +kernel
theorem dX12_isTrue_198 : decode cX12_isTrue 198 = .ok (.baload, 1) := by decide +kernel
theorem dX12_isTrue_199 : decode cX12_isTrue 199 = .ok (.ifCond .eq 16, 3) := by decide +kernel
theorem dX12_isTrue_202 : decode cX12_isTrue 202 = .ok (.aload_n 0, 1) := by decide +kernel
theorem dX12_isTrue_203 : decode cX12_isTrue 203 = .ok (.getfield 60, 3) := by decide +kernel
theorem dX12_isTrue_206 : decode cX12_isTrue 206 = .ok (.iload_n 3, 1) := by decide +kernel
theorem dX12_isTrue_207 : decode cX12_isTrue 207 = .ok (.baload, 1) := by decide +kernel
theorem dX12_isTrue_208 : decode cX12_isTrue 208 = .ok (.ifCond .eq 7, 3) := by decide +kernel
theorem dX12_isTrue_211 : decode cX12_isTrue 211 = .ok (.iconst 1, 1) := by decide +kernel
theorem dX12_isTrue_212 : decode cX12_isTrue 212 = .ok (.goto 32, 3) := by decide +kernel
theorem dX12_isTrue_215 : decode cX12_isTrue 215 = .ok (.iconst 0, 1) := by decide +kernel
theorem dX12_isTrue_216 : decode cX12_isTrue 216 = .ok (.goto 28, 3) := by decide +kernel
theorem dX12_isTrue_219 : decode cX12_isTrue 219 = .ok (.aload_n 0, 1) := by decide +kernel
theorem dX12_isTrue_220 : decode cX12_isTrue 220 = .ok (.getfield 60, 3) := by decide +kernel
theorem dX12_isTrue_223 : decode cX12_isTrue 223 = .ok (.iload_n 3, 1) := by decide +kernel
theorem dX12_isTrue_224 : decode cX12_isTrue 224 = .ok (.iconst 1, 1) := by decide +kernel
theorem dX12_isTrue_225 : decode cX12_isTrue 225 = .ok (.isub, 1) := by decide +kernel
theorem dX12_isTrue_226 : decode cX12_isTrue 226 = .ok (.baload, 1) := by decide +kernel
theorem dX12_isTrue_227 : decode cX12_isTrue 227 = .ok (.ifCond .ne 12, 3) := by decide +kernel
theorem dX12_isTrue_230 : decode cX12_isTrue 230 = .ok (.aload_n 0, 1) := by decide +kernel
theorem dX12_isTrue_231 : decode cX12_isTrue 231 = .ok (.getfield 60, 3) := by decide +kernel
theorem dX12_isTrue_234 : decode cX12_isTrue 234 = .ok (.iload_n 3, 1) := by decide +kernel
theorem dX12_isTrue_235 : decode cX12_isTrue 235 = .ok (.baload, 1) := by decide +kernel
theorem dX12_isTrue_236 : decode cX12_isTrue 236 = .ok (.ifCond .eq 7, 3) := by decide +kernel
theorem dX12_isTrue_239 : decode cX12_isTrue 239 = .ok (.iconst 1, 1) := by decide +kernel
theorem dX12_isTrue_240 : decode cX12_isTrue 240 = .ok (.goto 4, 3) := by decide +kernel
theorem dX12_isTrue_243 : decode cX12_isTrue 243 = .ok (.iconst 0, 1) := by decide +kernel
theorem dX12_isTrue_244 : decode cX12_isTrue 244 = .ok (.bastore, 1) := by decide +kernel
theorem dX12_isTrue_245 : decode cX12_isTrue 245 = .ok (.iinc 4 1, 3) := by decide +kernel
theorem dX12_isTrue_248 : decode cX12_isTrue 248 = .ok (.goto (-238), 3) := by decide +kernel
theorem dX12_isTrue_251 : decode cX12_isTrue 251 = .ok (.aload_n 0, 1) := by decide +kernel
theorem dX12_isTrue_252 : decode cX12_isTrue 252 = .ok (.getfield 60, 3) := by decide +kernel
theorem dX12_isTrue_255 : decode cX12_isTrue 255 = .ok (.iconst 0, 1) := by decide +kernel
theorem dX12_isTrue_256 : decode cX12_isTrue 256 = .ok (.baload, 1) := by decide +kernel
theorem dX12_isTrue_257 : decode cX12_isTrue 257 = .ok (.ireturn, 1) := by decide +kernel
theorem dX12_sum_0 : decode cX12_sum 0 = .ok (.iconst 2, 1) := by decide +kernel
theorem dX12_sum_1 : decode cX12_sum 1 = .ok (.aload_n 0, 1) := by decide +kernel
theorem dX12_sum_2 : decode cX12_sum 2 = .ok (.getfield 24, 3) := by decide +kernel
theorem dX12_sum_5 : decode cX12_sum 5 = .ok (.iload_n 1, 1) := by decide +kernel
theorem dX12_sum_6 : decode cX12_sum 6 = .ok (.iaload, 1) := by decide +kernel
theorem dX12_sum_7 : decode cX12_sum 7 = .ok (.imul, 1) := by decide +kernel
theorem dX12_sum_8 : decode cX12_sum 8 = .ok (.aload_n 0, 1) := by decide +kernel
theorem dX12_sum_9 : decode cX12_sum 9 = .ok (.getfield 30, 3) := by decide +kernel
theorem dX12_sum_12 : decode cX12_sum 12 = .ok (.iload_n 1, 1) := by decide +kernel
theorem dX12_sum_13 : decode cX12_sum 13 = .ok (.iaload, 1) := by decide +kernel
theorem dX12_sum_14 : decode cX12_sum 14 = .ok (.bipush 10, 2) := by decide +kernel
theorem dX12_sum_16 : decode cX12_sum 16 = .ok (.idiv, 1) := by decide +kernel
theorem dX12_sum_17 : decode cX12_sum 17 = .ok (.isub, 1) := by decide +kernel
theorem dX12_sum_18 : decode cX12_sum 18 = .ok (.istore_n 2, 1) := by decide +kernel
theorem dX12_sum_19 : decode cX12_sum 19 = .ok (.iconst 0, 1) := by decide +kernel
theorem dX12_sum_20 : decode cX12_sum 20 = .ok (.istore_n 3, 1) := by decide +kernel
theorem dX12_sum_21 : decode cX12_sum 21 = .ok (.aload_n 0, 1) := by decide +kernel
theorem dX12_sum_22 : decode cX12_sum 22 = .ok (.getfield 110, 3) := by decide +kernel
theorem dX12_sum_25 : decode cX12_sum 25 = .ok (.iconst (-1), 1) := by decide +kernel
theorem dX12_sum_26 : decode cX12_sum 26 = .ok (.if_icmp .eq 85, 3) := by decide +kernel
theorem dX12_sum_29 : decode cX12_sum 29 = .ok (.iload_n 3, 1) := by decide +kernel
theorem dX12_sum_30 : decode cX12_sum 30 = .ok (.aload_n 0, 1) := by decide +kernel
theorem dX12_sum_31 : decode cX12_sum 31 = .ok (.getfield 42, 3) := by decide +kernel
theorem dX12_sum_34 : decode cX12_sum 34 = .ok (.aload_n 0, 1) := by decide +kernel
theorem dX12_sum_35 : decode cX12_sum 35 = .ok (.getfield 110, 3) := by decide +kernel
theorem dX12_sum_38 : decode cX12_sum 38 = .ok (.iaload, 1) := by decide +kernel
theorem dX12_sum_39 : decode cX12_sum 39 = .ok (.if_icmp .ge 72, 3) := by decide +kernel
theorem dX12_sum_42 : decode cX12_sum 42 = .ok (.bipush 10, 2) := by decide +kernel
theorem dX12_sum_44 : decode cX12_sum 44 = .ok (.aload_n 0, 1) := by decide +kernel
theorem dX12_sum_45 : decode cX12_sum 45 = .ok (.getfield 110, 3) := by decide +kernel
theorem dX12_sum_48 : decode cX12_sum 48 = .ok (.imul, 1) := by decide +kernel
theorem dX12_sum_49 : decode cX12_sum 49 = .ok (.iload_n 3, 1) := by decide +kernel
theorem dX12_sum_50 : decode cX12_sum 50 = .ok (.iadd, 1) := by decide +kernel
theorem dX12_sum_51 : decode cX12_sum 51 = .ok (.istore 4, 2) := by decide +kernel
theorem dX12_sum_53 : decode cX12_sum 53 = .ok (.aload_n 0, 1) := by decide +kernel
theorem dX12_sum_54 : decode cX12_sum 54 = .ok (.getfield 45, 3) := by decide +kernel
theorem dX12_sum_57 : decode cX12_sum 57 = .ok (.iload 4, 2) := by decide +kernel
theorem dX12_sum_59 : decode cX12_sum 59 = .ok (.iaload, 1) := by decide +kernel
theorem dX12_sum_60 : decode cX12_sum 60 = .ok (.iconst 2, 1) := by decide +kernel
theorem dX12_sum_61 : decode cX12_sum 61 = .ok (.if_icmp .ge 44, 3) := by decide +kernel
theorem dX12_sum_64 : decode cX12_sum 64 = .ok (.aload_n 0, 1) := by decide +kernel
theorem dX12_sum_65 : decode cX12_sum 65 = .ok (.iload_n 1, 1) := by decide +kernel
theorem dX12_sum_66 : decode cX12_sum 66 = .ok (.iload 4, 2) := by decide +kernel
theorem dX12_sum_68 : decode cX12_sum 68 = .ok (.invokevirtual 230, 3) := by decide +kernel
theorem dX12_sum_71 : decode cX12_sum 71 = .ok (.ifCond .eq 34, 3) := by decide +kernel
theorem dX12_sum_74 : decode cX12_sum 74 = .ok (.iload_n 2, 1) := by decide +kernel
theorem dX12_sum_75 : decode cX12_sum 75 = .ok (.aload_n 0, 1) := by decide +kernel
theorem dX12_sum_76 : decode cX12_sum 76 = .ok (.getfield 45, 3) := by decide +kernel
theorem dX12_sum_79 : decode cX12_sum 79 = .ok (.iload 4, 2) := by decide +kernel
theorem dX12_sum_81 : decode cX12_sum 81 = .ok (.iaload, 1) := by decide +kernel
theorem dX12_sum_82 : decode cX12_sum 82 = .ok (.ifCond .ne 13, 3) := by decide +kernel
theorem dX12_sum_85 : decode cX12_sum 85 = .ok (.aload_n 0, 1) := by decide +kernel
theorem dX12_sum_86 : decode cX12_sum 86 = .ok (.getfield 48, 3) := by decide +kernel
theorem dX12_sum_89 : decode cX12_sum 89 = .ok (.iload 4, 2) := by decide +kernel
theorem dX12_sum_91 : decode cX12_sum 91 = .ok (.iaload, 1) := by decide +kernel
theorem dX12_sum_92 : decode cX12_sum 92 = .ok (.goto 11, 3) := by decide +kernel
theorem dX12_sum_95 : decode cX12_sum 95 = .ok (.aload_n 0, 1) := by decide +kernel
theorem dX12_sum_96 : decode cX12_sum 96 = .ok (.getfield 48, 3) := by decide +kernel
theorem dX12_sum_99 : decode cX12_sum 99 = .ok (.iload 4, 2) := by decide +kernel
theorem dX12_sum_101 : decode cX12_sum 101 = .ok (.iaload, 1) := by decide +kernel
theorem dX12_sum_102 : decode cX12_sum 102 = .ok (.ineg, 1) := by decide +kernel
theorem dX12_sum_103 : decode cX12_sum 103 = .ok (.iadd, 1) := by decide +kernel
theorem dX12_sum_104 : decode cX12_sum 104 = .ok (.istore_n 2, 1) := by decide +kernel
theorem dX12_sum_105 : decode cX12_sum 105 = .ok (.iinc 3 1, 3) := by decide +kernel
theorem dX12_sum_108 : decode cX12_sum 108 = .ok (.goto (-87), 3) := by decide +kernel
theorem dX12_sum_111 : decode cX12_sum 111 = .ok (.iload_n 2, 1) := by decide +kernel
theorem dX12_sum_112 : decode cX12_sum 112 = .ok (.ireturn, 1) := by decide +kernel
theorem dX12_dryBy_0 : decode cX12_dryBy 0 = .ok (.iconst 2, 1) := by decide +kernel
theorem dX12_dryBy_1 : decode cX12_dryBy 1 = .ok (.istore_n 1, 1) := by decide +kernel
theorem dX12_dryBy_2 : decode cX12_dryBy 2 = .ok (.iconst 0, 1) := by decide +kernel
theorem dX12_dryBy_3 : decode cX12_dryBy 3 = .ok (.istore_n 2, 1) := by decide +kernel
theorem dX12_dryBy_4 : decode cX12_dryBy 4 = .ok (.aload_n 0, 1) := by decide +kernel
theorem dX12_dryBy_5 : decode cX12_dryBy 5 = .ok (.getfield 110, 3) := by decide +kernel
theorem dX12_dryBy_8 : decode cX12_dryBy 8 = .ok (.iconst (-1), 1) := by decide +kernel
theorem dX12_dryBy_9 : decode cX12_dryBy 9 = .ok (.if_icmp .eq 55, 3) := by decide +kernel
theorem dX12_dryBy_12 : decode cX12_dryBy 12 = .ok (.iload_n 2, 1) := by decide +kernel
theorem dX12_dryBy_13 : decode cX12_dryBy 13 = .ok (.aload_n 0, 1) := by decide +kernel
theorem dX12_dryBy_14 : decode cX12_dryBy 14 = .ok (.getfield 42, 3) := by decide +kernel
theorem dX12_dryBy_17 : decode cX12_dryBy 17 = .ok (.aload_n 0, 1) := by decide +kernel
theorem dX12_dryBy_18 : decode cX12_dryBy 18 = .ok (.getfield 110, 3) := by decide +kernel
theorem dX12_dryBy_21 : decode cX12_dryBy 21 = .ok (.iaload, 1) := by decide +kernel
theorem dX12_dryBy_22 : decode cX12_dryBy 22 = .ok (.if_icmp .ge 42, 3) := by decide +kernel
theorem dX12_dryBy_25 : decode cX12_dryBy 25 = .ok (.aload_n 0, 1) := by decide +kernel
theorem dX12_dryBy_26 : decode cX12_dryBy 26 = .ok (.getfield 45, 3) := by decide +kernel
theorem dX12_dryBy_29 : decode cX12_dryBy 29 = .ok (.bipush 10, 2) := by decide +kernel
theorem dX12_dryBy_31 : decode cX12_dryBy 31 = .ok (.aload_n 0, 1) := by decide +kernel
theorem dX12_dryBy_32 : decode cX12_dryBy 32 = .ok (.getfield 110, 3) := by decide +kernel
theorem dX12_dryBy_35 : decode cX12_dryBy 35 = .ok (.imul, 1) := by decide +kernel
theorem dX12_dryBy_36 : decode cX12_dryBy 36 = .ok (.iload_n 2, 1) := by decide +kernel
theorem dX12_dryBy_37 : decode cX12_dryBy 37 = .ok (.iadd, 1) := by decide +kernel
theorem dX12_dryBy_38 : decode cX12_dryBy 38 = .ok (.iaload, 1) := by decide +kernel
theorem dX12_dryBy_39 : decode cX12_dryBy 39 = .ok (.iconst 2, 1) := by decide +kernel
theorem dX12_dryBy_40 : decode cX12_dryBy 40 = .ok (.if_icmp .ne 18, 3) := by decide +kernel
theorem dX12_dryBy_43 : decode cX12_dryBy 43 = .ok (.aload_n 0, 1) := by decide +kernel
theorem dX12_dryBy_44 : decode cX12_dryBy 44 = .ok (.getfield 48, 3) := by decide +kernel
theorem dX12_dryBy_47 : decode cX12_dryBy 47 = .ok (.bipush 10, 2) := by decide +kernel
theorem dX12_dryBy_49 : decode cX12_dryBy 49 = .ok (.aload_n 0, 1) := by decide +kernel
theorem dX12_dryBy_50 : decode cX12_dryBy 50 = .ok (.getfield 110, 3) := by decide +kernel
theorem dX12_dryBy_53 : decode cX12_dryBy 53 = .ok (.imul, 1) := by decide +kernel
theorem dX12_dryBy_54 : decode cX12_dryBy 54 = .ok (.iload_n 2, 1) := by decide +kernel
theorem dX12_dryBy_55 : decode cX12_dryBy 55 = .ok (.iadd, 1) := by decide +kernel
theorem dX12_dryBy_56 : decode cX12_dryBy 56 = .ok (.iaload, 1) := by decide +kernel
theorem dX12_dryBy_57 : decode cX12_dryBy 57 = .ok (.istore_n 1, 1) := by decide +kernel
theorem dX12_dryBy_58 : decode cX12_dryBy 58 = .ok (.iinc 2 1, 3) := by decide +kernel
theorem dX12_dryBy_61 : decode cX12_dryBy 61 = .ok (.goto (-57), 3) := by decide +kernel
theorem dX12_dryBy_64 : decode cX12_dryBy 64 = .ok (.iload_n 1, 1) := by decide +kernel
theorem dX12_dryBy_65 : decode cX12_dryBy 65 = .ok (.ireturn, 1) := by decide +kernel
theorem dX12_areSo_0 : decode cX12_areSo 0 = .ok (.iconst 0, 1) := by decide +kernel
theorem dX12_areSo_1 : decode cX12_areSo 1 = .ok (.istore_n 2, 1) := by decide +kernel
theorem dX12_areSo_2 : decode cX12_areSo 2 = .ok (.iconst 0, 1) := by decide +kernel
theorem dX12_areSo_3 : decode cX12_areSo 3 = .ok (.istore_n 3, 1) := by decide +kernel
theorem dX12_areSo_4 : decode cX12_areSo 4 = .ok (.iload_n 3, 1) := by decide +kernel
theorem dX12_areSo_5 : decode cX12_areSo 5 = .ok (.aload_n 0, 1) := by decide +kernel
theorem dX12_areSo_6 : decode cX12_areSo 6 = .ok (.getfield 114, 3) := by decide +kernel
theorem dX12_areSo_9 : decode cX12_areSo 9 = .ok (.if_icmp .ge 25, 3) := by decide +kernel
theorem dX12_areSo_12 : decode cX12_areSo 12 = .ok (.aload_n 0, 1) := by decide +kernel
theorem dX12_areSo_13 : decode cX12_areSo 13 = .ok (.getfield 33, 3) := by decide +kernel
theorem dX12_areSo_16 : decode cX12_areSo 16 = .ok (.iload_n 3, 1) := by decide +kernel
theorem dX12_areSo_17 : decode cX12_areSo 17 = .ok (.iaload, 1) := by decide +kernel
theorem dX12_areSo_18 : decode cX12_areSo 18 = .ok (.iload_n 1, 1) := by decide +kernel
theorem dX12_areSo_19 : decode cX12_areSo 19 = .ok (.if_icmp .ne 9, 3) := by decide +kernel
theorem dX12_areSo_22 : decode cX12_areSo 22 = .ok (.iload_n 2, 1) := by decide +kernel
theorem dX12_areSo_23 : decode cX12_areSo 23 = .ok (.iconst 1, 1) := by decide +kernel
theorem dX12_areSo_24 : decode cX12_areSo 24 = .ok (.iload_n 3, 1) := by decide +kernel
theorem dX12_areSo_25 : decode cX12_areSo 25 = .ok (.ishl, 1) := by decide +kernel
theorem dX12_areSo_26 : decode cX12_areSo 26 = .ok (.ior, 1) := by decide +kernel
theorem dX12_areSo_27 : decode cX12_areSo 27 = .ok (.istore_n 2, 1) := by decide +kernel
theorem dX12_areSo_28 : decode cX12_areSo 28 = .ok (.iinc 3 1, 3) := by decide +kernel
theorem dX12_areSo_31 : decode cX12_areSo 31 = .ok (.goto (-27), 3) := by decide +kernel
theorem dX12_areSo_34 : decode cX12_areSo 34 = .ok (.iload_n 2, 1) := by decide +kernel
theorem dX12_areSo_35 : decode cX12_areSo 35 = .ok (.ireturn, 1) := by decide +kernel
theorem dX12_lightOf_0 : decode cX12_lightOf 0 = .ok (.aload_n 0, 1) := by decide +kernel
theorem dX12_lightOf_1 : decode cX12_lightOf 1 = .ok (.iload_n 1, 1) := by decide +kernel
theorem dX12_lightOf_2 : decode cX12_lightOf 2 = .ok (.invokevirtual 234, 3) := by decide +kernel
theorem dX12_lightOf_5 : decode cX12_lightOf 5 = .ok (.istore_n 2, 1) := by decide +kernel
theorem dX12_lightOf_6 : decode cX12_lightOf 6 = .ok (.aload_n 0, 1) := by decide +kernel
theorem dX12_lightOf_7 : decode cX12_lightOf 7 = .ok (.getfield 15, 3) := by decide +kernel
theorem dX12_lightOf_10 : decode cX12_lightOf 10 = .ok (.aload_n 0, 1) := by decide +kernel
theorem dX12_lightOf_11 : decode cX12_lightOf 11 = .ok (.getfield 224, 3) := by decide +kernel
theorem dX12_lightOf_14 : decode cX12_lightOf 14 = .ok (.iconst 4, 1) := by decide +kernel
theorem dX12_lightOf_15 : decode cX12_lightOf 15 = .ok (.irem, 1) := by decide +kernel
theorem dX12_lightOf_16 : decode cX12_lightOf 16 = .ok (.iaload, 1) := by decide +kernel
theorem dX12_lightOf_17 : decode cX12_lightOf 17 = .ok (.aload_n 0, 1) := by decide +kernel
theorem dX12_lightOf_18 : decode cX12_lightOf 18 = .ok (.getfield 21, 3) := by decide +kernel
theorem dX12_lightOf_21 : decode cX12_lightOf 21 = .ok (.iload_n 1, 1) := by decide +kernel
theorem dX12_lightOf_22 : decode cX12_lightOf 22 = .ok (.iaload, 1) := by decide +kernel
theorem dX12_lightOf_23 : decode cX12_lightOf 23 = .ok (.if_icmp .le 7, 3) := by decide +kernel
theorem dX12_lightOf_26 : decode cX12_lightOf 26 = .ok (.iconst 0, 1) := by decide +kernel
theorem dX12_lightOf_27 : decode cX12_lightOf 27 = .ok (.goto 4, 3) := by decide +kernel
theorem dX12_lightOf_30 : decode cX12_lightOf 30 = .ok (.iload_n 2, 1) := by decide +kernel
theorem dX12_lightOf_31 : decode cX12_lightOf 31 = .ok (.istore_n 3, 1) := by decide +kernel
theorem dX12_lightOf_32 : decode cX12_lightOf 32 = .ok (.aload_n 0, 1) := by decide +kernel
theorem dX12_lightOf_33 : decode cX12_lightOf 33 = .ok (.getfield 18, 3) := by decide +kernel
theorem dX12_lightOf_36 : decode cX12_lightOf 36 = .ok (.iload_n 1, 1) := by decide +kernel
theorem dX12_lightOf_37 : decode cX12_lightOf 37 = .ok (.iaload, 1) := by decide +kernel
theorem dX12_lightOf_38 : decode cX12_lightOf 38 = .ok (.tableswitch 112 1 6 #[38, 47, 51, 53, 73, 94], 38) := by decide +kernel
theorem dX12_lightOf_76 : decode cX12_lightOf 76 = .ok (.iload_n 2, 1) := by decide +kernel
theorem dX12_lightOf_77 : decode cX12_lightOf 77 = .ok (.aload_n 0, 1) := by decide +kernel
theorem dX12_lightOf_78 : decode cX12_lightOf 78 = .ok (.getfield 21, 3) := by decide +kernel
theorem dX12_lightOf_81 : decode cX12_lightOf 81 = .ok (.iload_n 1, 1) := by decide +kernel
theorem dX12_lightOf_82 : decode cX12_lightOf 82 = .ok (.iaload, 1) := by decide +kernel
theorem dX12_lightOf_83 : decode cX12_lightOf 83 = .ok (.iadd, 1) := by decide +kernel
theorem dX12_lightOf_84 : decode cX12_lightOf 84 = .ok (.ireturn, 1) := by decide +kernel
theorem dX12_lightOf_85 : decode cX12_lightOf 85 = .ok (.iload_n 2, 1) := by decide +kernel
theorem dX12_lightOf_86 : decode cX12_lightOf 86 = .ok (.iconst 2, 1) := by decide +kernel
theorem dX12_lightOf_87 : decode cX12_lightOf 87 = .ok (.idiv, 1) := by decide +kernel
theorem dX12_lightOf_88 : decode cX12_lightOf 88 = .ok (.ireturn, 1) := by decide +kernel
theorem dX12_lightOf_89 : decode cX12_lightOf 89 = .ok (.iload_n 3, 1) := by decide +kernel
theorem dX12_lightOf_90 : decode cX12_lightOf 90 = .ok (.ireturn, 1) := by decide +kernel
theorem dX12_lightOf_91 : decode cX12_lightOf 91 = .ok (.iload_n 2, 1) := by decide +kernel
theorem dX12_lightOf_92 : decode cX12_lightOf 92 = .ok (.aload_n 0, 1) := by decide +kernel
theorem dX12_lightOf_93 : decode cX12_lightOf 93 = .ok (.getfield 21, 3) := by decide +kernel
theorem dX12_lightOf_96 : decode cX12_lightOf 96 = .ok (.iload_n 1, 1) := by decide +kernel
theorem dX12_lightOf_97 : decode cX12_lightOf 97 = .ok (.iaload, 1) := by decide +kernel
theorem dX12_lightOf_98 : decode cX12_lightOf 98 = .ok (.iadd, 1) := by decide +kernel
theorem dX12_lightOf_99 : decode cX12_lightOf 99 = .ok (.iconst 2, 1) := by decide +kernel
theorem dX12_lightOf_100 : decode cX12_lightOf 100 = .ok (.aload_n 0, 1) := by decide +kernel
theorem dX12_lightOf_101 : decode cX12_lightOf 101 = .ok (.iconst 2, 1) := by decide +kernel
theorem dX12_lightOf_102 : decode cX12_lightOf 102 = .ok (.invokevirtual 237, 3) := by decide +kernel
theorem dX12_lightOf_105 : decode cX12_lightOf 105 = .ok (.invokestatic 240, 3) := by decide +kernel
theorem dX12_lightOf_108 : decode cX12_lightOf 108 = .ok (.imul, 1) := by decide +kernel
theorem dX12_lightOf_109 : decode cX12_lightOf 109 = .ok (.iadd, 1) := by decide +kernel
theorem dX12_lightOf_110 : decode cX12_lightOf 110 = .ok (.ireturn, 1) := by decide +kernel
theorem dX12_lightOf_111 : decode cX12_lightOf 111 = .ok (.aload_n 0, 1) := by decide +kernel
theorem dX12_lightOf_112 : decode cX12_lightOf 112 = .ok (.getfield 224, 3) := by decide +kernel
theorem dX12_lightOf_115 : decode cX12_lightOf 115 = .ok (.iconst 3, 1) := by decide +kernel
theorem dX12_lightOf_116 : decode cX12_lightOf 116 = .ok (.irem, 1) := by decide +kernel
theorem dX12_lightOf_117 : decode cX12_lightOf 117 = .ok (.ifCond .ne 11, 3) := by decide +kernel
theorem dX12_lightOf_120 : decode cX12_lightOf 120 = .ok (.iload_n 2, 1) := by decide +kernel
theorem dX12_lightOf_121 : decode cX12_lightOf 121 = .ok (.iconst 2, 1) := by decide +kernel
theorem dX12_lightOf_122 : decode cX12_lightOf 122 = .ok (.idiv, 1) := by decide +kernel
theorem dX12_lightOf_123 : decode cX12_lightOf 123 = .ok (.iconst 2, 1) := by decide +kernel
theorem dX12_lightOf_124 : decode cX12_lightOf 124 = .ok (.imul, 1) := by decide +kernel
theorem dX12_lightOf_125 : decode cX12_lightOf 125 = .ok (.goto 6, 3) := by decide +kernel
theorem dX12_lightOf_128 : decode cX12_lightOf 128 = .ok (.iload_n 2, 1) := by decide +kernel
theorem dX12_lightOf_129 : decode cX12_lightOf 129 = .ok (.iconst 2, 1) := by decide +kernel
theorem dX12_lightOf_130 : decode cX12_lightOf 130 = .ok (.idiv, 1) := by decide +kernel
theorem dX12_lightOf_131 : decode cX12_lightOf 131 = .ok (.ireturn, 1) := by decide +kernel
theorem dX12_lightOf_132 : decode cX12_lightOf 132 = .ok (.iload_n 3, 1) := by decide +kernel
theorem dX12_lightOf_133 : decode cX12_lightOf 133 = .ok (.aload_n 0, 1) := by decide +kernel
theorem dX12_lightOf_134 : decode cX12_lightOf 134 = .ok (.getfield 36, 3) := by decide +kernel
theorem dX12_lightOf_137 : decode cX12_lightOf 137 = .ok (.iconst 4, 1) := by decide +kernel
theorem dX12_lightOf_138 : decode cX12_lightOf 138 = .ok (.iload_n 1, 1) := by decide +kernel
theorem dX12_lightOf_139 : decode cX12_lightOf 139 = .ok (.imul, 1) := by decide +kernel
theorem dX12_lightOf_140 : decode cX12_lightOf 140 = .ok (.aload_n 0, 1) := by decide +kernel
theorem dX12_lightOf_141 : decode cX12_lightOf 141 = .ok (.getfield 224, 3) := by decide +kernel
theorem dX12_lightOf_144 : decode cX12_lightOf 144 = .ok (.iconst 4, 1) := by decide +kernel
theorem dX12_lightOf_145 : decode cX12_lightOf 145 = .ok (.irem, 1) := by decide +kernel
theorem dX12_lightOf_146 : decode cX12_lightOf 146 = .ok (.iadd, 1) := by decide +kernel
theorem dX12_lightOf_147 : decode cX12_lightOf 147 = .ok (.iaload, 1) := by decide +kernel
theorem dX12_lightOf_148 : decode cX12_lightOf 148 = .ok (.iadd, 1) := by decide +kernel
theorem dX12_lightOf_149 : decode cX12_lightOf 149 = .ok (.ireturn, 1) := by decide +kernel
theorem dX12_lightOf_150 : decode cX12_lightOf 150 = .ok (.iload_n 2, 1) := by decide +kernel
theorem dX12_lightOf_151 : decode cX12_lightOf 151 = .ok (.ireturn, 1) := by decide +kernel
theorem dX12_lights_0 : decode cX12_lights 0 = .ok (.aload_n 0, 1) := by decide +kernel
theorem dX12_lights_1 : decode cX12_lights 1 = .ok (.iload_n 1, 1) := by decide +kernel
theorem dX12_lights_2 : decode cX12_lights 2 = .ok (.invokevirtual 128, 3) := by decide +kernel
theorem dX12_lights_5 : decode cX12_lights 5 = .ok (.istore_n 2, 1) := by decide +kernel
theorem dX12_lights_6 : decode cX12_lights 6 = .ok (.aload_n 0, 1) := by decide +kernel
theorem dX12_lights_7 : decode cX12_lights 7 = .ok (.getfield 33, 3) := by decide +kernel
theorem dX12_lights_10 : decode cX12_lights 10 = .ok (.iload_n 1, 1) := by decide +kernel
theorem dX12_lights_11 : decode cX12_lights 11 = .ok (.iload_n 2, 1) := by decide +kernel
theorem dX12_lights_12 : decode cX12_lights 12 = .ok (.ifCond .le 7, 3) := by decide +kernel
theorem dX12_lights_15 : decode cX12_lights 15 = .ok (.iconst 2, 1) := by decide +kernel
theorem dX12_lights_16 : decode cX12_lights 16 = .ok (.goto 4, 3) := by decide +kernel
theorem dX12_lights_19 : decode cX12_lights 19 = .ok (.iconst 1, 1) := by decide +kernel
theorem dX12_lights_20 : decode cX12_lights 20 = .ok (.iastore, 1) := by decide +kernel
theorem dX12_lights_21 : decode cX12_lights 21 = .ok (.iload_n 2, 1) := by decide +kernel
theorem dX12_lights_22 : decode cX12_lights 22 = .ok (.ifCond .le 31, 3) := by decide +kernel
theorem dX12_lights_25 : decode cX12_lights 25 = .ok (.aload_n 0, 1) := by decide +kernel
theorem dX12_lights_26 : decode cX12_lights 26 = .ok (.getfield 9, 3) := by decide +kernel
theorem dX12_lights_29 : decode cX12_lights 29 = .ok (.aload_n 0, 1) := by decide +kernel
theorem dX12_lights_30 : decode cX12_lights 30 = .ok (.getfield 27, 3) := by decide +kernel
theorem dX12_lights_33 : decode cX12_lights 33 = .ok (.iload_n 1, 1) := by decide +kernel
theorem dX12_lights_34 : decode cX12_lights 34 = .ok (.iaload, 1) := by decide +kernel
theorem dX12_lights_35 : decode cX12_lights 35 = .ok (.iconst 0, 1) := by decide +kernel
theorem dX12_lights_36 : decode cX12_lights 36 = .ok (.aload_n 0, 1) := by decide +kernel
theorem dX12_lights_37 : decode cX12_lights 37 = .ok (.getfield 9, 3) := by decide +kernel
theorem dX12_lights_40 : decode cX12_lights 40 = .ok (.aload_n 0, 1) := by decide +kernel
theorem dX12_lights_41 : decode cX12_lights 41 = .ok (.getfield 27, 3) := by decide +kernel
theorem dX12_lights_44 : decode cX12_lights 44 = .ok (.iload_n 1, 1) := by decide +kernel
theorem dX12_lights_45 : decode cX12_lights 45 = .ok (.iaload, 1) := by decide +kernel
theorem dX12_lights_46 : decode cX12_lights 46 = .ok (.iaload, 1) := by decide +kernel
theorem dX12_lights_47 : decode cX12_lights 47 = .ok (.iload_n 2, 1) := by decide +kernel
theorem dX12_lights_48 : decode cX12_lights 48 = .ok (.isub, 1) := by decide +kernel
theorem dX12_lights_49 : decode cX12_lights 49 = .ok (.invokestatic 245, 3) := by decide +kernel
theorem dX12_lights_52 : decode cX12_lights 52 = .ok (.iastore, 1) := by decide +kernel
theorem dX12_lights_53 : decode cX12_lights 53 = .ok (.return_, 1) := by decide +kernel
theorem dX12_lightsAll_0 : decode cX12_lightsAll 0 = .ok (.iconst 0, 1) := by decide +kernel
theorem dX12_lightsAll_1 : decode cX12_lightsAll 1 = .ok (.istore_n 2, 1) := by decide +kernel
theorem dX12_lightsAll_2 : decode cX12_lightsAll 2 = .ok (.iload_n 2, 1) := by decide +kernel
theorem dX12_lightsAll_3 : decode cX12_lightsAll 3 = .ok (.aload_n 0, 1) := by decide +kernel
theorem dX12_lightsAll_4 : decode cX12_lightsAll 4 = .ok (.getfield 114, 3) := by decide +kernel
theorem dX12_lightsAll_7 : decode cX12_lightsAll 7 = .ok (.if_icmp .ge 22, 3) := by decide +kernel
theorem dX12_lightsAll_10 : decode cX12_lightsAll 10 = .ok (.iload_n 1, 1) := by decide +kernel
theorem dX12_lightsAll_11 : decode cX12_lightsAll 11 = .ok (.iload_n 2, 1) := by decide +kernel
theorem dX12_lightsAll_12 : decode cX12_lightsAll 12 = .ok (.invokestatic 250, 3) := by decide +kernel
theorem dX12_lightsAll_15 : decode cX12_lightsAll 15 = .ok (.ifCond .eq 8, 3) := by decide +kernel
theorem dX12_lightsAll_18 : decode cX12_lightsAll 18 = .ok (.aload_n 0, 1) := by decide +kernel
theorem dX12_lightsAll_19 : decode cX12_lightsAll 19 = .ok (.iload_n 2, 1) := by decide +kernel
theorem dX12_lightsAll_20 : decode cX12_lightsAll 20 = .ok (.invokevirtual 142, 3) := by decide +kernel
theorem dX12_lightsAll_23 : decode cX12_lightsAll 23 = .ok (.iinc 2 1, 3) := by decide +kernel
theorem dX12_lightsAll_26 : decode cX12_lightsAll 26 = .ok (.goto (-24), 3) := by decide +kernel
theorem dX12_lightsAll_29 : decode cX12_lightsAll 29 = .ok (.return_, 1) := by decide +kernel
theorem dX12_goesMinute_0 : decode cX12_goesMinute 0 = .ok (.iconst 3, 1) := by decide +kernel
theorem dX12_goesMinute_1 : decode cX12_goesMinute 1 = .ok (.aload_n 0, 1) := by decide +kernel
theorem dX12_goesMinute_2 : decode cX12_goesMinute 2 = .ok (.getfield 15, 3) := by decide +kernel
theorem dX12_goesMinute_5 : decode cX12_goesMinute 5 = .ok (.aload_n 0, 1) := by decide +kernel
theorem dX12_goesMinute_6 : decode cX12_goesMinute 6 = .ok (.getfield 224, 3) := by decide +kernel
theorem dX12_goesMinute_9 : decode cX12_goesMinute 9 = .ok (.iconst 4, 1) := by decide +kernel
theorem dX12_goesMinute_10 : decode cX12_goesMinute 10 = .ok (.irem, 1) := by decide +kernel
theorem dX12_goesMinute_11 : decode cX12_goesMinute 11 = .ok (.iaload, 1) := by decide +kernel
theorem dX12_goesMinute_12 : decode cX12_goesMinute 12 = .ok (.imul, 1) := by decide +kernel
theorem dX12_goesMinute_13 : decode cX12_goesMinute 13 = .ok (.aload_n 0, 1) := by decide +kernel
theorem dX12_goesMinute_14 : decode cX12_goesMinute 14 = .ok (.invokevirtual 253, 3) := by decide +kernel
theorem dX12_goesMinute_17 : decode cX12_goesMinute 17 = .ok (.isub, 1) := by decide +kernel
theorem dX12_goesMinute_18 : decode cX12_goesMinute 18 = .ok (.istore_n 1, 1) := by decide +kernel
theorem dX12_goesMinute_19 : decode cX12_goesMinute 19 = .ok (.iconst 0, 1) := by decide +kernel
theorem dX12_goesMinute_20 : decode cX12_goesMinute 20 = .ok (.istore_n 2, 1) := by decide +kernel
theorem dX12_goesMinute_21 : decode cX12_goesMinute 21 = .ok (.iload_n 2, 1) := by decide +kernel
theorem dX12_goesMinute_22 : decode cX12_goesMinute 22 = .ok (.aload_n 0, 1) := by decide +kernel
theorem dX12_goesMinute_23 : decode cX12_goesMinute 23 = .ok (.getfield 114, 3) := by decide +kernel
theorem dX12_goesMinute_26 : decode cX12_goesMinute 26 = .ok (.if_icmp .ge 41, 3) := by decide +kernel
theorem dX12_goesMinute_29 : decode cX12_goesMinute 29 = .ok (.aload_n 0, 1) := by decide +kernel
theorem dX12_goesMinute_30 : decode cX12_goesMinute 30 = .ok (.getfield 33, 3) := by decide +kernel
theorem dX12_goesMinute_33 : decode cX12_goesMinute 33 = .ok (.iload_n 2, 1) := by decide +kernel
theorem dX12_goesMinute_34 : decode cX12_goesMinute 34 = .ok (.iaload, 1) := by decide +kernel
theorem dX12_goesMinute_35 : decode cX12_goesMinute 35 = .ok (.ifCond .ne 26, 3) := by decide +kernel
theorem dX12_goesMinute_38 : decode cX12_goesMinute 38 = .ok (.aload_n 0, 1) := by decide +kernel
theorem dX12_goesMinute_39 : decode cX12_goesMinute 39 = .ok (.getfield 30, 3) := by decide +kernel
theorem dX12_goesMinute_42 : decode cX12_goesMinute 42 = .ok (.iload_n 2, 1) := by decide +kernel
theorem dX12_goesMinute_43 : decode cX12_goesMinute 43 = .ok (.iconst 0, 1) := by decide +kernel
theorem dX12_goesMinute_44 : decode cX12_goesMinute 44 = .ok (.bipush 99, 2) := by decide +kernel
theorem dX12_goesMinute_46 : decode cX12_goesMinute 46 = .ok (.aload_n 0, 1) := by decide +kernel
theorem dX12_goesMinute_47 : decode cX12_goesMinute 47 = .ok (.getfield 30, 3) := by decide +kernel
theorem dX12_goesMinute_50 : decode cX12_goesMinute 50 = .ok (.iload_n 2, 1) := by decide +kernel
theorem dX12_goesMinute_51 : decode cX12_goesMinute 51 = .ok (.iaload, 1) := by decide +kernel
theorem dX12_goesMinute_52 : decode cX12_goesMinute 52 = .ok (.iload_n 1, 1) := by decide +kernel
theorem dX12_goesMinute_53 : decode cX12_goesMinute 53 = .ok (.iadd, 1) := by decide +kernel
theorem dX12_goesMinute_54 : decode cX12_goesMinute 54 = .ok (.invokestatic 256, 3) := by decide +kernel
theorem dX12_goesMinute_57 : decode cX12_goesMinute 57 = .ok (.invokestatic 245, 3) := by decide +kernel
theorem dX12_goesMinute_60 : decode cX12_goesMinute 60 = .ok (.iastore, 1) := by decide +kernel
theorem dX12_goesMinute_61 : decode cX12_goesMinute 61 = .ok (.iinc 2 1, 3) := by decide +kernel
theorem dX12_goesMinute_64 : decode cX12_goesMinute 64 = .ok (.goto (-43), 3) := by decide +kernel
theorem dX12_goesMinute_67 : decode cX12_goesMinute 67 = .ok (.aload_n 0, 1) := by decide +kernel
theorem dX12_goesMinute_68 : decode cX12_goesMinute 68 = .ok (.dup, 1) := by decide +kernel
theorem dX12_goesMinute_69 : decode cX12_goesMinute 69 = .ok (.getfield 224, 3) := by decide +kernel
theorem dX12_goesMinute_72 : decode cX12_goesMinute 72 = .ok (.iconst 1, 1) := by decide +kernel
theorem dX12_goesMinute_73 : decode cX12_goesMinute 73 = .ok (.iadd, 1) := by decide +kernel
theorem dX12_goesMinute_74 : decode cX12_goesMinute 74 = .ok (.putfield 224, 3) := by decide +kernel
theorem dX12_goesMinute_77 : decode cX12_goesMinute 77 = .ok (.return_, 1) := by decide +kernel
theorem dX12_even_0 : decode cX12_even 0 = .ok (.iconst 0, 1) := by decide +kernel
theorem dX12_even_1 : decode cX12_even 1 = .ok (.istore_n 1, 1) := by decide +kernel
theorem dX12_even_2 : decode cX12_even 2 = .ok (.iconst 0, 1) := by decide +kernel
theorem dX12_even_3 : decode cX12_even 3 = .ok (.istore_n 2, 1) := by decide +kernel
theorem dX12_even_4 : decode cX12_even 4 = .ok (.iload_n 2, 1) := by decide +kernel
theorem dX12_even_5 : decode cX12_even 5 = .ok (.iconst 4, 1) := by decide +kernel
theorem dX12_even_6 : decode cX12_even 6 = .ok (.if_icmp .ge 24, 3) := by decide +kernel
theorem dX12_even_9 : decode cX12_even 9 = .ok (.aload_n 0, 1) := by decide +kernel
theorem dX12_even_10 : decode cX12_even 10 = .ok (.getfield 9, 3) := by decide +kernel
theorem dX12_even_13 : decode cX12_even 13 = .ok (.iload_n 2, 1) := by decide +kernel
theorem dX12_even_14 : decode cX12_even 14 = .ok (.iaload, 1) := by decide +kernel
theorem dX12_even_15 : decode cX12_even 15 = .ok (.ifCond .ne 9, 3) := by decide +kernel
theorem dX12_even_18 : decode cX12_even 18 = .ok (.iload_n 1, 1) := by decide +kernel
theorem dX12_even_19 : decode cX12_even 19 = .ok (.iconst 1, 1) := by decide +kernel
theorem dX12_even_20 : decode cX12_even 20 = .ok (.iload_n 2, 1) := by decide +kernel
theorem dX12_even_21 : decode cX12_even 21 = .ok (.ishl, 1) := by decide +kernel
theorem dX12_even_22 : decode cX12_even 22 = .ok (.ior, 1) := by decide +kernel
theorem dX12_even_23 : decode cX12_even 23 = .ok (.istore_n 1, 1) := by decide +kernel
theorem dX12_even_24 : decode cX12_even 24 = .ok (.iinc 2 1, 3) := by decide +kernel
theorem dX12_even_27 : decode cX12_even 27 = .ok (.goto (-23), 3) := by decide +kernel
theorem dX12_even_30 : decode cX12_even 30 = .ok (.iload_n 1, 1) := by decide +kernel
theorem dX12_even_31 : decode cX12_even 31 = .ok (.ireturn, 1) := by decide +kernel
theorem dX12_allGrief_0 : decode cX12_allGrief 0 = .ok (.iconst 0, 1) := by decide +kernel
theorem dX12_allGrief_1 : decode cX12_allGrief 1 = .ok (.istore_n 1, 1) := by decide +kernel
theorem dX12_allGrief_2 : decode cX12_allGrief 2 = .ok (.iconst 0, 1) := by decide +kernel
theorem dX12_allGrief_3 : decode cX12_allGrief 3 = .ok (.istore_n 2, 1) := by decide +kernel
theorem dX12_allGrief_4 : decode cX12_allGrief 4 = .ok (.iload_n 2, 1) := by decide +kernel
theorem dX12_allGrief_5 : decode cX12_allGrief 5 = .ok (.iconst 4, 1) := by decide +kernel
theorem dX12_allGrief_6 : decode cX12_allGrief 6 = .ok (.if_icmp .ge 18, 3) := by decide +kernel
theorem dX12_allGrief_9 : decode cX12_allGrief 9 = .ok (.iload_n 1, 1) := by decide +kernel
theorem dX12_allGrief_10 : decode cX12_allGrief 10 = .ok (.aload_n 0, 1) := by decide +kernel
theorem dX12_allGrief_11 : decode cX12_allGrief 11 = .ok (.getfield 9, 3) := by decide +kernel
theorem dX12_allGrief_14 : decode cX12_allGrief 14 = .ok (.iload_n 2, 1) := by decide +kernel
theorem dX12_allGrief_15 : decode cX12_allGrief 15 = .ok (.iaload, 1) := by decide +kernel
theorem dX12_allGrief_16 : decode cX12_allGrief 16 = .ok (.iadd, 1) := by decide +kernel
theorem dX12_allGrief_17 : decode cX12_allGrief 17 = .ok (.istore_n 1, 1) := by decide +kernel
theorem dX12_allGrief_18 : decode cX12_allGrief 18 = .ok (.iinc 2 1, 3) := by decide +kernel
theorem dX12_allGrief_21 : decode cX12_allGrief 21 = .ok (.goto (-17), 3) := by decide +kernel
theorem dX12_allGrief_24 : decode cX12_allGrief 24 = .ok (.iload_n 1, 1) := by decide +kernel
theorem dX12_allGrief_25 : decode cX12_allGrief 25 = .ok (.ireturn, 1) := by decide +kernel
theorem dX12_told_0 : decode cX12_told 0 = .ok (.iload_n 1, 1) := by decide +kernel
theorem dX12_told_1 : decode cX12_told 1 = .ok (.bipush 10, 2) := by decide +kernel
theorem dX12_told_3 : decode cX12_told 3 = .ok (.bipush 13, 2) := by decide +kernel
theorem dX12_told_5 : decode cX12_told 5 = .ok (.invokestatic 117, 3) := by decide +kernel
theorem dX12_told_8 : decode cX12_told 8 = .ok (.ifCond .eq 13, 3) := by decide +kernel
theorem dX12_told_11 : decode cX12_told 11 = .ok (.aload_n 0, 1) := by decide +kernel
theorem dX12_told_12 : decode cX12_told 12 = .ok (.getfield 15, 3) := by decide +kernel
theorem dX12_told_15 : decode cX12_told 15 = .ok (.iload_n 1, 1) := by decide +kernel
theorem dX12_told_16 : decode cX12_told 16 = .ok (.bipush 10, 2) := by decide +kernel
theorem dX12_told_18 : decode cX12_told 18 = .ok (.isub, 1) := by decide +kernel
theorem dX12_told_19 : decode cX12_told 19 = .ok (.iaload, 1) := by decide +kernel
theorem dX12_told_20 : decode cX12_told 20 = .ok (.ireturn, 1) := by decide +kernel
theorem dX12_told_21 : decode cX12_told 21 = .ok (.iload_n 1, 1) := by decide +kernel
theorem dX12_told_22 : decode cX12_told 22 = .ok (.bipush 20, 2) := by decide +kernel
theorem dX12_told_24 : decode cX12_told 24 = .ok (.isub, 1) := by decide +kernel
theorem dX12_told_25 : decode cX12_told 25 = .ok (.invokestatic 121, 3) := by decide +kernel
theorem dX12_told_28 : decode cX12_told 28 = .ok (.ifCond .eq 13, 3) := by decide +kernel
theorem dX12_told_31 : decode cX12_told 31 = .ok (.aload_n 0, 1) := by decide +kernel
theorem dX12_told_32 : decode cX12_told 32 = .ok (.getfield 9, 3) := by decide +kernel
theorem dX12_told_35 : decode cX12_told 35 = .ok (.iload_n 1, 1) := by decide +kernel
theorem dX12_told_36 : decode cX12_told 36 = .ok (.bipush 20, 2) := by decide +kernel
theorem dX12_told_38 : decode cX12_told 38 = .ok (.isub, 1) := by decide +kernel
theorem dX12_told_39 : decode cX12_told 39 = .ok (.iaload, 1) := by decide +kernel
theorem dX12_told_40 : decode cX12_told 40 = .ok (.ireturn, 1) := by decide +kernel
theorem dX12_told_41 : decode cX12_told 41 = .ok (.iload_n 1, 1) := by decide +kernel
theorem dX12_told_42 : decode cX12_told 42 = .ok (.bipush 30, 2) := by decide +kernel
theorem dX12_told_44 : decode cX12_told 44 = .ok (.isub, 1) := by decide +kernel
theorem dX12_told_45 : decode cX12_told 45 = .ok (.invokestatic 121, 3) := by decide +kernel
theorem dX12_told_48 : decode cX12_told 48 = .ok (.ifCond .eq 12, 3) := by decide +kernel
theorem dX12_told_51 : decode cX12_told 51 = .ok (.aload_n 0, 1) := by decide +kernel
theorem dX12_told_52 : decode cX12_told 52 = .ok (.iload_n 1, 1) := by decide +kernel
theorem dX12_told_53 : decode cX12_told 53 = .ok (.bipush 30, 2) := by decide +kernel
theorem dX12_told_55 : decode cX12_told 55 = .ok (.isub, 1) := by decide +kernel
theorem dX12_told_56 : decode cX12_told 56 = .ok (.invokevirtual 259, 3) := by decide +kernel
theorem dX12_told_59 : decode cX12_told 59 = .ok (.ireturn, 1) := by decide +kernel
theorem dX12_told_60 : decode cX12_told 60 = .ok (.iload_n 1, 1) := by decide +kernel
theorem dX12_told_61 : decode cX12_told 61 = .ok (.tableswitch 71 0 5 #[39, 44, 49, 54, 59, 65], 39) := by decide +kernel
theorem dX12_told_100 : decode cX12_told 100 = .ok (.aload_n 0, 1) := by decide +kernel
theorem dX12_told_101 : decode cX12_told 101 = .ok (.getfield 224, 3) := by decide +kernel
theorem dX12_told_104 : decode cX12_told 104 = .ok (.ireturn, 1) := by decide +kernel
theorem dX12_told_105 : decode cX12_told 105 = .ok (.aload_n 0, 1) := by decide +kernel
theorem dX12_told_106 : decode cX12_told 106 = .ok (.invokevirtual 253, 3) := by decide +kernel
theorem dX12_told_109 : decode cX12_told 109 = .ok (.ireturn, 1) := by decide +kernel
theorem dX12_told_110 : decode cX12_told 110 = .ok (.aload_n 0, 1) := by decide +kernel
theorem dX12_told_111 : decode cX12_told 111 = .ok (.invokevirtual 262, 3) := by decide +kernel
theorem dX12_told_114 : decode cX12_told 114 = .ok (.ireturn, 1) := by decide +kernel
theorem dX12_told_115 : decode cX12_told 115 = .ok (.aload_n 0, 1) := by decide +kernel
theorem dX12_told_116 : decode cX12_told 116 = .ok (.invokevirtual 265, 3) := by decide +kernel
theorem dX12_told_119 : decode cX12_told 119 = .ok (.ireturn, 1) := by decide +kernel
theorem dX12_told_120 : decode cX12_told 120 = .ok (.aload_n 0, 1) := by decide +kernel
theorem dX12_told_121 : decode cX12_told 121 = .ok (.iconst 0, 1) := by decide +kernel
theorem dX12_told_122 : decode cX12_told 122 = .ok (.invokevirtual 237, 3) := by decide +kernel
theorem dX12_told_125 : decode cX12_told 125 = .ok (.ireturn, 1) := by decide +kernel
theorem dX12_told_126 : decode cX12_told 126 = .ok (.aload_n 0, 1) := by decide +kernel
theorem dX12_told_127 : decode cX12_told 127 = .ok (.iconst 2, 1) := by decide +kernel
theorem dX12_told_128 : decode cX12_told 128 = .ok (.invokevirtual 237, 3) := by decide +kernel
theorem dX12_told_131 : decode cX12_told 131 = .ok (.ireturn, 1) := by decide +kernel
theorem dX12_told_132 : decode cX12_told 132 = .ok (.iconst (-1), 1) := by decide +kernel
theorem dX12_told_133 : decode cX12_told 133 = .ok (.ireturn, 1) := by decide +kernel
theorem dX12_pass_0 : decode cX12_pass 0 = .ok (.iload_n 1, 1) := by decide +kernel
theorem dX12_pass_1 : decode cX12_pass 1 = .ok (.iconst 0, 1) := by decide +kernel
theorem dX12_pass_2 : decode cX12_pass 2 = .ok (.bipush 60, 2) := by decide +kernel
theorem dX12_pass_4 : decode cX12_pass 4 = .ok (.invokestatic 117, 3) := by decide +kernel
theorem dX12_pass_7 : decode cX12_pass 7 = .ok (.ifCond .ne 6, 3) := by decide +kernel
theorem dX12_pass_10 : decode cX12_pass 10 = .ok (.bipush (-2), 2) := by decide +kernel
theorem dX12_pass_12 : decode cX12_pass 12 = .ok (.ireturn, 1) := by decide +kernel
theorem dX12_pass_13 : decode cX12_pass 13 = .ok (.aload_n 0, 1) := by decide +kernel
theorem dX12_pass_14 : decode cX12_pass 14 = .ok (.getfield 224, 3) := by decide +kernel
theorem dX12_pass_17 : decode cX12_pass 17 = .ok (.iload_n 1, 1) := by decide +kernel
theorem dX12_pass_18 : decode cX12_pass 18 = .ok (.iadd, 1) := by decide +kernel
theorem dX12_pass_19 : decode cX12_pass 19 = .ok (.sipush 9999, 3) := by decide +kernel
theorem dX12_pass_22 : decode cX12_pass 22 = .ok (.if_icmp .le 6, 3) := by decide +kernel
theorem dX12_pass_25 : decode cX12_pass 25 = .ok (.bipush (-3), 2) := by decide +kernel
theorem dX12_pass_27 : decode cX12_pass 27 = .ok (.ireturn, 1) := by decide +kernel
theorem dX12_pass_28 : decode cX12_pass 28 = .ok (.iconst 0, 1) := by decide +kernel
theorem dX12_pass_29 : decode cX12_pass 29 = .ok (.istore_n 2, 1) := by decide +kernel
theorem dX12_pass_30 : decode cX12_pass 30 = .ok (.iload_n 2, 1) := by decide +kernel
theorem dX12_pass_31 : decode cX12_pass 31 = .ok (.iload_n 1, 1) := by decide +kernel
theorem dX12_pass_32 : decode cX12_pass 32 = .ok (.if_icmp .ge 13, 3) := by decide +kernel
theorem dX12_pass_35 : decode cX12_pass 35 = .ok (.aload_n 0, 1) := by decide +kernel
theorem dX12_pass_36 : decode cX12_pass 36 = .ok (.invokevirtual 268, 3) := by decide +kernel
theorem dX12_pass_39 : decode cX12_pass 39 = .ok (.iinc 2 1, 3) := by decide +kernel
theorem dX12_pass_42 : decode cX12_pass 42 = .ok (.goto (-12), 3) := by decide +kernel
theorem dX12_pass_45 : decode cX12_pass 45 = .ok (.aload_n 0, 1) := by decide +kernel
theorem dX12_pass_46 : decode cX12_pass 46 = .ok (.getfield 224, 3) := by decide +kernel
theorem dX12_pass_49 : decode cX12_pass 49 = .ok (.ireturn, 1) := by decide +kernel
theorem dX12_on_0 : decode cX12_on 0 = .ok (.aload_n 0, 1) := by decide +kernel
theorem dX12_on_1 : decode cX12_on 1 = .ok (.iload_n 2, 1) := by decide +kernel
theorem dX12_on_2 : decode cX12_on 2 = .ok (.bipush 10, 2) := by decide +kernel
theorem dX12_on_4 : decode cX12_on 4 = .ok (.isub, 1) := by decide +kernel
theorem dX12_on_5 : decode cX12_on 5 = .ok (.invokevirtual 125, 3) := by decide +kernel
theorem dX12_on_8 : decode cX12_on 8 = .ok (.ifCond .ne 18, 3) := by decide +kernel
theorem dX12_on_11 : decode cX12_on 11 = .ok (.aload_n 0, 1) := by decide +kernel
theorem dX12_on_12 : decode cX12_on 12 = .ok (.iload_n 2, 1) := by decide +kernel
theorem dX12_on_13 : decode cX12_on 13 = .ok (.bipush 20, 2) := by decide +kernel
theorem dX12_on_15 : decode cX12_on 15 = .ok (.isub, 1) := by decide +kernel
theorem dX12_on_16 : decode cX12_on 16 = .ok (.invokevirtual 125, 3) := by decide +kernel
theorem dX12_on_19 : decode cX12_on 19 = .ok (.ifCond .ne 7, 3) := by decide +kernel
theorem dX12_on_22 : decode cX12_on 22 = .ok (.sipush (-10001), 3) := by decide +kernel
theorem dX12_on_25 : decode cX12_on 25 = .ok (.ireturn, 1) := by decide +kernel
theorem dX12_on_26 : decode cX12_on 26 = .ok (.iload_n 1, 1) := by decide +kernel
theorem dX12_on_27 : decode cX12_on 27 = .ok (.iconst 0, 1) := by decide +kernel
theorem dX12_on_28 : decode cX12_on 28 = .ok (.bipush 60, 2) := by decide +kernel
theorem dX12_on_30 : decode cX12_on 30 = .ok (.invokestatic 117, 3) := by decide +kernel
theorem dX12_on_33 : decode cX12_on 33 = .ok (.ifCond .ne 6, 3) := by decide +kernel
theorem dX12_on_36 : decode cX12_on 36 = .ok (.bipush (-2), 2) := by decide +kernel
theorem dX12_on_38 : decode cX12_on 38 = .ok (.ireturn, 1) := by decide +kernel
theorem dX12_on_39 : decode cX12_on 39 = .ok (.aload_n 0, 1) := by decide +kernel
theorem dX12_on_40 : decode cX12_on 40 = .ok (.aload_n 0, 1) := by decide +kernel
theorem dX12_on_41 : decode cX12_on 41 = .ok (.getfield 91, 3) := by decide +kernel
theorem dX12_on_44 : decode cX12_on 44 = .ok (.invokevirtual 271, 3) := by decide +kernel
theorem dX12_on_47 : decode cX12_on 47 = .ok (.iconst 0, 1) := by decide +kernel
theorem dX12_on_48 : decode cX12_on 48 = .ok (.istore_n 3, 1) := by decide +kernel
theorem dX12_on_49 : decode cX12_on 49 = .ok (.iload_n 3, 1) := by decide +kernel
theorem dX12_on_50 : decode cX12_on 50 = .ok (.iload_n 1, 1) := by decide +kernel
theorem dX12_on_51 : decode cX12_on 51 = .ok (.if_icmp .ge 13, 3) := by decide +kernel
theorem dX12_on_54 : decode cX12_on 54 = .ok (.aload_n 0, 1) := by decide +kernel
theorem dX12_on_55 : decode cX12_on 55 = .ok (.invokevirtual 268, 3) := by decide +kernel
theorem dX12_on_58 : decode cX12_on 58 = .ok (.iinc 3 1, 3) := by decide +kernel
theorem dX12_on_61 : decode cX12_on 61 = .ok (.goto (-12), 3) := by decide +kernel
theorem dX12_on_64 : decode cX12_on 64 = .ok (.iload_n 2, 1) := by decide +kernel
theorem dX12_on_65 : decode cX12_on 65 = .ok (.bipush 20, 2) := by decide +kernel
theorem dX12_on_67 : decode cX12_on 67 = .ok (.if_icmp .ge 15, 3) := by decide +kernel
theorem dX12_on_70 : decode cX12_on 70 = .ok (.aload_n 0, 1) := by decide +kernel
theorem dX12_on_71 : decode cX12_on 71 = .ok (.getfield 30, 3) := by decide +kernel
theorem dX12_on_74 : decode cX12_on 74 = .ok (.iload_n 2, 1) := by decide +kernel
theorem dX12_on_75 : decode cX12_on 75 = .ok (.bipush 10, 2) := by decide +kernel
theorem dX12_on_77 : decode cX12_on 77 = .ok (.isub, 1) := by decide +kernel
theorem dX12_on_78 : decode cX12_on 78 = .ok (.iaload, 1) := by decide +kernel
theorem dX12_on_79 : decode cX12_on 79 = .ok (.goto 11, 3) := by decide +kernel
theorem dX12_on_82 : decode cX12_on 82 = .ok (.aload_n 0, 1) := by decide +kernel
theorem dX12_on_83 : decode cX12_on 83 = .ok (.iload_n 2, 1) := by decide +kernel
theorem dX12_on_84 : decode cX12_on 84 = .ok (.bipush 20, 2) := by decide +kernel
theorem dX12_on_86 : decode cX12_on 86 = .ok (.isub, 1) := by decide +kernel
theorem dX12_on_87 : decode cX12_on 87 = .ok (.invokevirtual 128, 3) := by decide +kernel
theorem dX12_on_90 : decode cX12_on 90 = .ok (.istore_n 3, 1) := by decide +kernel
theorem dX12_on_91 : decode cX12_on 91 = .ok (.aload_n 0, 1) := by decide +kernel
theorem dX12_on_92 : decode cX12_on 92 = .ok (.aload_n 0, 1) := by decide +kernel
theorem dX12_on_93 : decode cX12_on 93 = .ok (.getfield 91, 3) := by decide +kernel
theorem dX12_on_96 : decode cX12_on 96 = .ok (.invokevirtual 275, 3) := by decide +kernel
theorem dX12_on_99 : decode cX12_on 99 = .ok (.iload_n 3, 1) := by decide +kernel
theorem dX12_on_100 : decode cX12_on 100 = .ok (.ireturn, 1) := by decide +kernel
theorem dX12_brightest_0 : decode cX12_brightest 0 = .ok (.aload_n 0, 1) := by decide +kernel
theorem dX12_brightest_1 : decode cX12_brightest 1 = .ok (.aload_n 0, 1) := by decide +kernel
theorem dX12_brightest_2 : decode cX12_brightest 2 = .ok (.getfield 91, 3) := by decide +kernel
theorem dX12_brightest_5 : decode cX12_brightest 5 = .ok (.invokevirtual 271, 3) := by decide +kernel
theorem dX12_brightest_8 : decode cX12_brightest 8 = .ok (.iconst 0, 1) := by decide +kernel
theorem dX12_brightest_9 : decode cX12_brightest 9 = .ok (.istore_n 3, 1) := by decide +kernel
theorem dX12_brightest_10 : decode cX12_brightest 10 = .ok (.aload_n 0, 1) := by decide +kernel
theorem dX12_brightest_11 : decode cX12_brightest 11 = .ok (.iload_n 1, 1) := by decide +kernel
theorem dX12_brightest_12 : decode cX12_brightest 12 = .ok (.invokevirtual 128, 3) := by decide +kernel
theorem dX12_brightest_15 : decode cX12_brightest 15 = .ok (.istore 4, 2) := by decide +kernel
theorem dX12_brightest_17 : decode cX12_brightest 17 = .ok (.iconst 1, 1) := by decide +kernel
theorem dX12_brightest_18 : decode cX12_brightest 18 = .ok (.istore 5, 2) := by decide +kernel
theorem dX12_brightest_20 : decode cX12_brightest 20 = .ok (.iload 5, 2) := by decide +kernel
theorem dX12_brightest_22 : decode cX12_brightest 22 = .ok (.bipush 21, 2) := by decide +kernel
theorem dX12_brightest_24 : decode cX12_brightest 24 = .ok (.if_icmp .ge 37, 3) := by decide +kernel
theorem dX12_brightest_27 : decode cX12_brightest 27 = .ok (.aload_n 0, 1) := by decide +kernel
theorem dX12_brightest_28 : decode cX12_brightest 28 = .ok (.invokevirtual 268, 3) := by decide +kernel
theorem dX12_brightest_31 : decode cX12_brightest 31 = .ok (.aload_n 0, 1) := by decide +kernel
theorem dX12_brightest_32 : decode cX12_brightest 32 = .ok (.iload_n 1, 1) := by decide +kernel
theorem dX12_brightest_33 : decode cX12_brightest 33 = .ok (.invokevirtual 128, 3) := by decide +kernel
theorem dX12_brightest_36 : decode cX12_brightest 36 = .ok (.istore 6, 2) := by decide +kernel
theorem dX12_brightest_38 : decode cX12_brightest 38 = .ok (.iload 6, 2) := by decide +kernel
theorem dX12_brightest_40 : decode cX12_brightest 40 = .ok (.iload 4, 2) := by decide +kernel
theorem dX12_brightest_42 : decode cX12_brightest 42 = .ok (.if_icmp .gt 6, 3) := by decide +kernel
theorem dX12_brightest_45 : decode cX12_brightest 45 = .ok (.goto 10, 3) := by decide +kernel
theorem dX12_brightest_48 : decode cX12_brightest 48 = .ok (.iload 6, 2) := by decide +kernel
theorem dX12_brightest_50 : decode cX12_brightest 50 = .ok (.istore 4, 2) := by decide +kernel
theorem dX12_brightest_52 : decode cX12_brightest 52 = .ok (.iload 5, 2) := by decide +kernel
theorem dX12_brightest_54 : decode cX12_brightest 54 = .ok (.istore_n 3, 1) := by decide +kernel
theorem dX12_brightest_55 : decode cX12_brightest 55 = .ok (.iinc 5 1, 3) := by decide +kernel
theorem dX12_brightest_58 : decode cX12_brightest 58 = .ok (.goto (-38), 3) := by decide +kernel
theorem dX12_brightest_61 : decode cX12_brightest 61 = .ok (.aload_n 0, 1) := by decide +kernel
theorem dX12_brightest_62 : decode cX12_brightest 62 = .ok (.aload_n 0, 1) := by decide +kernel
theorem dX12_brightest_63 : decode cX12_brightest 63 = .ok (.getfield 91, 3) := by decide +kernel
theorem dX12_brightest_66 : decode cX12_brightest 66 = .ok (.invokevirtual 275, 3) := by decide +kernel
theorem dX12_brightest_69 : decode cX12_brightest 69 = .ok (.iload_n 2, 1) := by decide +kernel
theorem dX12_brightest_70 : decode cX12_brightest 70 = .ok (.ifCond .ne 7, 3) := by decide +kernel
theorem dX12_brightest_73 : decode cX12_brightest 73 = .ok (.iload_n 3, 1) := by decide +kernel
theorem dX12_brightest_74 : decode cX12_brightest 74 = .ok (.goto 5, 3) := by decide +kernel
theorem dX12_brightest_77 : decode cX12_brightest 77 = .ok (.iload 4, 2) := by decide +kernel
theorem dX12_brightest_79 : decode cX12_brightest 79 = .ok (.ireturn, 1) := by decide +kernel
theorem dX12_tries_0 : decode cX12_tries 0 = .ok (.iload_n 1, 1) := by decide +kernel
theorem dX12_tries_1 : decode cX12_tries 1 = .ok (.iload_n 2, 1) := by decide +kernel
theorem dX12_tries_2 : decode cX12_tries 2 = .ok (.if_icmp .ne 127, 3) := by decide +kernel
theorem dX12_tries_5 : decode cX12_tries 5 = .ok (.aload_n 0, 1) := by decide +kernel
theorem dX12_tries_6 : decode cX12_tries 6 = .ok (.aload_n 0, 1) := by decide +kernel
theorem dX12_tries_7 : decode cX12_tries 7 = .ok (.getfield 91, 3) := by decide +kernel
theorem dX12_tries_10 : decode cX12_tries 10 = .ok (.invokevirtual 271, 3) := by decide +kernel
theorem dX12_tries_13 : decode cX12_tries 13 = .ok (.iconst 0, 1) := by decide +kernel
theorem dX12_tries_14 : decode cX12_tries 14 = .ok (.istore_n 3, 1) := by decide +kernel
theorem dX12_tries_15 : decode cX12_tries 15 = .ok (.iload_n 3, 1) := by decide +kernel
theorem dX12_tries_16 : decode cX12_tries 16 = .ok (.iload_n 2, 1) := by decide +kernel
theorem dX12_tries_17 : decode cX12_tries 17 = .ok (.if_icmp .ge 23, 3) := by decide +kernel
theorem dX12_tries_20 : decode cX12_tries 20 = .ok (.aload_n 0, 1) := by decide +kernel
theorem dX12_tries_21 : decode cX12_tries 21 = .ok (.aload_n 0, 1) := by decide +kernel
theorem dX12_tries_22 : decode cX12_tries 22 = .ok (.getfield 94, 3) := by decide +kernel
theorem dX12_tries_25 : decode cX12_tries 25 = .ok (.iload_n 3, 1) := by decide +kernel
theorem dX12_tries_26 : decode cX12_tries 26 = .ok (.iaload, 1) := by decide +kernel
theorem dX12_tries_27 : decode cX12_tries 27 = .ok (.invokevirtual 142, 3) := by decide +kernel
theorem dX12_tries_30 : decode cX12_tries 30 = .ok (.aload_n 0, 1) := by decide +kernel
theorem dX12_tries_31 : decode cX12_tries 31 = .ok (.invokevirtual 268, 3) := by decide +kernel
theorem dX12_tries_34 : decode cX12_tries 34 = .ok (.iinc 3 1, 3) := by decide +kernel
theorem dX12_tries_37 : decode cX12_tries 37 = .ok (.goto (-22), 3) := by decide +kernel
theorem dX12_tries_40 : decode cX12_tries 40 = .ok (.aload_n 0, 1) := by decide +kernel
theorem dX12_tries_41 : decode cX12_tries 41 = .ok (.invokevirtual 262, 3) := by decide +kernel
theorem dX12_tries_44 : decode cX12_tries 44 = .ok (.invokestatic 240, 3) := by decide +kernel
theorem dX12_tries_47 : decode cX12_tries 47 = .ok (.istore_n 3, 1) := by decide +kernel
theorem dX12_tries_48 : decode cX12_tries 48 = .ok (.aload_n 0, 1) := by decide +kernel
theorem dX12_tries_49 : decode cX12_tries 49 = .ok (.invokevirtual 265, 3) := by decide +kernel
theorem dX12_tries_52 : decode cX12_tries 52 = .ok (.istore 4, 2) := by decide +kernel
theorem dX12_tries_54 : decode cX12_tries 54 = .ok (.aload_n 0, 1) := by decide +kernel
theorem dX12_tries_55 : decode cX12_tries 55 = .ok (.aload_n 0, 1) := by decide +kernel
theorem dX12_tries_56 : decode cX12_tries 56 = .ok (.getfield 91, 3) := by decide +kernel
theorem dX12_tries_59 : decode cX12_tries 59 = .ok (.invokevirtual 275, 3) := by decide +kernel
theorem dX12_tries_62 : decode cX12_tries 62 = .ok (.iload_n 3, 1) := by decide +kernel
theorem dX12_tries_63 : decode cX12_tries 63 = .ok (.aload_n 0, 1) := by decide +kernel
theorem dX12_tries_64 : decode cX12_tries 64 = .ok (.getfield 278, 3) := by decide +kernel
theorem dX12_tries_67 : decode cX12_tries 67 = .ok (.if_icmp .lt 20, 3) := by decide +kernel
theorem dX12_tries_70 : decode cX12_tries 70 = .ok (.iload_n 3, 1) := by decide +kernel
theorem dX12_tries_71 : decode cX12_tries 71 = .ok (.aload_n 0, 1) := by decide +kernel
theorem dX12_tries_72 : decode cX12_tries 72 = .ok (.getfield 278, 3) := by decide +kernel
theorem dX12_tries_75 : decode cX12_tries 75 = .ok (.if_icmp .ne 13, 3) := by decide +kernel
theorem dX12_tries_78 : decode cX12_tries 78 = .ok (.iload 4, 2) := by decide +kernel
theorem dX12_tries_80 : decode cX12_tries 80 = .ok (.aload_n 0, 1) := by decide +kernel
theorem dX12_tries_81 : decode cX12_tries 81 = .ok (.getfield 281, 3) := by decide +kernel
theorem dX12_tries_84 : decode cX12_tries 84 = .ok (.if_icmp .lt 4, 3) := by decide +kernel
theorem dX12_tries_87 : decode cX12_tries 87 = .ok (.return_, 1) := by decide +kernel
theorem dX12_tries_88 : decode cX12_tries 88 = .ok (.aload_n 0, 1) := by decide +kernel
theorem dX12_tries_89 : decode cX12_tries 89 = .ok (.iload_n 3, 1) := by decide +kernel
theorem dX12_tries_90 : decode cX12_tries 90 = .ok (.putfield 278, 3) := by decide +kernel
theorem dX12_tries_93 : decode cX12_tries 93 = .ok (.aload_n 0, 1) := by decide +kernel
theorem dX12_tries_94 : decode cX12_tries 94 = .ok (.iload 4, 2) := by decide +kernel
theorem dX12_tries_96 : decode cX12_tries 96 = .ok (.putfield 281, 3) := by decide +kernel
theorem dX12_tries_99 : decode cX12_tries 99 = .ok (.iconst 0, 1) := by decide +kernel
theorem dX12_tries_100 : decode cX12_tries 100 = .ok (.istore 5, 2) := by decide +kernel
theorem dX12_tries_102 : decode cX12_tries 102 = .ok (.iload 5, 2) := by decide +kernel
theorem dX12_tries_104 : decode cX12_tries 104 = .ok (.iload_n 2, 1) := by decide +kernel
theorem dX12_tries_105 : decode cX12_tries 105 = .ok (.if_icmp .ge 23, 3) := by decide +kernel
theorem dX12_tries_108 : decode cX12_tries 108 = .ok (.aload_n 0, 1) := by decide +kernel
theorem dX12_tries_109 : decode cX12_tries 109 = .ok (.getfield 97, 3) := by decide +kernel
theorem dX12_tries_112 : decode cX12_tries 112 = .ok (.iload 5, 2) := by decide +kernel
theorem dX12_tries_114 : decode cX12_tries 114 = .ok (.aload_n 0, 1) := by decide +kernel
theorem dX12_tries_115 : decode cX12_tries 115 = .ok (.getfield 94, 3) := by decide +kernel
theorem dX12_tries_118 : decode cX12_tries 118 = .ok (.iload 5, 2) := by decide +kernel
theorem dX12_tries_120 : decode cX12_tries 120 = .ok (.iaload, 1) := by decide +kernel
theorem dX12_tries_121 : decode cX12_tries 121 = .ok (.iastore, 1) := by decide +kernel
theorem dX12_tries_122 : decode cX12_tries 122 = .ok (.iinc 5 1, 3) := by decide +kernel
theorem dX12_tries_125 : decode cX12_tries 125 = .ok (.goto (-23), 3) := by decide +kernel
theorem dX12_tries_128 : decode cX12_tries 128 = .ok (.return_, 1) := by decide +kernel
theorem dX12_tries_129 : decode cX12_tries 129 = .ok (.iconst 0, 1) := by decide +kernel
theorem dX12_tries_130 : decode cX12_tries 130 = .ok (.istore_n 3, 1) := by decide +kernel
theorem dX12_tries_131 : decode cX12_tries 131 = .ok (.iload_n 3, 1) := by decide +kernel
theorem dX12_tries_132 : decode cX12_tries 132 = .ok (.aload_n 0, 1) := by decide +kernel
theorem dX12_tries_133 : decode cX12_tries 133 = .ok (.getfield 114, 3) := by decide +kernel
theorem dX12_tries_136 : decode cX12_tries 136 = .ok (.if_icmp .ge 77, 3) := by decide +kernel
theorem dX12_tries_139 : decode cX12_tries 139 = .ok (.aload_n 0, 1) := by decide +kernel
theorem dX12_tries_140 : decode cX12_tries 140 = .ok (.getfield 33, 3) := by decide +kernel
theorem dX12_tries_143 : decode cX12_tries 143 = .ok (.iload_n 3, 1) := by decide +kernel
theorem dX12_tries_144 : decode cX12_tries 144 = .ok (.iaload, 1) := by decide +kernel
theorem dX12_tries_145 : decode cX12_tries 145 = .ok (.ifCond .ne 7, 3) := by decide +kernel
theorem dX12_tries_148 : decode cX12_tries 148 = .ok (.iconst 1, 1) := by decide +kernel
theorem dX12_tries_149 : decode cX12_tries 149 = .ok (.goto 4, 3) := by decide +kernel
theorem dX12_tries_152 : decode cX12_tries 152 = .ok (.iconst 0, 1) := by decide +kernel
theorem dX12_tries_153 : decode cX12_tries 153 = .ok (.istore 4, 2) := by decide +kernel
theorem dX12_tries_155 : decode cX12_tries 155 = .ok (.iconst 0, 1) := by decide +kernel
theorem dX12_tries_156 : decode cX12_tries 156 = .ok (.istore 5, 2) := by decide +kernel
theorem dX12_tries_158 : decode cX12_tries 158 = .ok (.iload 5, 2) := by decide +kernel
theorem dX12_tries_160 : decode cX12_tries 160 = .ok (.iload_n 1, 1) := by decide +kernel
theorem dX12_tries_161 : decode cX12_tries 161 = .ok (.if_icmp .ge 23, 3) := by decide +kernel
theorem dX12_tries_164 : decode cX12_tries 164 = .ok (.aload_n 0, 1) := by decide +kernel
theorem dX12_tries_165 : decode cX12_tries 165 = .ok (.getfield 94, 3) := by decide +kernel
theorem dX12_tries_168 : decode cX12_tries 168 = .ok (.iload 5, 2) := by decide +kernel
theorem dX12_tries_170 : decode cX12_tries 170 = .ok (.iaload, 1) := by decide +kernel
theorem dX12_tries_171 : decode cX12_tries 171 = .ok (.iload_n 3, 1) := by decide +kernel
theorem dX12_tries_172 : decode cX12_tries 172 = .ok (.if_icmp .ne 6, 3) := by decide +kernel
theorem dX12_tries_175 : decode cX12_tries 175 = .ok (.iconst 0, 1) := by decide +kernel
theorem dX12_tries_176 : decode cX12_tries 176 = .ok (.istore 4, 2) := by decide +kernel
theorem dX12_tries_178 : decode cX12_tries 178 = .ok (.iinc 5 1, 3) := by decide +kernel
theorem dX12_tries_181 : decode cX12_tries 181 = .ok (.goto (-23), 3) := by decide +kernel
theorem dX12_tries_184 : decode cX12_tries 184 = .ok (.iload 4, 2) := by decide +kernel
theorem dX12_tries_186 : decode cX12_tries 186 = .ok (.ifCond .ne 6, 3) := by decide +kernel
theorem dX12_tries_189 : decode cX12_tries 189 = .ok (.goto 18, 3) := by decide +kernel
theorem dX12_tries_192 : decode cX12_tries 192 = .ok (.aload_n 0, 1) := by decide +kernel
theorem dX12_tries_193 : decode cX12_tries 193 = .ok (.getfield 94, 3) := by decide +kernel
theorem dX12_tries_196 : decode cX12_tries 196 = .ok (.iload_n 1, 1) := by decide +kernel
theorem dX12_tries_197 : decode cX12_tries 197 = .ok (.iload_n 3, 1) := by decide +kernel
theorem dX12_tries_198 : decode cX12_tries 198 = .ok (.iastore, 1) := by decide +kernel
theorem dX12_tries_199 : decode cX12_tries 199 = .ok (.aload_n 0, 1) := by decide +kernel
theorem dX12_tries_200 : decode cX12_tries 200 = .ok (.iload_n 1, 1) := by decide +kernel
theorem dX12_tries_201 : decode cX12_tries 201 = .ok (.iconst 1, 1) := by decide +kernel
theorem dX12_tries_202 : decode cX12_tries 202 = .ok (.iadd, 1) := by decide +kernel
theorem dX12_tries_203 : decode cX12_tries 203 = .ok (.iload_n 2, 1) := by decide +kernel
theorem dX12_tries_204 : decode cX12_tries 204 = .ok (.invokevirtual 284, 3) := by decide +kernel
theorem dX12_tries_207 : decode cX12_tries 207 = .ok (.iinc 3 1, 3) := by decide +kernel
theorem dX12_tries_210 : decode cX12_tries 210 = .ok (.goto (-79), 3) := by decide +kernel
end
section
theorem dX12_tries_213 : decode cX12_tries 213 = .ok (.return_, 1) := by decide +kernel
theorem dX12_best_0 : decode cX12_best 0 = .ok (.iload_n 2, 1) := by decide +kernel
theorem dX12_best_1 : decode cX12_best 1 = .ok (.bipush (-2), 2) := by decide +kernel
theorem dX12_best_3 : decode cX12_best 3 = .ok (.iconst 2, 1) := by decide +kernel
theorem dX12_best_4 : decode cX12_best 4 = .ok (.invokestatic 117, 3) := by decide +kernel
theorem dX12_best_7 : decode cX12_best 7 = .ok (.ifCond .ne 5, 3) := by decide +kernel
theorem dX12_best_10 : decode cX12_best 10 = .ok (.iconst (-1), 1) := by decide +kernel
theorem dX12_best_11 : decode cX12_best 11 = .ok (.ireturn, 1) := by decide +kernel
theorem dX12_best_12 : decode cX12_best 12 = .ok (.iload_n 1, 1) := by decide +kernel
theorem dX12_best_13 : decode cX12_best 13 = .ok (.iconst 1, 1) := by decide +kernel
theorem dX12_best_14 : decode cX12_best 14 = .ok (.iconst 3, 1) := by decide +kernel
theorem dX12_best_15 : decode cX12_best 15 = .ok (.invokestatic 117, 3) := by decide +kernel
theorem dX12_best_18 : decode cX12_best 18 = .ok (.ifCond .ne 6, 3) := by decide +kernel
theorem dX12_best_21 : decode cX12_best 21 = .ok (.bipush (-2), 2) := by decide +kernel
theorem dX12_best_23 : decode cX12_best 23 = .ok (.ireturn, 1) := by decide +kernel
theorem dX12_best_24 : decode cX12_best 24 = .ok (.aload_n 0, 1) := by decide +kernel
theorem dX12_best_25 : decode cX12_best 25 = .ok (.iconst 0, 1) := by decide +kernel
theorem dX12_best_26 : decode cX12_best 26 = .ok (.invokevirtual 237, 3) := by decide +kernel
theorem dX12_best_29 : decode cX12_best 29 = .ok (.invokestatic 240, 3) := by decide +kernel
theorem dX12_best_32 : decode cX12_best 32 = .ok (.iload_n 1, 1) := by decide +kernel
theorem dX12_best_33 : decode cX12_best 33 = .ok (.if_icmp .ge 6, 3) := by decide +kernel
theorem dX12_best_36 : decode cX12_best 36 = .ok (.bipush (-5), 2) := by decide +kernel
theorem dX12_best_38 : decode cX12_best 38 = .ok (.ireturn, 1) := by decide +kernel
theorem dX12_best_39 : decode cX12_best 39 = .ok (.aload_n 0, 1) := by decide +kernel
theorem dX12_best_40 : decode cX12_best 40 = .ok (.iconst (-1), 1) := by decide +kernel
theorem dX12_best_41 : decode cX12_best 41 = .ok (.putfield 278, 3) := by decide +kernel
theorem dX12_best_44 : decode cX12_best 44 = .ok (.aload_n 0, 1) := by decide +kernel
theorem dX12_best_45 : decode cX12_best 45 = .ok (.iconst 0, 1) := by decide +kernel
theorem dX12_best_46 : decode cX12_best 46 = .ok (.putfield 281, 3) := by decide +kernel
theorem dX12_best_49 : decode cX12_best 49 = .ok (.aload_n 0, 1) := by decide +kernel
theorem dX12_best_50 : decode cX12_best 50 = .ok (.iconst 0, 1) := by decide +kernel
theorem dX12_best_51 : decode cX12_best 51 = .ok (.iload_n 1, 1) := by decide +kernel
theorem dX12_best_52 : decode cX12_best 52 = .ok (.invokevirtual 284, 3) := by decide +kernel
theorem dX12_best_55 : decode cX12_best 55 = .ok (.iload_n 2, 1) := by decide +kernel
theorem dX12_best_56 : decode cX12_best 56 = .ok (.bipush (-2), 2) := by decide +kernel
theorem dX12_best_58 : decode cX12_best 58 = .ok (.if_icmp .ne 10, 3) := by decide +kernel
theorem dX12_best_61 : decode cX12_best 61 = .ok (.aload_n 0, 1) := by decide +kernel
theorem dX12_best_62 : decode cX12_best 62 = .ok (.getfield 278, 3) := by decide +kernel
theorem dX12_best_65 : decode cX12_best 65 = .ok (.goto 31, 3) := by decide +kernel
theorem dX12_best_68 : decode cX12_best 68 = .ok (.iload_n 2, 1) := by decide +kernel
theorem dX12_best_69 : decode cX12_best 69 = .ok (.iconst (-1), 1) := by decide +kernel
theorem dX12_best_70 : decode cX12_best 70 = .ok (.if_icmp .ne 10, 3) := by decide +kernel
theorem dX12_best_73 : decode cX12_best 73 = .ok (.aload_n 0, 1) := by decide +kernel
theorem dX12_best_74 : decode cX12_best 74 = .ok (.getfield 281, 3) := by decide +kernel
theorem dX12_best_77 : decode cX12_best 77 = .ok (.goto 19, 3) := by decide +kernel
theorem dX12_best_80 : decode cX12_best 80 = .ok (.iload_n 2, 1) := by decide +kernel
theorem dX12_best_81 : decode cX12_best 81 = .ok (.iload_n 1, 1) := by decide +kernel
theorem dX12_best_82 : decode cX12_best 82 = .ok (.if_icmp .ge 12, 3) := by decide +kernel
theorem dX12_best_85 : decode cX12_best 85 = .ok (.aload_n 0, 1) := by decide +kernel
theorem dX12_best_86 : decode cX12_best 86 = .ok (.getfield 97, 3) := by decide +kernel
theorem dX12_best_89 : decode cX12_best 89 = .ok (.iload_n 2, 1) := by decide +kernel
theorem dX12_best_90 : decode cX12_best 90 = .ok (.iaload, 1) := by decide +kernel
theorem dX12_best_91 : decode cX12_best 91 = .ok (.goto 5, 3) := by decide +kernel
theorem dX12_best_94 : decode cX12_best 94 = .ok (.bipush (-5), 2) := by decide +kernel
theorem dX12_best_96 : decode cX12_best 96 = .ok (.ireturn, 1) := by decide +kernel
theorem dX12_enough_0 : decode cX12_enough 0 = .ok (.aload_n 0, 1) := by decide +kernel
theorem dX12_enough_1 : decode cX12_enough 1 = .ok (.iconst 0, 1) := by decide +kernel
theorem dX12_enough_2 : decode cX12_enough 2 = .ok (.invokevirtual 237, 3) := by decide +kernel
theorem dX12_enough_5 : decode cX12_enough 5 = .ok (.istore_n 2, 1) := by decide +kernel
theorem dX12_enough_6 : decode cX12_enough 6 = .ok (.bipush (-5), 2) := by decide +kernel
theorem dX12_enough_8 : decode cX12_enough 8 = .ok (.istore_n 3, 1) := by decide +kernel
theorem dX12_enough_9 : decode cX12_enough 9 = .ok (.iconst 0, 1) := by decide +kernel
theorem dX12_enough_10 : decode cX12_enough 10 = .ok (.istore 4, 2) := by decide +kernel
theorem dX12_enough_12 : decode cX12_enough 12 = .ok (.iload 4, 2) := by decide +kernel
theorem dX12_enough_14 : decode cX12_enough 14 = .ok (.iconst 1, 1) := by decide +kernel
theorem dX12_enough_15 : decode cX12_enough 15 = .ok (.aload_n 0, 1) := by decide +kernel
theorem dX12_enough_16 : decode cX12_enough 16 = .ok (.getfield 114, 3) := by decide +kernel
theorem dX12_enough_19 : decode cX12_enough 19 = .ok (.ishl, 1) := by decide +kernel
theorem dX12_enough_20 : decode cX12_enough 20 = .ok (.if_icmp .ge 73, 3) := by decide +kernel
theorem dX12_enough_23 : decode cX12_enough 23 = .ok (.iload 4, 2) := by decide +kernel
theorem dX12_enough_25 : decode cX12_enough 25 = .ok (.iload_n 2, 1) := by decide +kernel
theorem dX12_enough_26 : decode cX12_enough 26 = .ok (.iconst (-1), 1) := by decide +kernel
theorem dX12_enough_27 : decode cX12_enough 27 = .ok (.ixor, 1) := by decide +kernel
theorem dX12_enough_28 : decode cX12_enough 28 = .ok (.iand, 1) := by decide +kernel
theorem dX12_enough_29 : decode cX12_enough 29 = .ok (.ifCond .ne 58, 3) := by decide +kernel
theorem dX12_enough_32 : decode cX12_enough 32 = .ok (.iload_n 3, 1) := by decide +kernel
theorem dX12_enough_33 : decode cX12_enough 33 = .ok (.bipush (-5), 2) := by decide +kernel
theorem dX12_enough_35 : decode cX12_enough 35 = .ok (.if_icmp .eq 18, 3) := by decide +kernel
theorem dX12_enough_38 : decode cX12_enough 38 = .ok (.iload 4, 2) := by decide +kernel
theorem dX12_enough_40 : decode cX12_enough 40 = .ok (.invokestatic 240, 3) := by decide +kernel
theorem dX12_enough_43 : decode cX12_enough 43 = .ok (.iload_n 3, 1) := by decide +kernel
theorem dX12_enough_44 : decode cX12_enough 44 = .ok (.invokestatic 240, 3) := by decide +kernel
theorem dX12_enough_47 : decode cX12_enough 47 = .ok (.if_icmp .lt 6, 3) := by decide +kernel
theorem dX12_enough_50 : decode cX12_enough 50 = .ok (.goto 37, 3) := by decide +kernel
theorem dX12_enough_53 : decode cX12_enough 53 = .ok (.aload_n 0, 1) := by decide +kernel
theorem dX12_enough_54 : decode cX12_enough 54 = .ok (.aload_n 0, 1) := by decide +kernel
theorem dX12_enough_55 : decode cX12_enough 55 = .ok (.getfield 91, 3) := by decide +kernel
theorem dX12_enough_58 : decode cX12_enough 58 = .ok (.invokevirtual 271, 3) := by decide +kernel
theorem dX12_enough_61 : decode cX12_enough 61 = .ok (.aload_n 0, 1) := by decide +kernel
theorem dX12_enough_62 : decode cX12_enough 62 = .ok (.iload 4, 2) := by decide +kernel
theorem dX12_enough_64 : decode cX12_enough 64 = .ok (.invokevirtual 288, 3) := by decide +kernel
theorem dX12_enough_67 : decode cX12_enough 67 = .ok (.aload_n 0, 1) := by decide +kernel
theorem dX12_enough_68 : decode cX12_enough 68 = .ok (.getfield 9, 3) := by decide +kernel
theorem dX12_enough_71 : decode cX12_enough 71 = .ok (.iload_n 1, 1) := by decide +kernel
theorem dX12_enough_72 : decode cX12_enough 72 = .ok (.iaload, 1) := by decide +kernel
theorem dX12_enough_73 : decode cX12_enough 73 = .ok (.ifCond .ne 6, 3) := by decide +kernel
theorem dX12_enough_76 : decode cX12_enough 76 = .ok (.iload 4, 2) := by decide +kernel
theorem dX12_enough_78 : decode cX12_enough 78 = .ok (.istore_n 3, 1) := by decide +kernel
theorem dX12_enough_79 : decode cX12_enough 79 = .ok (.aload_n 0, 1) := by decide +kernel
theorem dX12_enough_80 : decode cX12_enough 80 = .ok (.aload_n 0, 1) := by decide +kernel
theorem dX12_enough_81 : decode cX12_enough 81 = .ok (.getfield 91, 3) := by decide +kernel
theorem dX12_enough_84 : decode cX12_enough 84 = .ok (.invokevirtual 275, 3) := by decide +kernel
theorem dX12_enough_87 : decode cX12_enough 87 = .ok (.iinc 4 1, 3) := by decide +kernel
theorem dX12_enough_90 : decode cX12_enough 90 = .ok (.goto (-78), 3) := by decide +kernel
theorem dX12_enough_93 : decode cX12_enough 93 = .ok (.iload_n 3, 1) := by decide +kernel
theorem dX12_enough_94 : decode cX12_enough 94 = .ok (.ireturn, 1) := by decide +kernel
theorem dX12_gift_0 : decode cX12_gift 0 = .ok (.aload_n 0, 1) := by decide +kernel
theorem dX12_gift_1 : decode cX12_gift 1 = .ok (.getfield 27, 3) := by decide +kernel
theorem dX12_gift_4 : decode cX12_gift 4 = .ok (.iload_n 1, 1) := by decide +kernel
theorem dX12_gift_5 : decode cX12_gift 5 = .ok (.iaload, 1) := by decide +kernel
theorem dX12_gift_6 : decode cX12_gift 6 = .ok (.istore_n 2, 1) := by decide +kernel
theorem dX12_gift_7 : decode cX12_gift 7 = .ok (.iconst 0, 1) := by decide +kernel
theorem dX12_gift_8 : decode cX12_gift 8 = .ok (.istore_n 3, 1) := by decide +kernel
theorem dX12_gift_9 : decode cX12_gift 9 = .ok (.iconst (-1), 1) := by decide +kernel
theorem dX12_gift_10 : decode cX12_gift 10 = .ok (.istore 4, 2) := by decide +kernel
theorem dX12_gift_12 : decode cX12_gift 12 = .ok (.iconst 0, 1) := by decide +kernel
theorem dX12_gift_13 : decode cX12_gift 13 = .ok (.istore 5, 2) := by decide +kernel
theorem dX12_gift_15 : decode cX12_gift 15 = .ok (.iconst 0, 1) := by decide +kernel
theorem dX12_gift_16 : decode cX12_gift 16 = .ok (.istore 6, 2) := by decide +kernel
theorem dX12_gift_18 : decode cX12_gift 18 = .ok (.iload 6, 2) := by decide +kernel
theorem dX12_gift_20 : decode cX12_gift 20 = .ok (.iconst 4, 1) := by decide +kernel
theorem dX12_gift_21 : decode cX12_gift 21 = .ok (.if_icmp .ge 92, 3) := by decide +kernel
theorem dX12_gift_24 : decode cX12_gift 24 = .ok (.aload_n 0, 1) := by decide +kernel
theorem dX12_gift_25 : decode cX12_gift 25 = .ok (.getfield 27, 3) := by decide +kernel
theorem dX12_gift_28 : decode cX12_gift 28 = .ok (.iload_n 1, 1) := by decide +kernel
theorem dX12_gift_29 : decode cX12_gift 29 = .ok (.iload 6, 2) := by decide +kernel
theorem dX12_gift_31 : decode cX12_gift 31 = .ok (.iastore, 1) := by decide +kernel
theorem dX12_gift_32 : decode cX12_gift 32 = .ok (.aload_n 0, 1) := by decide +kernel
theorem dX12_gift_33 : decode cX12_gift 33 = .ok (.aload_n 0, 1) := by decide +kernel
theorem dX12_gift_34 : decode cX12_gift 34 = .ok (.getfield 91, 3) := by decide +kernel
theorem dX12_gift_37 : decode cX12_gift 37 = .ok (.invokevirtual 271, 3) := by decide +kernel
theorem dX12_gift_40 : decode cX12_gift 40 = .ok (.aload_n 0, 1) := by decide +kernel
theorem dX12_gift_41 : decode cX12_gift 41 = .ok (.aload_n 0, 1) := by decide +kernel
theorem dX12_gift_42 : decode cX12_gift 42 = .ok (.iconst 0, 1) := by decide +kernel
theorem dX12_gift_43 : decode cX12_gift 43 = .ok (.invokevirtual 237, 3) := by decide +kernel
theorem dX12_gift_46 : decode cX12_gift 46 = .ok (.invokevirtual 288, 3) := by decide +kernel
theorem dX12_gift_49 : decode cX12_gift 49 = .ok (.aload_n 0, 1) := by decide +kernel
theorem dX12_gift_50 : decode cX12_gift 50 = .ok (.invokevirtual 262, 3) := by decide +kernel
theorem dX12_gift_53 : decode cX12_gift 53 = .ok (.invokestatic 240, 3) := by decide +kernel
theorem dX12_gift_56 : decode cX12_gift 56 = .ok (.istore 7, 2) := by decide +kernel
theorem dX12_gift_58 : decode cX12_gift 58 = .ok (.aload_n 0, 1) := by decide +kernel
theorem dX12_gift_59 : decode cX12_gift 59 = .ok (.invokevirtual 265, 3) := by decide +kernel
theorem dX12_gift_62 : decode cX12_gift 62 = .ok (.istore 8, 2) := by decide +kernel
theorem dX12_gift_64 : decode cX12_gift 64 = .ok (.aload_n 0, 1) := by decide +kernel
theorem dX12_gift_65 : decode cX12_gift 65 = .ok (.aload_n 0, 1) := by decide +kernel
theorem dX12_gift_66 : decode cX12_gift 66 = .ok (.getfield 91, 3) := by decide +kernel
theorem dX12_gift_69 : decode cX12_gift 69 = .ok (.invokevirtual 275, 3) := by decide +kernel
theorem dX12_gift_72 : decode cX12_gift 72 = .ok (.iload 7, 2) := by decide +kernel
theorem dX12_gift_74 : decode cX12_gift 74 = .ok (.iload 4, 2) := by decide +kernel
theorem dX12_gift_76 : decode cX12_gift 76 = .ok (.if_icmp .lt 31, 3) := by decide +kernel
theorem dX12_gift_79 : decode cX12_gift 79 = .ok (.iload 7, 2) := by decide +kernel
theorem dX12_gift_81 : decode cX12_gift 81 = .ok (.iload 4, 2) := by decide +kernel
theorem dX12_gift_83 : decode cX12_gift 83 = .ok (.if_icmp .ne 13, 3) := by decide +kernel
theorem dX12_gift_86 : decode cX12_gift 86 = .ok (.iload 8, 2) := by decide +kernel
theorem dX12_gift_88 : decode cX12_gift 88 = .ok (.iload 5, 2) := by decide +kernel
theorem dX12_gift_90 : decode cX12_gift 90 = .ok (.if_icmp .lt 6, 3) := by decide +kernel
theorem dX12_gift_93 : decode cX12_gift 93 = .ok (.goto 14, 3) := by decide +kernel
theorem dX12_gift_96 : decode cX12_gift 96 = .ok (.iload 7, 2) := by decide +kernel
theorem dX12_gift_98 : decode cX12_gift 98 = .ok (.istore 4, 2) := by decide +kernel
theorem dX12_gift_100 : decode cX12_gift 100 = .ok (.iload 8, 2) := by decide +kernel
theorem dX12_gift_102 : decode cX12_gift 102 = .ok (.istore 5, 2) := by decide +kernel
theorem dX12_gift_104 : decode cX12_gift 104 = .ok (.iload 6, 2) := by decide +kernel
theorem dX12_gift_106 : decode cX12_gift 106 = .ok (.istore_n 3, 1) := by decide +kernel
theorem dX12_gift_107 : decode cX12_gift 107 = .ok (.iinc 6 1, 3) := by decide +kernel
theorem dX12_gift_110 : decode cX12_gift 110 = .ok (.goto (-92), 3) := by decide +kernel
theorem dX12_gift_113 : decode cX12_gift 113 = .ok (.aload_n 0, 1) := by decide +kernel
theorem dX12_gift_114 : decode cX12_gift 114 = .ok (.getfield 27, 3) := by decide +kernel
theorem dX12_gift_117 : decode cX12_gift 117 = .ok (.iload_n 1, 1) := by decide +kernel
theorem dX12_gift_118 : decode cX12_gift 118 = .ok (.iload_n 2, 1) := by decide +kernel
theorem dX12_gift_119 : decode cX12_gift 119 = .ok (.iastore, 1) := by decide +kernel
theorem dX12_gift_120 : decode cX12_gift 120 = .ok (.iload_n 3, 1) := by decide +kernel
theorem dX12_gift_121 : decode cX12_gift 121 = .ok (.ireturn, 1) := by decide +kernel
theorem dX12_mark_0 : decode cX12_mark 0 = .ok (.iload_n 1, 1) := by decide +kernel
theorem dX12_mark_1 : decode cX12_mark 1 = .ok (.iconst (-1), 1) := by decide +kernel
theorem dX12_mark_2 : decode cX12_mark 2 = .ok (.if_icmp .ne 10, 3) := by decide +kernel
theorem dX12_mark_5 : decode cX12_mark 5 = .ok (.aload_n 0, 1) := by decide +kernel
theorem dX12_mark_6 : decode cX12_mark 6 = .ok (.iconst 0, 1) := by decide +kernel
theorem dX12_mark_7 : decode cX12_mark 7 = .ok (.putfield 291, 3) := by decide +kernel
theorem dX12_mark_10 : decode cX12_mark 10 = .ok (.iconst 0, 1) := by decide +kernel
theorem dX12_mark_11 : decode cX12_mark 11 = .ok (.ireturn, 1) := by decide +kernel
theorem dX12_mark_12 : decode cX12_mark 12 = .ok (.aload_n 0, 1) := by decide +kernel
theorem dX12_mark_13 : decode cX12_mark 13 = .ok (.iload_n 1, 1) := by decide +kernel
theorem dX12_mark_14 : decode cX12_mark 14 = .ok (.invokevirtual 125, 3) := by decide +kernel
theorem dX12_mark_17 : decode cX12_mark 17 = .ok (.ifCond .ne 5, 3) := by decide +kernel
theorem dX12_mark_20 : decode cX12_mark 20 = .ok (.iconst (-1), 1) := by decide +kernel
theorem dX12_mark_21 : decode cX12_mark 21 = .ok (.ireturn, 1) := by decide +kernel
theorem dX12_mark_22 : decode cX12_mark 22 = .ok (.iload_n 2, 1) := by decide +kernel
theorem dX12_mark_23 : decode cX12_mark 23 = .ok (.iconst 0, 1) := by decide +kernel
theorem dX12_mark_24 : decode cX12_mark 24 = .ok (.bipush 12, 2) := by decide +kernel
theorem dX12_mark_26 : decode cX12_mark 26 = .ok (.invokestatic 117, 3) := by decide +kernel
theorem dX12_mark_29 : decode cX12_mark 29 = .ok (.ifCond .eq 14, 3) := by decide +kernel
theorem dX12_mark_32 : decode cX12_mark 32 = .ok (.iload_n 3, 1) := by decide +kernel
theorem dX12_mark_33 : decode cX12_mark 33 = .ok (.iconst 0, 1) := by decide +kernel
theorem dX12_mark_34 : decode cX12_mark 34 = .ok (.sipush 999, 3) := by decide +kernel
theorem dX12_mark_37 : decode cX12_mark 37 = .ok (.invokestatic 117, 3) := by decide +kernel
theorem dX12_mark_40 : decode cX12_mark 40 = .ok (.ifCond .ne 6, 3) := by decide +kernel
theorem dX12_mark_43 : decode cX12_mark 43 = .ok (.bipush (-2), 2) := by decide +kernel
theorem dX12_mark_45 : decode cX12_mark 45 = .ok (.ireturn, 1) := by decide +kernel
theorem dX12_mark_46 : decode cX12_mark 46 = .ok (.aload_n 0, 1) := by decide +kernel
theorem dX12_mark_47 : decode cX12_mark 47 = .ok (.getfield 291, 3) := by decide +kernel
theorem dX12_mark_50 : decode cX12_mark 50 = .ok (.iconst 5, 1) := by decide +kernel
theorem dX12_mark_51 : decode cX12_mark 51 = .ok (.if_icmp .ne 6, 3) := by decide +kernel
theorem dX12_mark_54 : decode cX12_mark 54 = .ok (.bipush (-4), 2) := by decide +kernel
theorem dX12_mark_56 : decode cX12_mark 56 = .ok (.ireturn, 1) := by decide +kernel
theorem dX12_mark_57 : decode cX12_mark 57 = .ok (.aload_n 0, 1) := by decide +kernel
theorem dX12_mark_58 : decode cX12_mark 58 = .ok (.getfield 64, 3) := by decide +kernel
theorem dX12_mark_61 : decode cX12_mark 61 = .ok (.aload_n 0, 1) := by decide +kernel
theorem dX12_mark_62 : decode cX12_mark 62 = .ok (.getfield 291, 3) := by decide +kernel
theorem dX12_mark_65 : decode cX12_mark 65 = .ok (.iload_n 1, 1) := by decide +kernel
theorem dX12_mark_66 : decode cX12_mark 66 = .ok (.iastore, 1) := by decide +kernel
theorem dX12_mark_67 : decode cX12_mark 67 = .ok (.aload_n 0, 1) := by decide +kernel
theorem dX12_mark_68 : decode cX12_mark 68 = .ok (.getfield 67, 3) := by decide +kernel
theorem dX12_mark_71 : decode cX12_mark 71 = .ok (.aload_n 0, 1) := by decide +kernel
theorem dX12_mark_72 : decode cX12_mark 72 = .ok (.getfield 291, 3) := by decide +kernel
theorem dX12_mark_75 : decode cX12_mark 75 = .ok (.iload_n 2, 1) := by decide +kernel
theorem dX12_mark_76 : decode cX12_mark 76 = .ok (.iastore, 1) := by decide +kernel
theorem dX12_mark_77 : decode cX12_mark 77 = .ok (.aload_n 0, 1) := by decide +kernel
theorem dX12_mark_78 : decode cX12_mark 78 = .ok (.getfield 70, 3) := by decide +kernel
theorem dX12_mark_81 : decode cX12_mark 81 = .ok (.aload_n 0, 1) := by decide +kernel
theorem dX12_mark_82 : decode cX12_mark 82 = .ok (.dup, 1) := by decide +kernel
theorem dX12_mark_83 : decode cX12_mark 83 = .ok (.getfield 291, 3) := by decide +kernel
theorem dX12_mark_86 : decode cX12_mark 86 = .ok (.dup_x1, 1) := by decide +kernel
theorem dX12_mark_87 : decode cX12_mark 87 = .ok (.iconst 1, 1) := by decide +kernel
theorem dX12_mark_88 : decode cX12_mark 88 = .ok (.iadd, 1) := by decide +kernel
theorem dX12_mark_89 : decode cX12_mark 89 = .ok (.putfield 291, 3) := by decide +kernel
theorem dX12_mark_92 : decode cX12_mark 92 = .ok (.iload_n 3, 1) := by decide +kernel
theorem dX12_mark_93 : decode cX12_mark 93 = .ok (.iastore, 1) := by decide +kernel
theorem dX12_mark_94 : decode cX12_mark 94 = .ok (.aload_n 0, 1) := by decide +kernel
theorem dX12_mark_95 : decode cX12_mark 95 = .ok (.getfield 291, 3) := by decide +kernel
theorem dX12_mark_98 : decode cX12_mark 98 = .ok (.ireturn, 1) := by decide +kernel
theorem dX12_isMarked_0 : decode cX12_isMarked 0 = .ok (.aload_n 0, 1) := by decide +kernel
theorem dX12_isMarked_1 : decode cX12_isMarked 1 = .ok (.aload_n 0, 1) := by decide +kernel
theorem dX12_isMarked_2 : decode cX12_isMarked 2 = .ok (.getfield 91, 3) := by decide +kernel
theorem dX12_isMarked_5 : decode cX12_isMarked 5 = .ok (.invokevirtual 271, 3) := by decide +kernel
theorem dX12_isMarked_8 : decode cX12_isMarked 8 = .ok (.iconst 0, 1) := by decide +kernel
theorem dX12_isMarked_9 : decode cX12_isMarked 9 = .ok (.istore_n 2, 1) := by decide +kernel
theorem dX12_isMarked_10 : decode cX12_isMarked 10 = .ok (.iload_n 2, 1) := by decide +kernel
theorem dX12_isMarked_11 : decode cX12_isMarked 11 = .ok (.aload_n 0, 1) := by decide +kernel
theorem dX12_isMarked_12 : decode cX12_isMarked 12 = .ok (.getfield 67, 3) := by decide +kernel
theorem dX12_isMarked_15 : decode cX12_isMarked 15 = .ok (.iload_n 1, 1) := by decide +kernel
theorem dX12_isMarked_16 : decode cX12_isMarked 16 = .ok (.iaload, 1) := by decide +kernel
theorem dX12_isMarked_17 : decode cX12_isMarked 17 = .ok (.if_icmp .ge 13, 3) := by decide +kernel
theorem dX12_isMarked_20 : decode cX12_isMarked 20 = .ok (.aload_n 0, 1) := by decide +kernel
theorem dX12_isMarked_21 : decode cX12_isMarked 21 = .ok (.invokevirtual 268, 3) := by decide +kernel
theorem dX12_isMarked_24 : decode cX12_isMarked 24 = .ok (.iinc 2 1, 3) := by decide +kernel
theorem dX12_isMarked_27 : decode cX12_isMarked 27 = .ok (.goto (-17), 3) := by decide +kernel
theorem dX12_isMarked_30 : decode cX12_isMarked 30 = .ok (.iconst 0, 1) := by decide +kernel
theorem dX12_isMarked_31 : decode cX12_isMarked 31 = .ok (.aload_n 0, 1) := by decide +kernel
theorem dX12_isMarked_32 : decode cX12_isMarked 32 = .ok (.aload_n 0, 1) := by decide +kernel
theorem dX12_isMarked_33 : decode cX12_isMarked 33 = .ok (.getfield 64, 3) := by decide +kernel
theorem dX12_isMarked_36 : decode cX12_isMarked 36 = .ok (.iload_n 1, 1) := by decide +kernel
theorem dX12_isMarked_37 : decode cX12_isMarked 37 = .ok (.iaload, 1) := by decide +kernel
theorem dX12_isMarked_38 : decode cX12_isMarked 38 = .ok (.invokevirtual 128, 3) := by decide +kernel
theorem dX12_isMarked_41 : decode cX12_isMarked 41 = .ok (.invokestatic 245, 3) := by decide +kernel
theorem dX12_isMarked_44 : decode cX12_isMarked 44 = .ok (.aload_n 0, 1) := by decide +kernel
theorem dX12_isMarked_45 : decode cX12_isMarked 45 = .ok (.getfield 70, 3) := by decide +kernel
theorem dX12_isMarked_48 : decode cX12_isMarked 48 = .ok (.iload_n 1, 1) := by decide +kernel
theorem dX12_isMarked_49 : decode cX12_isMarked 49 = .ok (.iaload, 1) := by decide +kernel
theorem dX12_isMarked_50 : decode cX12_isMarked 50 = .ok (.if_icmp .ne 7, 3) := by decide +kernel
theorem dX12_isMarked_53 : decode cX12_isMarked 53 = .ok (.iconst 1, 1) := by decide +kernel
theorem dX12_isMarked_54 : decode cX12_isMarked 54 = .ok (.goto 4, 3) := by decide +kernel
theorem dX12_isMarked_57 : decode cX12_isMarked 57 = .ok (.iconst 0, 1) := by decide +kernel
theorem dX12_isMarked_58 : decode cX12_isMarked 58 = .ok (.istore_n 2, 1) := by decide +kernel
theorem dX12_isMarked_59 : decode cX12_isMarked 59 = .ok (.aload_n 0, 1) := by decide +kernel
theorem dX12_isMarked_60 : decode cX12_isMarked 60 = .ok (.aload_n 0, 1) := by decide +kernel
theorem dX12_isMarked_61 : decode cX12_isMarked 61 = .ok (.getfield 91, 3) := by decide +kernel
theorem dX12_isMarked_64 : decode cX12_isMarked 64 = .ok (.invokevirtual 275, 3) := by decide +kernel
theorem dX12_isMarked_67 : decode cX12_isMarked 67 = .ok (.iload_n 2, 1) := by decide +kernel
theorem dX12_isMarked_68 : decode cX12_isMarked 68 = .ok (.ireturn, 1) := by decide +kernel
theorem dX12_areMarked_0 : decode cX12_areMarked 0 = .ok (.iconst 0, 1) := by decide +kernel
theorem dX12_areMarked_1 : decode cX12_areMarked 1 = .ok (.istore_n 2, 1) := by decide +kernel
theorem dX12_areMarked_2 : decode cX12_areMarked 2 = .ok (.iload_n 2, 1) := by decide +kernel
theorem dX12_areMarked_3 : decode cX12_areMarked 3 = .ok (.aload_n 0, 1) := by decide +kernel
theorem dX12_areMarked_4 : decode cX12_areMarked 4 = .ok (.getfield 291, 3) := by decide +kernel
theorem dX12_areMarked_7 : decode cX12_areMarked 7 = .ok (.if_icmp .ge 29, 3) := by decide +kernel
theorem dX12_areMarked_10 : decode cX12_areMarked 10 = .ok (.aload_n 0, 1) := by decide +kernel
theorem dX12_areMarked_11 : decode cX12_areMarked 11 = .ok (.getfield 64, 3) := by decide +kernel
theorem dX12_areMarked_14 : decode cX12_areMarked 14 = .ok (.iload_n 2, 1) := by decide +kernel
theorem dX12_areMarked_15 : decode cX12_areMarked 15 = .ok (.iaload, 1) := by decide +kernel
theorem dX12_areMarked_16 : decode cX12_areMarked 16 = .ok (.iload_n 1, 1) := by decide +kernel
theorem dX12_areMarked_17 : decode cX12_areMarked 17 = .ok (.if_icmp .ne 13, 3) := by decide +kernel
theorem dX12_areMarked_20 : decode cX12_areMarked 20 = .ok (.aload_n 0, 1) := by decide +kernel
theorem dX12_areMarked_21 : decode cX12_areMarked 21 = .ok (.iload_n 2, 1) := by decide +kernel
theorem dX12_areMarked_22 : decode cX12_areMarked 22 = .ok (.invokevirtual 294, 3) := by decide +kernel
theorem dX12_areMarked_25 : decode cX12_areMarked 25 = .ok (.ifCond .ne 5, 3) := by decide +kernel
theorem dX12_areMarked_28 : decode cX12_areMarked 28 = .ok (.iconst 0, 1) := by decide +kernel
theorem dX12_areMarked_29 : decode cX12_areMarked 29 = .ok (.ireturn, 1) := by decide +kernel
theorem dX12_areMarked_30 : decode cX12_areMarked 30 = .ok (.iinc 2 1, 3) := by decide +kernel
theorem dX12_areMarked_33 : decode cX12_areMarked 33 = .ok (.goto (-31), 3) := by decide +kernel
theorem dX12_areMarked_36 : decode cX12_areMarked 36 = .ok (.iconst 1, 1) := by decide +kernel
theorem dX12_areMarked_37 : decode cX12_areMarked 37 = .ok (.ireturn, 1) := by decide +kernel
theorem dX12_sizes_0 : decode cX12_sizes 0 = .ok (.aload_n 0, 1) := by decide +kernel
theorem dX12_sizes_1 : decode cX12_sizes 1 = .ok (.getfield 24, 3) := by decide +kernel
theorem dX12_sizes_4 : decode cX12_sizes 4 = .ok (.iload_n 1, 1) := by decide +kernel
theorem dX12_sizes_5 : decode cX12_sizes 5 = .ok (.iaload, 1) := by decide +kernel
theorem dX12_sizes_6 : decode cX12_sizes 6 = .ok (.istore_n 2, 1) := by decide +kernel
theorem dX12_sizes_7 : decode cX12_sizes 7 = .ok (.iconst 0, 1) := by decide +kernel
theorem dX12_sizes_8 : decode cX12_sizes 8 = .ok (.istore_n 3, 1) := by decide +kernel
theorem dX12_sizes_9 : decode cX12_sizes 9 = .ok (.iconst 0, 1) := by decide +kernel
theorem dX12_sizes_10 : decode cX12_sizes 10 = .ok (.istore 4, 2) := by decide +kernel
theorem dX12_sizes_12 : decode cX12_sizes 12 = .ok (.iload 4, 2) := by decide +kernel
theorem dX12_sizes_14 : decode cX12_sizes 14 = .ok (.bipush 21, 2) := by decide +kernel
theorem dX12_sizes_16 : decode cX12_sizes 16 = .ok (.if_icmp .ge 32, 3) := by decide +kernel
theorem dX12_sizes_19 : decode cX12_sizes 19 = .ok (.aload_n 0, 1) := by decide +kernel
theorem dX12_sizes_20 : decode cX12_sizes 20 = .ok (.getfield 24, 3) := by decide +kernel
theorem dX12_sizes_23 : decode cX12_sizes 23 = .ok (.iload_n 1, 1) := by decide +kernel
theorem dX12_sizes_24 : decode cX12_sizes 24 = .ok (.iload 4, 2) := by decide +kernel
theorem dX12_sizes_26 : decode cX12_sizes 26 = .ok (.iastore, 1) := by decide +kernel
theorem dX12_sizes_27 : decode cX12_sizes 27 = .ok (.aload_n 0, 1) := by decide +kernel
theorem dX12_sizes_28 : decode cX12_sizes 28 = .ok (.iload_n 1, 1) := by decide +kernel
theorem dX12_sizes_29 : decode cX12_sizes 29 = .ok (.invokevirtual 297, 3) := by decide +kernel
theorem dX12_sizes_32 : decode cX12_sizes 32 = .ok (.ifCond .eq 10, 3) := by decide +kernel
theorem dX12_sizes_35 : decode cX12_sizes 35 = .ok (.iload_n 3, 1) := by decide +kernel
theorem dX12_sizes_36 : decode cX12_sizes 36 = .ok (.iconst 1, 1) := by decide +kernel
theorem dX12_sizes_37 : decode cX12_sizes 37 = .ok (.iload 4, 2) := by decide +kernel
theorem dX12_sizes_39 : decode cX12_sizes 39 = .ok (.ishl, 1) := by decide +kernel
theorem dX12_sizes_40 : decode cX12_sizes 40 = .ok (.ior, 1) := by decide +kernel
theorem dX12_sizes_41 : decode cX12_sizes 41 = .ok (.istore_n 3, 1) := by decide +kernel
theorem dX12_sizes_42 : decode cX12_sizes 42 = .ok (.iinc 4 1, 3) := by decide +kernel
theorem dX12_sizes_45 : decode cX12_sizes 45 = .ok (.goto (-33), 3) := by decide +kernel
theorem dX12_sizes_48 : decode cX12_sizes 48 = .ok (.aload_n 0, 1) := by decide +kernel
theorem dX12_sizes_49 : decode cX12_sizes 49 = .ok (.getfield 24, 3) := by decide +kernel
theorem dX12_sizes_52 : decode cX12_sizes 52 = .ok (.iload_n 1, 1) := by decide +kernel
theorem dX12_sizes_53 : decode cX12_sizes 53 = .ok (.iload_n 2, 1) := by decide +kernel
theorem dX12_sizes_54 : decode cX12_sizes 54 = .ok (.iastore, 1) := by decide +kernel
theorem dX12_sizes_55 : decode cX12_sizes 55 = .ok (.iload_n 3, 1) := by decide +kernel
theorem dX12_sizes_56 : decode cX12_sizes 56 = .ok (.ireturn, 1) := by decide +kernel
theorem dX12_wrong_0 : decode cX12_wrong 0 = .ok (.iconst 0, 1) := by decide +kernel
theorem dX12_wrong_1 : decode cX12_wrong 1 = .ok (.istore_n 1, 1) := by decide +kernel
theorem dX12_wrong_2 : decode cX12_wrong 2 = .ok (.iload_n 1, 1) := by decide +kernel
theorem dX12_wrong_3 : decode cX12_wrong 3 = .ok (.aload_n 0, 1) := by decide +kernel
theorem dX12_wrong_4 : decode cX12_wrong 4 = .ok (.getfield 291, 3) := by decide +kernel
theorem dX12_wrong_7 : decode cX12_wrong 7 = .ok (.if_icmp .ge 19, 3) := by decide +kernel
theorem dX12_wrong_10 : decode cX12_wrong 10 = .ok (.aload_n 0, 1) := by decide +kernel
theorem dX12_wrong_11 : decode cX12_wrong 11 = .ok (.iload_n 1, 1) := by decide +kernel
theorem dX12_wrong_12 : decode cX12_wrong 12 = .ok (.invokevirtual 294, 3) := by decide +kernel
theorem dX12_wrong_15 : decode cX12_wrong 15 = .ok (.ifCond .ne 5, 3) := by decide +kernel
theorem dX12_wrong_18 : decode cX12_wrong 18 = .ok (.iload_n 1, 1) := by decide +kernel
theorem dX12_wrong_19 : decode cX12_wrong 19 = .ok (.ireturn, 1) := by decide +kernel
theorem dX12_wrong_20 : decode cX12_wrong 20 = .ok (.iinc 1 1, 3) := by decide +kernel
theorem dX12_wrong_23 : decode cX12_wrong 23 = .ok (.goto (-21), 3) := by decide +kernel
theorem dX12_wrong_26 : decode cX12_wrong 26 = .ok (.bipush (-5), 2) := by decide +kernel
theorem dX12_wrong_28 : decode cX12_wrong 28 = .ok (.ireturn, 1) := by decide +kernel
theorem dX12_can_0 : decode cX12_can 0 = .ok (.aload_n 0, 1) := by decide +kernel
theorem dX12_can_1 : decode cX12_can 1 = .ok (.iload_n 1, 1) := by decide +kernel
theorem dX12_can_2 : decode cX12_can 2 = .ok (.invokevirtual 125, 3) := by decide +kernel
theorem dX12_can_5 : decode cX12_can 5 = .ok (.ifCond .eq 12, 3) := by decide +kernel
theorem dX12_can_8 : decode cX12_can 8 = .ok (.iload_n 2, 1) := by decide +kernel
theorem dX12_can_9 : decode cX12_can 9 = .ok (.iconst 0, 1) := by decide +kernel
theorem dX12_can_10 : decode cX12_can 10 = .ok (.iconst 1, 1) := by decide +kernel
theorem dX12_can_11 : decode cX12_can 11 = .ok (.invokestatic 117, 3) := by decide +kernel
theorem dX12_can_14 : decode cX12_can 14 = .ok (.ifCond .ne 5, 3) := by decide +kernel
theorem dX12_can_17 : decode cX12_can 17 = .ok (.iconst (-1), 1) := by decide +kernel
theorem dX12_can_18 : decode cX12_can 18 = .ok (.ireturn, 1) := by decide +kernel
theorem dX12_can_19 : decode cX12_can 19 = .ok (.aload_n 0, 1) := by decide +kernel
theorem dX12_can_20 : decode cX12_can 20 = .ok (.getfield 21, 3) := by decide +kernel
theorem dX12_can_23 : decode cX12_can 23 = .ok (.iload_n 1, 1) := by decide +kernel
theorem dX12_can_24 : decode cX12_can 24 = .ok (.iaload, 1) := by decide +kernel
theorem dX12_can_25 : decode cX12_can 25 = .ok (.istore_n 3, 1) := by decide +kernel
theorem dX12_can_26 : decode cX12_can 26 = .ok (.iconst 0, 1) := by decide +kernel
theorem dX12_can_27 : decode cX12_can 27 = .ok (.istore 4, 2) := by decide +kernel
theorem dX12_can_29 : decode cX12_can 29 = .ok (.bipush (-5), 2) := by decide +kernel
theorem dX12_can_31 : decode cX12_can 31 = .ok (.istore 5, 2) := by decide +kernel
theorem dX12_can_33 : decode cX12_can 33 = .ok (.bipush 9, 2) := by decide +kernel
theorem dX12_can_35 : decode cX12_can 35 = .ok (.istore 6, 2) := by decide +kernel
theorem dX12_can_37 : decode cX12_can 37 = .ok (.iload 6, 2) := by decide +kernel
theorem dX12_can_39 : decode cX12_can 39 = .ok (.ifCond .lt 35, 3) := by decide +kernel
theorem dX12_can_42 : decode cX12_can 42 = .ok (.aload_n 0, 1) := by decide +kernel
theorem dX12_can_43 : decode cX12_can 43 = .ok (.getfield 21, 3) := by decide +kernel
theorem dX12_can_46 : decode cX12_can 46 = .ok (.iload_n 1, 1) := by decide +kernel
theorem dX12_can_47 : decode cX12_can 47 = .ok (.iload 6, 2) := by decide +kernel
theorem dX12_can_49 : decode cX12_can 49 = .ok (.iastore, 1) := by decide +kernel
theorem dX12_can_50 : decode cX12_can 50 = .ok (.aload_n 0, 1) := by decide +kernel
theorem dX12_can_51 : decode cX12_can 51 = .ok (.iload_n 1, 1) := by decide +kernel
theorem dX12_can_52 : decode cX12_can 52 = .ok (.invokevirtual 297, 3) := by decide +kernel
theorem dX12_can_55 : decode cX12_can 55 = .ok (.ifCond .ne 6, 3) := by decide +kernel
theorem dX12_can_58 : decode cX12_can 58 = .ok (.goto 10, 3) := by decide +kernel
theorem dX12_can_61 : decode cX12_can 61 = .ok (.iinc 4 1, 3) := by decide +kernel
theorem dX12_can_64 : decode cX12_can 64 = .ok (.iload 6, 2) := by decide +kernel
theorem dX12_can_66 : decode cX12_can 66 = .ok (.istore 5, 2) := by decide +kernel
theorem dX12_can_68 : decode cX12_can 68 = .ok (.iinc 6 (-1), 3) := by decide +kernel
theorem dX12_can_71 : decode cX12_can 71 = .ok (.goto (-34), 3) := by decide +kernel
theorem dX12_can_74 : decode cX12_can 74 = .ok (.aload_n 0, 1) := by decide +kernel
theorem dX12_can_75 : decode cX12_can 75 = .ok (.getfield 21, 3) := by decide +kernel
theorem dX12_can_78 : decode cX12_can 78 = .ok (.iload_n 1, 1) := by decide +kernel
theorem dX12_can_79 : decode cX12_can 79 = .ok (.iload_n 3, 1) := by decide +kernel
theorem dX12_can_80 : decode cX12_can 80 = .ok (.iastore, 1) := by decide +kernel
theorem dX12_can_81 : decode cX12_can 81 = .ok (.iload_n 2, 1) := by decide +kernel
theorem dX12_can_82 : decode cX12_can 82 = .ok (.ifCond .ne 8, 3) := by decide +kernel
theorem dX12_can_85 : decode cX12_can 85 = .ok (.iload 4, 2) := by decide +kernel
theorem dX12_can_87 : decode cX12_can 87 = .ok (.goto 5, 3) := by decide +kernel
theorem dX12_can_90 : decode cX12_can 90 = .ok (.iload 5, 2) := by decide +kernel
theorem dX12_can_92 : decode cX12_can 92 = .ok (.ireturn, 1) := by decide +kernel
theorem dX12_part_0 : decode cX12_part 0 = .ok (.lload_n 0, 1) := by decide +kernel
theorem dX12_part_1 : decode cX12_part 1 = .ok (.lstore 5, 2) := by decide +kernel
theorem dX12_part_3 : decode cX12_part 3 = .ok (.lload_n 2, 1) := by decide +kernel
theorem dX12_part_4 : decode cX12_part 4 = .ok (.lstore 7, 2) := by decide +kernel
theorem dX12_part_6 : decode cX12_part 6 = .ok (.lload 7, 2) := by decide +kernel
theorem dX12_part_8 : decode cX12_part 8 = .ok (.lconst 0, 1) := by decide +kernel
theorem dX12_part_9 : decode cX12_part 9 = .ok (.lcmp, 1) := by decide +kernel
theorem dX12_part_10 : decode cX12_part 10 = .ok (.ifCond .eq 21, 3) := by decide +kernel
theorem dX12_part_13 : decode cX12_part 13 = .ok (.lload 5, 2) := by decide +kernel
theorem dX12_part_15 : decode cX12_part 15 = .ok (.lload 7, 2) := by decide +kernel
theorem dX12_part_17 : decode cX12_part 17 = .ok (.lrem, 1) := by decide +kernel
theorem dX12_part_18 : decode cX12_part 18 = .ok (.lstore 9, 2) := by decide +kernel
theorem dX12_part_20 : decode cX12_part 20 = .ok (.lload 7, 2) := by decide +kernel
theorem dX12_part_22 : decode cX12_part 22 = .ok (.lstore 5, 2) := by decide +kernel
theorem dX12_part_24 : decode cX12_part 24 = .ok (.lload 9, 2) := by decide +kernel
theorem dX12_part_26 : decode cX12_part 26 = .ok (.lstore 7, 2) := by decide +kernel
theorem dX12_part_28 : decode cX12_part 28 = .ok (.goto (-22), 3) := by decide +kernel
theorem dX12_part_31 : decode cX12_part 31 = .ok (.iload 4, 2) := by decide +kernel
theorem dX12_part_33 : decode cX12_part 33 = .ok (.ifCond .ne 10, 3) := by decide +kernel
theorem dX12_part_36 : decode cX12_part 36 = .ok (.lload_n 0, 1) := by decide +kernel
theorem dX12_part_37 : decode cX12_part 37 = .ok (.lload 5, 2) := by decide +kernel
theorem dX12_part_39 : decode cX12_part 39 = .ok (.ldiv, 1) := by decide +kernel
theorem dX12_part_40 : decode cX12_part 40 = .ok (.goto 7, 3) := by decide +kernel
theorem dX12_part_43 : decode cX12_part 43 = .ok (.lload_n 2, 1) := by decide +kernel
theorem dX12_part_44 : decode cX12_part 44 = .ok (.lload 5, 2) := by decide +kernel
theorem dX12_part_46 : decode cX12_part 46 = .ok (.ldiv, 1) := by decide +kernel
theorem dX12_part_47 : decode cX12_part 47 = .ok (.lreturn, 1) := by decide +kernel
theorem dX12_odds_0 : decode cX12_odds 0 = .ok (.aload_n 0, 1) := by decide +kernel
theorem dX12_odds_1 : decode cX12_odds 1 = .ok (.iload_n 1, 1) := by decide +kernel
theorem dX12_odds_2 : decode cX12_odds 2 = .ok (.invokevirtual 125, 3) := by decide +kernel
theorem dX12_odds_5 : decode cX12_odds 5 = .ok (.ifCond .eq 12, 3) := by decide +kernel
theorem dX12_odds_8 : decode cX12_odds 8 = .ok (.iload_n 2, 1) := by decide +kernel
theorem dX12_odds_9 : decode cX12_odds 9 = .ok (.iconst 0, 1) := by decide +kernel
theorem dX12_odds_10 : decode cX12_odds 10 = .ok (.iconst 1, 1) := by decide +kernel
theorem dX12_odds_11 : decode cX12_odds 11 = .ok (.invokestatic 117, 3) := by decide +kernel
theorem dX12_odds_14 : decode cX12_odds 14 = .ok (.ifCond .ne 7, 3) := by decide +kernel
theorem dX12_odds_17 : decode cX12_odds 17 = .ok (.ldc2_w 300, 3) := by decide +kernel
theorem dX12_odds_20 : decode cX12_odds 20 = .ok (.lreturn, 1) := by decide +kernel
theorem dX12_odds_21 : decode cX12_odds 21 = .ok (.iconst 0, 1) := by decide +kernel
theorem dX12_odds_22 : decode cX12_odds 22 = .ok (.istore_n 3, 1) := by decide +kernel
theorem dX12_odds_23 : decode cX12_odds 23 = .ok (.iconst 0, 1) := by decide +kernel
theorem dX12_odds_24 : decode cX12_odds 24 = .ok (.istore 4, 2) := by decide +kernel
theorem dX12_odds_26 : decode cX12_odds 26 = .ok (.iload 4, 2) := by decide +kernel
theorem dX12_odds_28 : decode cX12_odds 28 = .ok (.bipush 10, 2) := by decide +kernel
theorem dX12_odds_30 : decode cX12_odds 30 = .ok (.if_icmp .ge 53, 3) := by decide +kernel
theorem dX12_odds_33 : decode cX12_odds 33 = .ok (.aload_n 0, 1) := by decide +kernel
theorem dX12_odds_34 : decode cX12_odds 34 = .ok (.aload_n 0, 1) := by decide +kernel
theorem dX12_odds_35 : decode cX12_odds 35 = .ok (.getfield 91, 3) := by decide +kernel
theorem dX12_odds_38 : decode cX12_odds 38 = .ok (.invokevirtual 271, 3) := by decide +kernel
theorem dX12_odds_41 : decode cX12_odds 41 = .ok (.aload_n 0, 1) := by decide +kernel
theorem dX12_odds_42 : decode cX12_odds 42 = .ok (.getfield 15, 3) := by decide +kernel
theorem dX12_odds_45 : decode cX12_odds 45 = .ok (.aload_n 0, 1) := by decide +kernel
theorem dX12_odds_46 : decode cX12_odds 46 = .ok (.getfield 224, 3) := by decide +kernel
theorem dX12_odds_49 : decode cX12_odds 49 = .ok (.iconst 4, 1) := by decide +kernel
theorem dX12_odds_50 : decode cX12_odds 50 = .ok (.irem, 1) := by decide +kernel
theorem dX12_odds_51 : decode cX12_odds 51 = .ok (.iload 4, 2) := by decide +kernel
theorem dX12_odds_53 : decode cX12_odds 53 = .ok (.iastore, 1) := by decide +kernel
theorem dX12_odds_54 : decode cX12_odds 54 = .ok (.aload_n 0, 1) := by decide +kernel
theorem dX12_odds_55 : decode cX12_odds 55 = .ok (.invokevirtual 268, 3) := by decide +kernel
theorem dX12_odds_58 : decode cX12_odds 58 = .ok (.aload_n 0, 1) := by decide +kernel
theorem dX12_odds_59 : decode cX12_odds 59 = .ok (.iload_n 1, 1) := by decide +kernel
theorem dX12_odds_60 : decode cX12_odds 60 = .ok (.invokevirtual 128, 3) := by decide +kernel
theorem dX12_odds_63 : decode cX12_odds 63 = .ok (.ifCond .le 6, 3) := by decide +kernel
theorem dX12_odds_66 : decode cX12_odds 66 = .ok (.iinc 3 1, 3) := by decide +kernel
theorem dX12_odds_69 : decode cX12_odds 69 = .ok (.aload_n 0, 1) := by decide +kernel
theorem dX12_odds_70 : decode cX12_odds 70 = .ok (.aload_n 0, 1) := by decide +kernel
theorem dX12_odds_71 : decode cX12_odds 71 = .ok (.getfield 91, 3) := by decide +kernel
theorem dX12_odds_74 : decode cX12_odds 74 = .ok (.invokevirtual 275, 3) := by decide +kernel
theorem dX12_odds_77 : decode cX12_odds 77 = .ok (.iinc 4 1, 3) := by decide +kernel
theorem dX12_odds_80 : decode cX12_odds 80 = .ok (.goto (-54), 3) := by decide +kernel
theorem dX12_odds_83 : decode cX12_odds 83 = .ok (.iload_n 3, 1) := by decide +kernel
theorem dX12_odds_84 : decode cX12_odds 84 = .ok (.i2l, 1) := by decide +kernel
theorem dX12_odds_85 : decode cX12_odds 85 = .ok (.ldc2_w 302, 3) := by decide +kernel
theorem dX12_odds_88 : decode cX12_odds 88 = .ok (.iload_n 2, 1) := by decide +kernel
theorem dX12_odds_89 : decode cX12_odds 89 = .ok (.invokestatic 304, 3) := by decide +kernel
theorem dX12_odds_92 : decode cX12_odds 92 = .ok (.lreturn, 1) := by decide +kernel
theorem dX12_mean_0 : decode cX12_mean 0 = .ok (.iconst 4, 1) := by decide +kernel
theorem dX12_mean_1 : decode cX12_mean 1 = .ok (.aload_n 0, 1) := by decide +kernel
theorem dX12_mean_2 : decode cX12_mean 2 = .ok (.invokevirtual 262, 3) := by decide +kernel
theorem dX12_mean_5 : decode cX12_mean 5 = .ok (.invokestatic 240, 3) := by decide +kernel
theorem dX12_mean_8 : decode cX12_mean 8 = .ok (.isub, 1) := by decide +kernel
theorem dX12_mean_9 : decode cX12_mean 9 = .ok (.istore_n 2, 1) := by decide +kernel
theorem dX12_mean_10 : decode cX12_mean 10 = .ok (.iload_n 1, 1) := by decide +kernel
theorem dX12_mean_11 : decode cX12_mean 11 = .ok (.iconst 0, 1) := by decide +kernel
theorem dX12_mean_12 : decode cX12_mean 12 = .ok (.iconst 1, 1) := by decide +kernel
theorem dX12_mean_13 : decode cX12_mean 13 = .ok (.invokestatic 117, 3) := by decide +kernel
theorem dX12_mean_16 : decode cX12_mean 16 = .ok (.ifCond .eq 7, 3) := by decide +kernel
theorem dX12_mean_19 : decode cX12_mean 19 = .ok (.iload_n 2, 1) := by decide +kernel
theorem dX12_mean_20 : decode cX12_mean 20 = .ok (.ifCond .ne 9, 3) := by decide +kernel
theorem dX12_mean_23 : decode cX12_mean 23 = .ok (.ldc2_w 300, 3) := by decide +kernel
theorem dX12_mean_26 : decode cX12_mean 26 = .ok (.goto 14, 3) := by decide +kernel
theorem dX12_mean_29 : decode cX12_mean 29 = .ok (.aload_n 0, 1) := by decide +kernel
theorem dX12_mean_30 : decode cX12_mean 30 = .ok (.invokevirtual 265, 3) := by decide +kernel
theorem dX12_mean_33 : decode cX12_mean 33 = .ok (.i2l, 1) := by decide +kernel
theorem dX12_mean_34 : decode cX12_mean 34 = .ok (.iload_n 2, 1) := by decide +kernel
theorem dX12_mean_35 : decode cX12_mean 35 = .ok (.i2l, 1) := by decide +kernel
theorem dX12_mean_36 : decode cX12_mean 36 = .ok (.iload_n 1, 1) := by decide +kernel
theorem dX12_mean_37 : decode cX12_mean 37 = .ok (.invokestatic 304, 3) := by decide +kernel
theorem dX12_mean_40 : decode cX12_mean 40 = .ok (.lreturn, 1) := by decide +kernel
theorem dX12_plan_0 : decode cX12_plan 0 = .ok (.iload_n 1, 1) := by decide +kernel
theorem dX12_plan_1 : decode cX12_plan 1 = .ok (.iconst (-1), 1) := by decide +kernel
theorem dX12_plan_2 : decode cX12_plan 2 = .ok (.if_icmp .ne 10, 3) := by decide +kernel
theorem dX12_plan_5 : decode cX12_plan 5 = .ok (.aload_n 0, 1) := by decide +kernel
theorem dX12_plan_6 : decode cX12_plan 6 = .ok (.iconst 0, 1) := by decide +kernel
theorem dX12_plan_7 : decode cX12_plan 7 = .ok (.putfield 308, 3) := by decide +kernel
theorem dX12_plan_10 : decode cX12_plan 10 = .ok (.iconst 0, 1) := by decide +kernel
theorem dX12_plan_11 : decode cX12_plan 11 = .ok (.ireturn, 1) := by decide +kernel
theorem dX12_plan_12 : decode cX12_plan 12 = .ok (.iload_n 1, 1) := by decide +kernel
theorem dX12_plan_13 : decode cX12_plan 13 = .ok (.iconst 0, 1) := by decide +kernel
theorem dX12_plan_14 : decode cX12_plan 14 = .ok (.iconst 3, 1) := by decide +kernel
theorem dX12_plan_15 : decode cX12_plan 15 = .ok (.invokestatic 117, 3) := by decide +kernel
theorem dX12_plan_18 : decode cX12_plan 18 = .ok (.ifCond .eq 15, 3) := by decide +kernel
theorem dX12_plan_21 : decode cX12_plan 21 = .ok (.iload_n 1, 1) := by decide +kernel
theorem dX12_plan_22 : decode cX12_plan 22 = .ok (.ifCond .le 13, 3) := by decide +kernel
theorem dX12_plan_25 : decode cX12_plan 25 = .ok (.aload_n 0, 1) := by decide +kernel
theorem dX12_plan_26 : decode cX12_plan 26 = .ok (.iload_n 2, 1) := by decide +kernel
theorem dX12_plan_27 : decode cX12_plan 27 = .ok (.invokevirtual 125, 3) := by decide +kernel
theorem dX12_plan_30 : decode cX12_plan 30 = .ok (.ifCond .ne 5, 3) := by decide +kernel
theorem dX12_plan_33 : decode cX12_plan 33 = .ok (.iconst (-1), 1) := by decide +kernel
theorem dX12_plan_34 : decode cX12_plan 34 = .ok (.ireturn, 1) := by decide +kernel
theorem dX12_plan_35 : decode cX12_plan 35 = .ok (.aload_n 0, 1) := by decide +kernel
theorem dX12_plan_36 : decode cX12_plan 36 = .ok (.getfield 308, 3) := by decide +kernel
theorem dX12_plan_39 : decode cX12_plan 39 = .ok (.bipush 10, 2) := by decide +kernel
theorem dX12_plan_41 : decode cX12_plan 41 = .ok (.if_icmp .ne 6, 3) := by decide +kernel
theorem dX12_plan_44 : decode cX12_plan 44 = .ok (.bipush (-4), 2) := by decide +kernel
theorem dX12_plan_46 : decode cX12_plan 46 = .ok (.ireturn, 1) := by decide +kernel
theorem dX12_plan_47 : decode cX12_plan 47 = .ok (.aload_n 0, 1) := by decide +kernel
theorem dX12_plan_48 : decode cX12_plan 48 = .ok (.getfield 73, 3) := by decide +kernel
theorem dX12_plan_51 : decode cX12_plan 51 = .ok (.aload_n 0, 1) := by decide +kernel
theorem dX12_plan_52 : decode cX12_plan 52 = .ok (.getfield 308, 3) := by decide +kernel
theorem dX12_plan_55 : decode cX12_plan 55 = .ok (.iload_n 1, 1) := by decide +kernel
theorem dX12_plan_56 : decode cX12_plan 56 = .ok (.iastore, 1) := by decide +kernel
theorem dX12_plan_57 : decode cX12_plan 57 = .ok (.aload_n 0, 1) := by decide +kernel
theorem dX12_plan_58 : decode cX12_plan 58 = .ok (.getfield 76, 3) := by decide +kernel
theorem dX12_plan_61 : decode cX12_plan 61 = .ok (.aload_n 0, 1) := by decide +kernel
theorem dX12_plan_62 : decode cX12_plan 62 = .ok (.dup, 1) := by decide +kernel
theorem dX12_plan_63 : decode cX12_plan 63 = .ok (.getfield 308, 3) := by decide +kernel
theorem dX12_plan_66 : decode cX12_plan 66 = .ok (.dup_x1, 1) := by decide +kernel
theorem dX12_plan_67 : decode cX12_plan 67 = .ok (.iconst 1, 1) := by decide +kernel
theorem dX12_plan_68 : decode cX12_plan 68 = .ok (.iadd, 1) := by decide +kernel
theorem dX12_plan_69 : decode cX12_plan 69 = .ok (.putfield 308, 3) := by decide +kernel
theorem dX12_plan_72 : decode cX12_plan 72 = .ok (.iload_n 1, 1) := by decide +kernel
theorem dX12_plan_73 : decode cX12_plan 73 = .ok (.ifCond .ne 7, 3) := by decide +kernel
theorem dX12_plan_76 : decode cX12_plan 76 = .ok (.iconst 0, 1) := by decide +kernel
theorem dX12_plan_77 : decode cX12_plan 77 = .ok (.goto 4, 3) := by decide +kernel
theorem dX12_plan_80 : decode cX12_plan 80 = .ok (.iload_n 2, 1) := by decide +kernel
theorem dX12_plan_81 : decode cX12_plan 81 = .ok (.iastore, 1) := by decide +kernel
theorem dX12_plan_82 : decode cX12_plan 82 = .ok (.aload_n 0, 1) := by decide +kernel
theorem dX12_plan_83 : decode cX12_plan 83 = .ok (.getfield 308, 3) := by decide +kernel
theorem dX12_plan_86 : decode cX12_plan 86 = .ok (.ireturn, 1) := by decide +kernel
theorem dX12_ends_0 : decode cX12_ends 0 = .ok (.iload_n 1, 1) := by decide +kernel
theorem dX12_ends_1 : decode cX12_ends 1 = .ok (.iconst 0, 1) := by decide +kernel
theorem dX12_ends_2 : decode cX12_ends 2 = .ok (.iconst 1, 1) := by decide +kernel
theorem dX12_ends_3 : decode cX12_ends 3 = .ok (.invokestatic 117, 3) := by decide +kernel
theorem dX12_ends_6 : decode cX12_ends 6 = .ok (.ifCond .ne 5, 3) := by decide +kernel
theorem dX12_ends_9 : decode cX12_ends 9 = .ok (.iconst (-1), 1) := by decide +kernel
theorem dX12_ends_10 : decode cX12_ends 10 = .ok (.ireturn, 1) := by decide +kernel
theorem dX12_ends_11 : decode cX12_ends 11 = .ok (.aload_n 0, 1) := by decide +kernel
theorem dX12_ends_12 : decode cX12_ends 12 = .ok (.aload_n 0, 1) := by decide +kernel
theorem dX12_ends_13 : decode cX12_ends 13 = .ok (.getfield 91, 3) := by decide +kernel
theorem dX12_ends_16 : decode cX12_ends 16 = .ok (.invokevirtual 271, 3) := by decide +kernel
theorem dX12_ends_19 : decode cX12_ends 19 = .ok (.iconst 0, 1) := by decide +kernel
theorem dX12_ends_20 : decode cX12_ends 20 = .ok (.istore_n 2, 1) := by decide +kernel
theorem dX12_ends_21 : decode cX12_ends 21 = .ok (.iload_n 2, 1) := by decide +kernel
theorem dX12_ends_22 : decode cX12_ends 22 = .ok (.aload_n 0, 1) := by decide +kernel
theorem dX12_ends_23 : decode cX12_ends 23 = .ok (.getfield 308, 3) := by decide +kernel
theorem dX12_ends_26 : decode cX12_ends 26 = .ok (.if_icmp .ge 86, 3) := by decide +kernel
theorem dX12_ends_29 : decode cX12_ends 29 = .ok (.aload_n 0, 1) := by decide +kernel
theorem dX12_ends_30 : decode cX12_ends 30 = .ok (.getfield 76, 3) := by decide +kernel
theorem dX12_ends_33 : decode cX12_ends 33 = .ok (.iload_n 2, 1) := by decide +kernel
theorem dX12_ends_34 : decode cX12_ends 34 = .ok (.iaload, 1) := by decide +kernel
theorem dX12_ends_35 : decode cX12_ends 35 = .ok (.istore_n 3, 1) := by decide +kernel
theorem dX12_ends_36 : decode cX12_ends 36 = .ok (.aload_n 0, 1) := by decide +kernel
theorem dX12_ends_37 : decode cX12_ends 37 = .ok (.getfield 73, 3) := by decide +kernel
theorem dX12_ends_40 : decode cX12_ends 40 = .ok (.iload_n 2, 1) := by decide +kernel
theorem dX12_ends_41 : decode cX12_ends 41 = .ok (.iaload, 1) := by decide +kernel
theorem dX12_ends_42 : decode cX12_ends 42 = .ok (.ifCond .ne 10, 3) := by decide +kernel
theorem dX12_ends_45 : decode cX12_ends 45 = .ok (.aload_n 0, 1) := by decide +kernel
theorem dX12_ends_46 : decode cX12_ends 46 = .ok (.invokevirtual 268, 3) := by decide +kernel
theorem dX12_ends_49 : decode cX12_ends 49 = .ok (.goto 57, 3) := by decide +kernel
theorem dX12_ends_52 : decode cX12_ends 52 = .ok (.aload_n 0, 1) := by decide +kernel
theorem dX12_ends_53 : decode cX12_ends 53 = .ok (.getfield 73, 3) := by decide +kernel
theorem dX12_ends_56 : decode cX12_ends 56 = .ok (.iload_n 2, 1) := by decide +kernel
theorem dX12_ends_57 : decode cX12_ends 57 = .ok (.iaload, 1) := by decide +kernel
theorem dX12_ends_58 : decode cX12_ends 58 = .ok (.iconst 2, 1) := by decide +kernel
theorem dX12_ends_59 : decode cX12_ends 59 = .ok (.if_icmp .ne 13, 3) := by decide +kernel
theorem dX12_ends_62 : decode cX12_ends 62 = .ok (.aload_n 0, 1) := by decide +kernel
theorem dX12_ends_63 : decode cX12_ends 63 = .ok (.getfield 30, 3) := by decide +kernel
theorem dX12_ends_66 : decode cX12_ends 66 = .ok (.iload_n 3, 1) := by decide +kernel
theorem dX12_ends_67 : decode cX12_ends 67 = .ok (.iconst 0, 1) := by decide +kernel
theorem dX12_ends_68 : decode cX12_ends 68 = .ok (.iastore, 1) := by decide +kernel
theorem dX12_ends_69 : decode cX12_ends 69 = .ok (.goto 37, 3) := by decide +kernel
theorem dX12_ends_72 : decode cX12_ends 72 = .ok (.aload_n 0, 1) := by decide +kernel
theorem dX12_ends_73 : decode cX12_ends 73 = .ok (.getfield 73, 3) := by decide +kernel
theorem dX12_ends_76 : decode cX12_ends 76 = .ok (.iload_n 2, 1) := by decide +kernel
theorem dX12_ends_77 : decode cX12_ends 77 = .ok (.iaload, 1) := by decide +kernel
theorem dX12_ends_78 : decode cX12_ends 78 = .ok (.iconst 3, 1) := by decide +kernel
theorem dX12_ends_79 : decode cX12_ends 79 = .ok (.if_icmp .ne 13, 3) := by decide +kernel
theorem dX12_ends_82 : decode cX12_ends 82 = .ok (.aload_n 0, 1) := by decide +kernel
theorem dX12_ends_83 : decode cX12_ends 83 = .ok (.getfield 33, 3) := by decide +kernel
theorem dX12_ends_86 : decode cX12_ends 86 = .ok (.iload_n 3, 1) := by decide +kernel
theorem dX12_ends_87 : decode cX12_ends 87 = .ok (.iconst 0, 1) := by decide +kernel
theorem dX12_ends_88 : decode cX12_ends 88 = .ok (.iastore, 1) := by decide +kernel
theorem dX12_ends_89 : decode cX12_ends 89 = .ok (.goto 17, 3) := by decide +kernel
theorem dX12_ends_92 : decode cX12_ends 92 = .ok (.aload_n 0, 1) := by decide +kernel
theorem dX12_ends_93 : decode cX12_ends 93 = .ok (.getfield 33, 3) := by decide +kernel
theorem dX12_ends_96 : decode cX12_ends 96 = .ok (.iload_n 3, 1) := by decide +kernel
theorem dX12_ends_97 : decode cX12_ends 97 = .ok (.iaload, 1) := by decide +kernel
theorem dX12_ends_98 : decode cX12_ends 98 = .ok (.ifCond .ne 8, 3) := by decide +kernel
theorem dX12_ends_101 : decode cX12_ends 101 = .ok (.aload_n 0, 1) := by decide +kernel
theorem dX12_ends_102 : decode cX12_ends 102 = .ok (.iload_n 3, 1) := by decide +kernel
theorem dX12_ends_103 : decode cX12_ends 103 = .ok (.invokevirtual 142, 3) := by decide +kernel
theorem dX12_ends_106 : decode cX12_ends 106 = .ok (.iinc 2 1, 3) := by decide +kernel
theorem dX12_ends_109 : decode cX12_ends 109 = .ok (.goto (-88), 3) := by decide +kernel
theorem dX12_ends_112 : decode cX12_ends 112 = .ok (.iload_n 1, 1) := by decide +kernel
theorem dX12_ends_113 : decode cX12_ends 113 = .ok (.ifCond .ne 10, 3) := by decide +kernel
theorem dX12_ends_116 : decode cX12_ends 116 = .ok (.aload_n 0, 1) := by decide +kernel
theorem dX12_ends_117 : decode cX12_ends 117 = .ok (.invokevirtual 265, 3) := by decide +kernel
theorem dX12_ends_120 : decode cX12_ends 120 = .ok (.goto 8, 3) := by decide +kernel
theorem dX12_ends_123 : decode cX12_ends 123 = .ok (.aload_n 0, 1) := by decide +kernel
theorem dX12_ends_124 : decode cX12_ends 124 = .ok (.iconst 2, 1) := by decide +kernel
theorem dX12_ends_125 : decode cX12_ends 125 = .ok (.invokevirtual 237, 3) := by decide +kernel
theorem dX12_ends_128 : decode cX12_ends 128 = .ok (.istore_n 2, 1) := by decide +kernel
theorem dX12_ends_129 : decode cX12_ends 129 = .ok (.aload_n 0, 1) := by decide +kernel
theorem dX12_ends_130 : decode cX12_ends 130 = .ok (.aload_n 0, 1) := by decide +kernel
theorem dX12_ends_131 : decode cX12_ends 131 = .ok (.getfield 91, 3) := by decide +kernel
theorem dX12_ends_134 : decode cX12_ends 134 = .ok (.invokevirtual 275, 3) := by decide +kernel
theorem dX12_ends_137 : decode cX12_ends 137 = .ok (.iload_n 2, 1) := by decide +kernel
theorem dX12_ends_138 : decode cX12_ends 138 = .ok (.ireturn, 1) := by decide +kernel
theorem dX12_book_0 : decode cX12_book 0 = .ok (.iload_n 1, 1) := by decide +kernel
theorem dX12_book_1 : decode cX12_book 1 = .ok (.iconst (-1), 1) := by decide +kernel
theorem dX12_book_2 : decode cX12_book 2 = .ok (.if_icmp .ne 10, 3) := by decide +kernel
theorem dX12_book_5 : decode cX12_book 5 = .ok (.aload_n 0, 1) := by decide +kernel
theorem dX12_book_6 : decode cX12_book 6 = .ok (.iconst 0, 1) := by decide +kernel
theorem dX12_book_7 : decode cX12_book 7 = .ok (.putfield 311, 3) := by decide +kernel
theorem dX12_book_10 : decode cX12_book 10 = .ok (.iconst 0, 1) := by decide +kernel
theorem dX12_book_11 : decode cX12_book 11 = .ok (.ireturn, 1) := by decide +kernel
theorem dX12_book_12 : decode cX12_book 12 = .ok (.aload_n 0, 1) := by decide +kernel
theorem dX12_book_13 : decode cX12_book 13 = .ok (.iload_n 1, 1) := by decide +kernel
theorem dX12_book_14 : decode cX12_book 14 = .ok (.invokevirtual 125, 3) := by decide +kernel
theorem dX12_book_17 : decode cX12_book 17 = .ok (.ifCond .ne 5, 3) := by decide +kernel
theorem dX12_book_20 : decode cX12_book 20 = .ok (.iconst (-1), 1) := by decide +kernel
theorem dX12_book_21 : decode cX12_book 21 = .ok (.ireturn, 1) := by decide +kernel
theorem dX12_book_22 : decode cX12_book 22 = .ok (.iload_n 2, 1) := by decide +kernel
theorem dX12_book_23 : decode cX12_book 23 = .ok (.iconst 0, 1) := by decide +kernel
theorem dX12_book_24 : decode cX12_book 24 = .ok (.bipush 99, 2) := by decide +kernel
theorem dX12_book_26 : decode cX12_book 26 = .ok (.invokestatic 117, 3) := by decide +kernel
theorem dX12_book_29 : decode cX12_book 29 = .ok (.ifCond .ne 6, 3) := by decide +kernel
theorem dX12_book_32 : decode cX12_book 32 = .ok (.bipush (-2), 2) := by decide +kernel
theorem dX12_book_34 : decode cX12_book 34 = .ok (.ireturn, 1) := by decide +kernel
theorem dX12_book_35 : decode cX12_book 35 = .ok (.aload_n 0, 1) := by decide +kernel
theorem dX12_book_36 : decode cX12_book 36 = .ok (.getfield 311, 3) := by decide +kernel
theorem dX12_book_39 : decode cX12_book 39 = .ok (.bipush 8, 2) := by decide +kernel
theorem dX12_book_41 : decode cX12_book 41 = .ok (.if_icmp .ne 6, 3) := by decide +kernel
theorem dX12_book_44 : decode cX12_book 44 = .ok (.bipush (-4), 2) := by decide +kernel
theorem dX12_book_46 : decode cX12_book 46 = .ok (.ireturn, 1) := by decide +kernel
theorem dX12_book_47 : decode cX12_book 47 = .ok (.aload_n 0, 1) := by decide +kernel
theorem dX12_book_48 : decode cX12_book 48 = .ok (.getfield 79, 3) := by decide +kernel
theorem dX12_book_51 : decode cX12_book 51 = .ok (.aload_n 0, 1) := by decide +kernel
theorem dX12_book_52 : decode cX12_book 52 = .ok (.getfield 311, 3) := by decide +kernel
theorem dX12_book_55 : decode cX12_book 55 = .ok (.iload_n 1, 1) := by decide +kernel
theorem dX12_book_56 : decode cX12_book 56 = .ok (.iastore, 1) := by decide +kernel
theorem dX12_book_57 : decode cX12_book 57 = .ok (.aload_n 0, 1) := by decide +kernel
theorem dX12_book_58 : decode cX12_book 58 = .ok (.getfield 82, 3) := by decide +kernel
theorem dX12_book_61 : decode cX12_book 61 = .ok (.aload_n 0, 1) := by decide +kernel
theorem dX12_book_62 : decode cX12_book 62 = .ok (.dup, 1) := by decide +kernel
theorem dX12_book_63 : decode cX12_book 63 = .ok (.getfield 311, 3) := by decide +kernel
theorem dX12_book_66 : decode cX12_book 66 = .ok (.dup_x1, 1) := by decide +kernel
theorem dX12_book_67 : decode cX12_book 67 = .ok (.iconst 1, 1) := by decide +kernel
theorem dX12_book_68 : decode cX12_book 68 = .ok (.iadd, 1) := by decide +kernel
theorem dX12_book_69 : decode cX12_book 69 = .ok (.putfield 311, 3) := by decide +kernel
theorem dX12_book_72 : decode cX12_book 72 = .ok (.iload_n 2, 1) := by decide +kernel
theorem dX12_book_73 : decode cX12_book 73 = .ok (.iastore, 1) := by decide +kernel
theorem dX12_book_74 : decode cX12_book 74 = .ok (.aload_n 0, 1) := by decide +kernel
theorem dX12_book_75 : decode cX12_book 75 = .ok (.getfield 311, 3) := by decide +kernel
theorem dX12_book_78 : decode cX12_book 78 = .ok (.ireturn, 1) := by decide +kernel
theorem dX12_looked_0 : decode cX12_looked 0 = .ok (.iconst 0, 1) := by decide +kernel
theorem dX12_looked_1 : decode cX12_looked 1 = .ok (.istore_n 1, 1) := by decide +kernel
theorem dX12_looked_2 : decode cX12_looked 2 = .ok (.iload_n 1, 1) := by decide +kernel
theorem dX12_looked_3 : decode cX12_looked 3 = .ok (.aload_n 0, 1) := by decide +kernel
theorem dX12_looked_4 : decode cX12_looked 4 = .ok (.getfield 311, 3) := by decide +kernel
theorem dX12_looked_7 : decode cX12_looked 7 = .ok (.if_icmp .ge 31, 3) := by decide +kernel
theorem dX12_looked_10 : decode cX12_looked 10 = .ok (.aload_n 0, 1) := by decide +kernel
theorem dX12_looked_11 : decode cX12_looked 11 = .ok (.getfield 30, 3) := by decide +kernel
theorem dX12_looked_14 : decode cX12_looked 14 = .ok (.aload_n 0, 1) := by decide +kernel
theorem dX12_looked_15 : decode cX12_looked 15 = .ok (.getfield 79, 3) := by decide +kernel
theorem dX12_looked_18 : decode cX12_looked 18 = .ok (.iload_n 1, 1) := by decide +kernel
theorem dX12_looked_19 : decode cX12_looked 19 = .ok (.iaload, 1) := by decide +kernel
theorem dX12_looked_20 : decode cX12_looked 20 = .ok (.iaload, 1) := by decide +kernel
theorem dX12_looked_21 : decode cX12_looked 21 = .ok (.aload_n 0, 1) := by decide +kernel
theorem dX12_looked_22 : decode cX12_looked 22 = .ok (.getfield 82, 3) := by decide +kernel
theorem dX12_looked_25 : decode cX12_looked 25 = .ok (.iload_n 1, 1) := by decide +kernel
theorem dX12_looked_26 : decode cX12_looked 26 = .ok (.iaload, 1) := by decide +kernel
theorem dX12_looked_27 : decode cX12_looked 27 = .ok (.if_icmp .eq 5, 3) := by decide +kernel
theorem dX12_looked_30 : decode cX12_looked 30 = .ok (.iload_n 1, 1) := by decide +kernel
theorem dX12_looked_31 : decode cX12_looked 31 = .ok (.ireturn, 1) := by decide +kernel
theorem dX12_looked_32 : decode cX12_looked 32 = .ok (.iinc 1 1, 3) := by decide +kernel
theorem dX12_looked_35 : decode cX12_looked 35 = .ok (.goto (-33), 3) := by decide +kernel
theorem dX12_looked_38 : decode cX12_looked 38 = .ok (.bipush (-5), 2) := by decide +kernel
theorem dX12_looked_40 : decode cX12_looked 40 = .ok (.ireturn, 1) := by decide +kernel
theorem dX12_judge_0 : decode cX12_judge 0 = .ok (.iload_n 1, 1) := by decide +kernel
theorem dX12_judge_1 : decode cX12_judge 1 = .ok (.iconst 0, 1) := by decide +kernel
theorem dX12_judge_2 : decode cX12_judge 2 = .ok (.iconst 5, 1) := by decide +kernel
theorem dX12_judge_3 : decode cX12_judge 3 = .ok (.invokestatic 117, 3) := by decide +kernel
theorem dX12_judge_6 : decode cX12_judge 6 = .ok (.ifCond .ne 5, 3) := by decide +kernel
theorem dX12_judge_9 : decode cX12_judge 9 = .ok (.iconst (-1), 1) := by decide +kernel
theorem dX12_judge_10 : decode cX12_judge 10 = .ok (.ireturn, 1) := by decide +kernel
theorem dX12_judge_11 : decode cX12_judge 11 = .ok (.aload_n 0, 1) := by decide +kernel
theorem dX12_judge_12 : decode cX12_judge 12 = .ok (.getfield 100, 3) := by decide +kernel
theorem dX12_judge_15 : decode cX12_judge 15 = .ok (.iload_n 1, 1) := by decide +kernel
theorem dX12_judge_16 : decode cX12_judge 16 = .ok (.iaload, 1) := by decide +kernel
theorem dX12_judge_17 : decode cX12_judge 17 = .ok (.iconst (-1), 1) := by decide +kernel
theorem dX12_judge_18 : decode cX12_judge 18 = .ok (.if_icmp .eq 16, 3) := by decide +kernel
theorem dX12_judge_21 : decode cX12_judge 21 = .ok (.aload_n 0, 1) := by decide +kernel
theorem dX12_judge_22 : decode cX12_judge 22 = .ok (.getfield 100, 3) := by decide +kernel
theorem dX12_judge_25 : decode cX12_judge 25 = .ok (.iload_n 1, 1) := by decide +kernel
theorem dX12_judge_26 : decode cX12_judge 26 = .ok (.iaload, 1) := by decide +kernel
theorem dX12_judge_27 : decode cX12_judge 27 = .ok (.iconst 1, 1) := by decide +kernel
theorem dX12_judge_28 : decode cX12_judge 28 = .ok (.if_icmp .eq 6, 3) := by decide +kernel
theorem dX12_judge_31 : decode cX12_judge 31 = .ok (.bipush (-12), 2) := by decide +kernel
theorem dX12_judge_33 : decode cX12_judge 33 = .ok (.ireturn, 1) := by decide +kernel
theorem dX12_judge_34 : decode cX12_judge 34 = .ok (.iconst 0, 1) := by decide +kernel
theorem dX12_judge_35 : decode cX12_judge 35 = .ok (.istore_n 3, 1) := by decide +kernel
theorem dX12_judge_36 : decode cX12_judge 36 = .ok (.iload_n 3, 1) := by decide +kernel
theorem dX12_judge_37 : decode cX12_judge 37 = .ok (.iconst 4, 1) := by decide +kernel
theorem dX12_judge_38 : decode cX12_judge 38 = .ok (.if_icmp .ge 70, 3) := by decide +kernel
theorem dX12_judge_41 : decode cX12_judge 41 = .ok (.aload_n 0, 1) := by decide +kernel
theorem dX12_judge_42 : decode cX12_judge 42 = .ok (.getfield 100, 3) := by decide +kernel
theorem dX12_judge_45 : decode cX12_judge 45 = .ok (.iload_n 1, 1) := by decide +kernel
theorem dX12_judge_46 : decode cX12_judge 46 = .ok (.iaload, 1) := by decide +kernel
theorem dX12_judge_47 : decode cX12_judge 47 = .ok (.iconst (-1), 1) := by decide +kernel
theorem dX12_judge_48 : decode cX12_judge 48 = .ok (.if_icmp .eq 23, 3) := by decide +kernel
theorem dX12_judge_51 : decode cX12_judge 51 = .ok (.iload_n 2, 1) := by decide +kernel
theorem dX12_judge_52 : decode cX12_judge 52 = .ok (.ifCond .lt 19, 3) := by decide +kernel
theorem dX12_judge_55 : decode cX12_judge 55 = .ok (.iload_n 2, 1) := by decide +kernel
theorem dX12_judge_56 : decode cX12_judge 56 = .ok (.i2l, 1) := by decide +kernel
theorem dX12_judge_57 : decode cX12_judge 57 = .ok (.iload_n 3, 1) := by decide +kernel
theorem dX12_judge_58 : decode cX12_judge 58 = .ok (.i2l, 1) := by decide +kernel
theorem dX12_judge_59 : decode cX12_judge 59 = .ok (.ladd, 1) := by decide +kernel
theorem dX12_judge_60 : decode cX12_judge 60 = .ok (.aload_n 0, 1) := by decide +kernel
theorem dX12_judge_61 : decode cX12_judge 61 = .ok (.getfield 103, 3) := by decide +kernel
theorem dX12_judge_64 : decode cX12_judge 64 = .ok (.iload_n 1, 1) := by decide +kernel
theorem dX12_judge_65 : decode cX12_judge 65 = .ok (.iaload, 1) := by decide +kernel
theorem dX12_judge_66 : decode cX12_judge 66 = .ok (.i2l, 1) := by decide +kernel
theorem dX12_judge_67 : decode cX12_judge 67 = .ok (.lcmp, 1) := by decide +kernel
theorem dX12_judge_68 : decode cX12_judge 68 = .ok (.ifCond .lt 8, 3) := by decide +kernel
theorem dX12_judge_71 : decode cX12_judge 71 = .ok (.bipush 100, 2) := by decide +kernel
theorem dX12_judge_73 : decode cX12_judge 73 = .ok (.iload_n 3, 1) := by decide +kernel
theorem dX12_judge_74 : decode cX12_judge 74 = .ok (.iadd, 1) := by decide +kernel
theorem dX12_judge_75 : decode cX12_judge 75 = .ok (.ireturn, 1) := by decide +kernel
theorem dX12_judge_76 : decode cX12_judge 76 = .ok (.aload_n 0, 1) := by decide +kernel
theorem dX12_judge_77 : decode cX12_judge 77 = .ok (.getfield 106, 3) := by decide +kernel
theorem dX12_judge_80 : decode cX12_judge 80 = .ok (.bipush 60, 2) := by decide +kernel
theorem dX12_judge_82 : decode cX12_judge 82 = .ok (.iload_n 1, 1) := by decide +kernel
theorem dX12_judge_83 : decode cX12_judge 83 = .ok (.imul, 1) := by decide +kernel
theorem dX12_judge_84 : decode cX12_judge 84 = .ok (.iload_n 2, 1) := by decide +kernel
theorem dX12_judge_85 : decode cX12_judge 85 = .ok (.iadd, 1) := by decide +kernel
theorem dX12_judge_86 : decode cX12_judge 86 = .ok (.iload_n 3, 1) := by decide +kernel
theorem dX12_judge_87 : decode cX12_judge 87 = .ok (.iadd, 1) := by decide +kernel
theorem dX12_judge_88 : decode cX12_judge 88 = .ok (.laload, 1) := by decide +kernel
theorem dX12_judge_89 : decode cX12_judge 89 = .ok (.aload_n 0, 1) := by decide +kernel
theorem dX12_judge_90 : decode cX12_judge 90 = .ok (.getfield 9, 3) := by decide +kernel
theorem dX12_judge_93 : decode cX12_judge 93 = .ok (.iload_n 3, 1) := by decide +kernel
theorem dX12_judge_94 : decode cX12_judge 94 = .ok (.iaload, 1) := by decide +kernel
theorem dX12_judge_95 : decode cX12_judge 95 = .ok (.i2l, 1) := by decide +kernel
theorem dX12_judge_96 : decode cX12_judge 96 = .ok (.lcmp, 1) := by decide +kernel
theorem dX12_judge_97 : decode cX12_judge 97 = .ok (.ifCond .eq 5, 3) := by decide +kernel
theorem dX12_judge_100 : decode cX12_judge 100 = .ok (.iload_n 3, 1) := by decide +kernel
theorem dX12_judge_101 : decode cX12_judge 101 = .ok (.ireturn, 1) := by decide +kernel
theorem dX12_judge_102 : decode cX12_judge 102 = .ok (.iinc 3 1, 3) := by decide +kernel
theorem dX12_judge_105 : decode cX12_judge 105 = .ok (.goto (-69), 3) := by decide +kernel
theorem dX12_judge_108 : decode cX12_judge 108 = .ok (.bipush (-5), 2) := by decide +kernel
theorem dX12_judge_110 : decode cX12_judge 110 = .ok (.ireturn, 1) := by decide +kernel
theorem dX12_keep_0 : decode cX12_keep 0 = .ok (.iconst 0, 1) := by decide +kernel
theorem dX12_keep_1 : decode cX12_keep 1 = .ok (.istore_n 2, 1) := by decide +kernel
theorem dX12_keep_2 : decode cX12_keep 2 = .ok (.iload_n 2, 1) := by decide +kernel
theorem dX12_keep_3 : decode cX12_keep 3 = .ok (.iconst 4, 1) := by decide +kernel
theorem dX12_keep_4 : decode cX12_keep 4 = .ok (.if_icmp .ge 29, 3) := by decide +kernel
theorem dX12_keep_7 : decode cX12_keep 7 = .ok (.aload_n 1, 1) := by decide +kernel
theorem dX12_keep_8 : decode cX12_keep 8 = .ok (.iload_n 2, 1) := by decide +kernel
theorem dX12_keep_9 : decode cX12_keep 9 = .ok (.aload_n 0, 1) := by decide +kernel
theorem dX12_keep_10 : decode cX12_keep 10 = .ok (.getfield 9, 3) := by decide +kernel
theorem dX12_keep_13 : decode cX12_keep 13 = .ok (.iload_n 2, 1) := by decide +kernel
theorem dX12_keep_14 : decode cX12_keep 14 = .ok (.iaload, 1) := by decide +kernel
theorem dX12_keep_15 : decode cX12_keep 15 = .ok (.iastore, 1) := by decide +kernel
theorem dX12_keep_16 : decode cX12_keep 16 = .ok (.aload_n 1, 1) := by decide +kernel
theorem dX12_keep_17 : decode cX12_keep 17 = .ok (.iconst 4, 1) := by decide +kernel
theorem dX12_keep_18 : decode cX12_keep 18 = .ok (.iload_n 2, 1) := by decide +kernel
theorem dX12_keep_19 : decode cX12_keep 19 = .ok (.iadd, 1) := by decide +kernel
theorem dX12_keep_20 : decode cX12_keep 20 = .ok (.aload_n 0, 1) := by decide +kernel
theorem dX12_keep_21 : decode cX12_keep 21 = .ok (.getfield 15, 3) := by decide +kernel
theorem dX12_keep_24 : decode cX12_keep 24 = .ok (.iload_n 2, 1) := by decide +kernel
theorem dX12_keep_25 : decode cX12_keep 25 = .ok (.iaload, 1) := by decide +kernel
theorem dX12_keep_26 : decode cX12_keep 26 = .ok (.iastore, 1) := by decide +kernel
theorem dX12_keep_27 : decode cX12_keep 27 = .ok (.iinc 2 1, 3) := by decide +kernel
theorem dX12_keep_30 : decode cX12_keep 30 = .ok (.goto (-28), 3) := by decide +kernel
theorem dX12_keep_33 : decode cX12_keep 33 = .ok (.iconst 0, 1) := by decide +kernel
theorem dX12_keep_34 : decode cX12_keep 34 = .ok (.istore_n 2, 1) := by decide +kernel
theorem dX12_keep_35 : decode cX12_keep 35 = .ok (.iload_n 2, 1) := by decide +kernel
theorem dX12_keep_36 : decode cX12_keep 36 = .ok (.bipush 6, 2) := by decide +kernel
theorem dX12_keep_38 : decode cX12_keep 38 = .ok (.if_icmp .ge 81, 3) := by decide +kernel
theorem dX12_keep_41 : decode cX12_keep 41 = .ok (.aload_n 1, 1) := by decide +kernel
theorem dX12_keep_42 : decode cX12_keep 42 = .ok (.bipush 8, 2) := by decide +kernel
theorem dX12_keep_44 : decode cX12_keep 44 = .ok (.iload_n 2, 1) := by decide +kernel
theorem dX12_keep_45 : decode cX12_keep 45 = .ok (.iadd, 1) := by decide +kernel
theorem dX12_keep_46 : decode cX12_keep 46 = .ok (.aload_n 0, 1) := by decide +kernel
theorem dX12_keep_47 : decode cX12_keep 47 = .ok (.getfield 18, 3) := by decide +kernel
theorem dX12_keep_50 : decode cX12_keep 50 = .ok (.iload_n 2, 1) := by decide +kernel
theorem dX12_keep_51 : decode cX12_keep 51 = .ok (.iaload, 1) := by decide +kernel
theorem dX12_keep_52 : decode cX12_keep 52 = .ok (.iastore, 1) := by decide +kernel
theorem dX12_keep_53 : decode cX12_keep 53 = .ok (.aload_n 1, 1) := by decide +kernel
theorem dX12_keep_54 : decode cX12_keep 54 = .ok (.bipush 14, 2) := by decide +kernel
theorem dX12_keep_56 : decode cX12_keep 56 = .ok (.iload_n 2, 1) := by decide +kernel
theorem dX12_keep_57 : decode cX12_keep 57 = .ok (.iadd, 1) := by decide +kernel
theorem dX12_keep_58 : decode cX12_keep 58 = .ok (.aload_n 0, 1) := by decide +kernel
theorem dX12_keep_59 : decode cX12_keep 59 = .ok (.getfield 21, 3) := by decide +kernel
theorem dX12_keep_62 : decode cX12_keep 62 = .ok (.iload_n 2, 1) := by decide +kernel
theorem dX12_keep_63 : decode cX12_keep 63 = .ok (.iaload, 1) := by decide +kernel
theorem dX12_keep_64 : decode cX12_keep 64 = .ok (.iastore, 1) := by decide +kernel
theorem dX12_keep_65 : decode cX12_keep 65 = .ok (.aload_n 1, 1) := by decide +kernel
theorem dX12_keep_66 : decode cX12_keep 66 = .ok (.bipush 20, 2) := by decide +kernel
theorem dX12_keep_68 : decode cX12_keep 68 = .ok (.iload_n 2, 1) := by decide +kernel
theorem dX12_keep_69 : decode cX12_keep 69 = .ok (.iadd, 1) := by decide +kernel
theorem dX12_keep_70 : decode cX12_keep 70 = .ok (.aload_n 0, 1) := by decide +kernel
theorem dX12_keep_71 : decode cX12_keep 71 = .ok (.getfield 24, 3) := by decide +kernel
theorem dX12_keep_74 : decode cX12_keep 74 = .ok (.iload_n 2, 1) := by decide +kernel
theorem dX12_keep_75 : decode cX12_keep 75 = .ok (.iaload, 1) := by decide +kernel
theorem dX12_keep_76 : decode cX12_keep 76 = .ok (.iastore, 1) := by decide +kernel
theorem dX12_keep_77 : decode cX12_keep 77 = .ok (.aload_n 1, 1) := by decide +kernel
theorem dX12_keep_78 : decode cX12_keep 78 = .ok (.bipush 26, 2) := by decide +kernel
theorem dX12_keep_80 : decode cX12_keep 80 = .ok (.iload_n 2, 1) := by decide +kernel
theorem dX12_keep_81 : decode cX12_keep 81 = .ok (.iadd, 1) := by decide +kernel
theorem dX12_keep_82 : decode cX12_keep 82 = .ok (.aload_n 0, 1) := by decide +kernel
theorem dX12_keep_83 : decode cX12_keep 83 = .ok (.getfield 27, 3) := by decide +kernel
theorem dX12_keep_86 : decode cX12_keep 86 = .ok (.iload_n 2, 1) := by decide +kernel
theorem dX12_keep_87 : decode cX12_keep 87 = .ok (.iaload, 1) := by decide +kernel
theorem dX12_keep_88 : decode cX12_keep 88 = .ok (.iastore, 1) := by decide +kernel
theorem dX12_keep_89 : decode cX12_keep 89 = .ok (.aload_n 1, 1) := by decide +kernel
theorem dX12_keep_90 : decode cX12_keep 90 = .ok (.bipush 32, 2) := by decide +kernel
theorem dX12_keep_92 : decode cX12_keep 92 = .ok (.iload_n 2, 1) := by decide +kernel
theorem dX12_keep_93 : decode cX12_keep 93 = .ok (.iadd, 1) := by decide +kernel
theorem dX12_keep_94 : decode cX12_keep 94 = .ok (.aload_n 0, 1) := by decide +kernel
theorem dX12_keep_95 : decode cX12_keep 95 = .ok (.getfield 30, 3) := by decide +kernel
theorem dX12_keep_98 : decode cX12_keep 98 = .ok (.iload_n 2, 1) := by decide +kernel
theorem dX12_keep_99 : decode cX12_keep 99 = .ok (.iaload, 1) := by decide +kernel
theorem dX12_keep_100 : decode cX12_keep 100 = .ok (.iastore, 1) := by decide +kernel
theorem dX12_keep_101 : decode cX12_keep 101 = .ok (.aload_n 1, 1) := by decide +kernel
theorem dX12_keep_102 : decode cX12_keep 102 = .ok (.bipush 38, 2) := by decide +kernel
theorem dX12_keep_104 : decode cX12_keep 104 = .ok (.iload_n 2, 1) := by decide +kernel
theorem dX12_keep_105 : decode cX12_keep 105 = .ok (.iadd, 1) := by decide +kernel
theorem dX12_keep_106 : decode cX12_keep 106 = .ok (.aload_n 0, 1) := by decide +kernel
theorem dX12_keep_107 : decode cX12_keep 107 = .ok (.getfield 33, 3) := by decide +kernel
theorem dX12_keep_110 : decode cX12_keep 110 = .ok (.iload_n 2, 1) := by decide +kernel
theorem dX12_keep_111 : decode cX12_keep 111 = .ok (.iaload, 1) := by decide +kernel
theorem dX12_keep_112 : decode cX12_keep 112 = .ok (.iastore, 1) := by decide +kernel
theorem dX12_keep_113 : decode cX12_keep 113 = .ok (.iinc 2 1, 3) := by decide +kernel
theorem dX12_keep_116 : decode cX12_keep 116 = .ok (.goto (-81), 3) := by decide +kernel
theorem dX12_keep_119 : decode cX12_keep 119 = .ok (.iconst 0, 1) := by decide +kernel
theorem dX12_keep_120 : decode cX12_keep 120 = .ok (.istore_n 2, 1) := by decide +kernel
theorem dX12_keep_121 : decode cX12_keep 121 = .ok (.iload_n 2, 1) := by decide +kernel
theorem dX12_keep_122 : decode cX12_keep 122 = .ok (.bipush 24, 2) := by decide +kernel
theorem dX12_keep_124 : decode cX12_keep 124 = .ok (.if_icmp .ge 21, 3) := by decide +kernel
theorem dX12_keep_127 : decode cX12_keep 127 = .ok (.aload_n 1, 1) := by decide +kernel
theorem dX12_keep_128 : decode cX12_keep 128 = .ok (.bipush 44, 2) := by decide +kernel
theorem dX12_keep_130 : decode cX12_keep 130 = .ok (.iload_n 2, 1) := by decide +kernel
theorem dX12_keep_131 : decode cX12_keep 131 = .ok (.iadd, 1) := by decide +kernel
theorem dX12_keep_132 : decode cX12_keep 132 = .ok (.aload_n 0, 1) := by decide +kernel
theorem dX12_keep_133 : decode cX12_keep 133 = .ok (.getfield 36, 3) := by decide +kernel
theorem dX12_keep_136 : decode cX12_keep 136 = .ok (.iload_n 2, 1) := by decide +kernel
theorem dX12_keep_137 : decode cX12_keep 137 = .ok (.iaload, 1) := by decide +kernel
theorem dX12_keep_138 : decode cX12_keep 138 = .ok (.iastore, 1) := by decide +kernel
theorem dX12_keep_139 : decode cX12_keep 139 = .ok (.iinc 2 1, 3) := by decide +kernel
theorem dX12_keep_142 : decode cX12_keep 142 = .ok (.goto (-21), 3) := by decide +kernel
theorem dX12_keep_145 : decode cX12_keep 145 = .ok (.iconst 0, 1) := by decide +kernel
theorem dX12_keep_146 : decode cX12_keep 146 = .ok (.istore_n 2, 1) := by decide +kernel
theorem dX12_keep_147 : decode cX12_keep 147 = .ok (.iload_n 2, 1) := by decide +kernel
theorem dX12_keep_148 : decode cX12_keep 148 = .ok (.iconst 5, 1) := by decide +kernel
theorem dX12_keep_149 : decode cX12_keep 149 = .ok (.if_icmp .ge 45, 3) := by decide +kernel
theorem dX12_keep_152 : decode cX12_keep 152 = .ok (.aload_n 1, 1) := by decide +kernel
theorem dX12_keep_153 : decode cX12_keep 153 = .ok (.bipush 68, 2) := by decide +kernel
theorem dX12_keep_155 : decode cX12_keep 155 = .ok (.iload_n 2, 1) := by decide +kernel
theorem dX12_keep_156 : decode cX12_keep 156 = .ok (.iadd, 1) := by decide +kernel
theorem dX12_keep_157 : decode cX12_keep 157 = .ok (.aload_n 0, 1) := by decide +kernel
theorem dX12_keep_158 : decode cX12_keep 158 = .ok (.getfield 64, 3) := by decide +kernel
theorem dX12_keep_161 : decode cX12_keep 161 = .ok (.iload_n 2, 1) := by decide +kernel
theorem dX12_keep_162 : decode cX12_keep 162 = .ok (.iaload, 1) := by decide +kernel
theorem dX12_keep_163 : decode cX12_keep 163 = .ok (.iastore, 1) := by decide +kernel
theorem dX12_keep_164 : decode cX12_keep 164 = .ok (.aload_n 1, 1) := by decide +kernel
theorem dX12_keep_165 : decode cX12_keep 165 = .ok (.bipush 73, 2) := by decide +kernel
theorem dX12_keep_167 : decode cX12_keep 167 = .ok (.iload_n 2, 1) := by decide +kernel
theorem dX12_keep_168 : decode cX12_keep 168 = .ok (.iadd, 1) := by decide +kernel
theorem dX12_keep_169 : decode cX12_keep 169 = .ok (.aload_n 0, 1) := by decide +kernel
theorem dX12_keep_170 : decode cX12_keep 170 = .ok (.getfield 67, 3) := by decide +kernel
theorem dX12_keep_173 : decode cX12_keep 173 = .ok (.iload_n 2, 1) := by decide +kernel
theorem dX12_keep_174 : decode cX12_keep 174 = .ok (.iaload, 1) := by decide +kernel
theorem dX12_keep_175 : decode cX12_keep 175 = .ok (.iastore, 1) := by decide +kernel
theorem dX12_keep_176 : decode cX12_keep 176 = .ok (.aload_n 1, 1) := by decide +kernel
theorem dX12_keep_177 : decode cX12_keep 177 = .ok (.bipush 78, 2) := by decide +kernel
theorem dX12_keep_179 : decode cX12_keep 179 = .ok (.iload_n 2, 1) := by decide +kernel
theorem dX12_keep_180 : decode cX12_keep 180 = .ok (.iadd, 1) := by decide +kernel
theorem dX12_keep_181 : decode cX12_keep 181 = .ok (.aload_n 0, 1) := by decide +kernel
theorem dX12_keep_182 : decode cX12_keep 182 = .ok (.getfield 70, 3) := by decide +kernel
theorem dX12_keep_185 : decode cX12_keep 185 = .ok (.iload_n 2, 1) := by decide +kernel
theorem dX12_keep_186 : decode cX12_keep 186 = .ok (.iaload, 1) := by decide +kernel
theorem dX12_keep_187 : decode cX12_keep 187 = .ok (.iastore, 1) := by decide +kernel
theorem dX12_keep_188 : decode cX12_keep 188 = .ok (.iinc 2 1, 3) := by decide +kernel
theorem dX12_keep_191 : decode cX12_keep 191 = .ok (.goto (-44), 3) := by decide +kernel
theorem dX12_keep_194 : decode cX12_keep 194 = .ok (.iconst 0, 1) := by decide +kernel
theorem dX12_keep_195 : decode cX12_keep 195 = .ok (.istore_n 2, 1) := by decide +kernel
theorem dX12_keep_196 : decode cX12_keep 196 = .ok (.iload_n 2, 1) := by decide +kernel
theorem dX12_keep_197 : decode cX12_keep 197 = .ok (.bipush 10, 2) := by decide +kernel
theorem dX12_keep_199 : decode cX12_keep 199 = .ok (.if_icmp .ge 33, 3) := by decide +kernel
theorem dX12_keep_202 : decode cX12_keep 202 = .ok (.aload_n 1, 1) := by decide +kernel
theorem dX12_keep_203 : decode cX12_keep 203 = .ok (.bipush 83, 2) := by decide +kernel
theorem dX12_keep_205 : decode cX12_keep 205 = .ok (.iload_n 2, 1) := by decide +kernel
theorem dX12_keep_206 : decode cX12_keep 206 = .ok (.iadd, 1) := by decide +kernel
theorem dX12_keep_207 : decode cX12_keep 207 = .ok (.aload_n 0, 1) := by decide +kernel
theorem dX12_keep_208 : decode cX12_keep 208 = .ok (.getfield 73, 3) := by decide +kernel
theorem dX12_keep_211 : decode cX12_keep 211 = .ok (.iload_n 2, 1) := by decide +kernel
theorem dX12_keep_212 : decode cX12_keep 212 = .ok (.iaload, 1) := by decide +kernel
theorem dX12_keep_213 : decode cX12_keep 213 = .ok (.iastore, 1) := by decide +kernel
theorem dX12_keep_214 : decode cX12_keep 214 = .ok (.aload_n 1, 1) := by decide +kernel
theorem dX12_keep_215 : decode cX12_keep 215 = .ok (.bipush 93, 2) := by decide +kernel
theorem dX12_keep_217 : decode cX12_keep 217 = .ok (.iload_n 2, 1) := by decide +kernel
theorem dX12_keep_218 : decode cX12_keep 218 = .ok (.iadd, 1) := by decide +kernel
theorem dX12_keep_219 : decode cX12_keep 219 = .ok (.aload_n 0, 1) := by decide +kernel
theorem dX12_keep_220 : decode cX12_keep 220 = .ok (.getfield 76, 3) := by decide +kernel
theorem dX12_keep_223 : decode cX12_keep 223 = .ok (.iload_n 2, 1) := by decide +kernel
theorem dX12_keep_224 : decode cX12_keep 224 = .ok (.iaload, 1) := by decide +kernel
theorem dX12_keep_225 : decode cX12_keep 225 = .ok (.iastore, 1) := by decide +kernel
theorem dX12_keep_226 : decode cX12_keep 226 = .ok (.iinc 2 1, 3) := by decide +kernel
theorem dX12_keep_229 : decode cX12_keep 229 = .ok (.goto (-33), 3) := by decide +kernel
theorem dX12_keep_232 : decode cX12_keep 232 = .ok (.iconst 0, 1) := by decide +kernel
theorem dX12_keep_233 : decode cX12_keep 233 = .ok (.istore_n 2, 1) := by decide +kernel
theorem dX12_keep_234 : decode cX12_keep 234 = .ok (.iload_n 2, 1) := by decide +kernel
theorem dX12_keep_235 : decode cX12_keep 235 = .ok (.bipush 8, 2) := by decide +kernel
theorem dX12_keep_237 : decode cX12_keep 237 = .ok (.if_icmp .ge 33, 3) := by decide +kernel
theorem dX12_keep_240 : decode cX12_keep 240 = .ok (.aload_n 1, 1) := by decide +kernel
theorem dX12_keep_241 : decode cX12_keep 241 = .ok (.bipush 103, 2) := by decide +kernel
theorem dX12_keep_243 : decode cX12_keep 243 = .ok (.iload_n 2, 1) := by decide +kernel
theorem dX12_keep_244 : decode cX12_keep 244 = .ok (.iadd, 1) := by decide +kernel
theorem dX12_keep_245 : decode cX12_keep 245 = .ok (.aload_n 0, 1) := by decide +kernel
theorem dX12_keep_246 : decode cX12_keep 246 = .ok (.getfield 79, 3) := by decide +kernel
theorem dX12_keep_249 : decode cX12_keep 249 = .ok (.iload_n 2, 1) := by decide +kernel
theorem dX12_keep_250 : decode cX12_keep 250 = .ok (.iaload, 1) := by decide +kernel
theorem dX12_keep_251 : decode cX12_keep 251 = .ok (.iastore, 1) := by decide +kernel
theorem dX12_keep_252 : decode cX12_keep 252 = .ok (.aload_n 1, 1) := by decide +kernel
theorem dX12_keep_253 : decode cX12_keep 253 = .ok (.bipush 111, 2) := by decide +kernel
theorem dX12_keep_255 : decode cX12_keep 255 = .ok (.iload_n 2, 1) := by decide +kernel
theorem dX12_keep_256 : decode cX12_keep 256 = .ok (.iadd, 1) := by decide +kernel
theorem dX12_keep_257 : decode cX12_keep 257 = .ok (.aload_n 0, 1) := by decide +kernel
theorem dX12_keep_258 : decode cX12_keep 258 = .ok (.getfield 82, 3) := by decide +kernel
theorem dX12_keep_261 : decode cX12_keep 261 = .ok (.iload_n 2, 1) := by decide +kernel
theorem dX12_keep_262 : decode cX12_keep 262 = .ok (.iaload, 1) := by decide +kernel
theorem dX12_keep_263 : decode cX12_keep 263 = .ok (.iastore, 1) := by decide +kernel
theorem dX12_keep_264 : decode cX12_keep 264 = .ok (.iinc 2 1, 3) := by decide +kernel
theorem dX12_keep_267 : decode cX12_keep 267 = .ok (.goto (-33), 3) := by decide +kernel
end
section
theorem dX12_keep_270 : decode cX12_keep 270 = .ok (.aload_n 1, 1) := by decide +kernel
theorem dX12_keep_271 : decode cX12_keep 271 = .ok (.bipush 119, 2) := by decide +kernel
theorem dX12_keep_273 : decode cX12_keep 273 = .ok (.aload_n 0, 1) := by decide +kernel
theorem dX12_keep_274 : decode cX12_keep 274 = .ok (.getfield 114, 3) := by decide +kernel
theorem dX12_keep_277 : decode cX12_keep 277 = .ok (.iastore, 1) := by decide +kernel
theorem dX12_keep_278 : decode cX12_keep 278 = .ok (.aload_n 1, 1) := by decide +kernel
theorem dX12_keep_279 : decode cX12_keep 279 = .ok (.bipush 120, 2) := by decide +kernel
theorem dX12_keep_281 : decode cX12_keep 281 = .ok (.aload_n 0, 1) := by decide +kernel
theorem dX12_keep_282 : decode cX12_keep 282 = .ok (.getfield 224, 3) := by decide +kernel
theorem dX12_keep_285 : decode cX12_keep 285 = .ok (.iastore, 1) := by decide +kernel
theorem dX12_keep_286 : decode cX12_keep 286 = .ok (.aload_n 1, 1) := by decide +kernel
theorem dX12_keep_287 : decode cX12_keep 287 = .ok (.bipush 121, 2) := by decide +kernel
theorem dX12_keep_289 : decode cX12_keep 289 = .ok (.aload_n 0, 1) := by decide +kernel
theorem dX12_keep_290 : decode cX12_keep 290 = .ok (.getfield 291, 3) := by decide +kernel
theorem dX12_keep_293 : decode cX12_keep 293 = .ok (.iastore, 1) := by decide +kernel
theorem dX12_keep_294 : decode cX12_keep 294 = .ok (.aload_n 1, 1) := by decide +kernel
theorem dX12_keep_295 : decode cX12_keep 295 = .ok (.bipush 122, 2) := by decide +kernel
theorem dX12_keep_297 : decode cX12_keep 297 = .ok (.aload_n 0, 1) := by decide +kernel
theorem dX12_keep_298 : decode cX12_keep 298 = .ok (.getfield 308, 3) := by decide +kernel
theorem dX12_keep_301 : decode cX12_keep 301 = .ok (.iastore, 1) := by decide +kernel
theorem dX12_keep_302 : decode cX12_keep 302 = .ok (.aload_n 1, 1) := by decide +kernel
theorem dX12_keep_303 : decode cX12_keep 303 = .ok (.bipush 123, 2) := by decide +kernel
theorem dX12_keep_305 : decode cX12_keep 305 = .ok (.aload_n 0, 1) := by decide +kernel
theorem dX12_keep_306 : decode cX12_keep 306 = .ok (.getfield 311, 3) := by decide +kernel
theorem dX12_keep_309 : decode cX12_keep 309 = .ok (.iastore, 1) := by decide +kernel
theorem dX12_keep_310 : decode cX12_keep 310 = .ok (.aload_n 1, 1) := by decide +kernel
theorem dX12_keep_311 : decode cX12_keep 311 = .ok (.bipush 124, 2) := by decide +kernel
theorem dX12_keep_313 : decode cX12_keep 313 = .ok (.aload_n 0, 1) := by decide +kernel
theorem dX12_keep_314 : decode cX12_keep 314 = .ok (.getfield 110, 3) := by decide +kernel
theorem dX12_keep_317 : decode cX12_keep 317 = .ok (.iastore, 1) := by decide +kernel
theorem dX12_keep_318 : decode cX12_keep 318 = .ok (.return_, 1) := by decide +kernel
theorem dX12_again_0 : decode cX12_again 0 = .ok (.iconst 0, 1) := by decide +kernel
theorem dX12_again_1 : decode cX12_again 1 = .ok (.istore_n 2, 1) := by decide +kernel
theorem dX12_again_2 : decode cX12_again 2 = .ok (.iload_n 2, 1) := by decide +kernel
theorem dX12_again_3 : decode cX12_again 3 = .ok (.iconst 4, 1) := by decide +kernel
theorem dX12_again_4 : decode cX12_again 4 = .ok (.if_icmp .ge 29, 3) := by decide +kernel
theorem dX12_again_7 : decode cX12_again 7 = .ok (.aload_n 0, 1) := by decide +kernel
theorem dX12_again_8 : decode cX12_again 8 = .ok (.getfield 9, 3) := by decide +kernel
theorem dX12_again_11 : decode cX12_again 11 = .ok (.iload_n 2, 1) := by decide +kernel
theorem dX12_again_12 : decode cX12_again 12 = .ok (.aload_n 1, 1) := by decide +kernel
theorem dX12_again_13 : decode cX12_again 13 = .ok (.iload_n 2, 1) := by decide +kernel
theorem dX12_again_14 : decode cX12_again 14 = .ok (.iaload, 1) := by decide +kernel
theorem dX12_again_15 : decode cX12_again 15 = .ok (.iastore, 1) := by decide +kernel
theorem dX12_again_16 : decode cX12_again 16 = .ok (.aload_n 0, 1) := by decide +kernel
theorem dX12_again_17 : decode cX12_again 17 = .ok (.getfield 15, 3) := by decide +kernel
theorem dX12_again_20 : decode cX12_again 20 = .ok (.iload_n 2, 1) := by decide +kernel
theorem dX12_again_21 : decode cX12_again 21 = .ok (.aload_n 1, 1) := by decide +kernel
theorem dX12_again_22 : decode cX12_again 22 = .ok (.iconst 4, 1) := by decide +kernel
theorem dX12_again_23 : decode cX12_again 23 = .ok (.iload_n 2, 1) := by decide +kernel
theorem dX12_again_24 : decode cX12_again 24 = .ok (.iadd, 1) := by decide +kernel
theorem dX12_again_25 : decode cX12_again 25 = .ok (.iaload, 1) := by decide +kernel
theorem dX12_again_26 : decode cX12_again 26 = .ok (.iastore, 1) := by decide +kernel
theorem dX12_again_27 : decode cX12_again 27 = .ok (.iinc 2 1, 3) := by decide +kernel
theorem dX12_again_30 : decode cX12_again 30 = .ok (.goto (-28), 3) := by decide +kernel
theorem dX12_again_33 : decode cX12_again 33 = .ok (.iconst 0, 1) := by decide +kernel
theorem dX12_again_34 : decode cX12_again 34 = .ok (.istore_n 2, 1) := by decide +kernel
theorem dX12_again_35 : decode cX12_again 35 = .ok (.iload_n 2, 1) := by decide +kernel
theorem dX12_again_36 : decode cX12_again 36 = .ok (.bipush 6, 2) := by decide +kernel
theorem dX12_again_38 : decode cX12_again 38 = .ok (.if_icmp .ge 81, 3) := by decide +kernel
theorem dX12_again_41 : decode cX12_again 41 = .ok (.aload_n 0, 1) := by decide +kernel
theorem dX12_again_42 : decode cX12_again 42 = .ok (.getfield 18, 3) := by decide +kernel
theorem dX12_again_45 : decode cX12_again 45 = .ok (.iload_n 2, 1) := by decide +kernel
theorem dX12_again_46 : decode cX12_again 46 = .ok (.aload_n 1, 1) := by decide +kernel
theorem dX12_again_47 : decode cX12_again 47 = .ok (.bipush 8, 2) := by decide +kernel
theorem dX12_again_49 : decode cX12_again 49 = .ok (.iload_n 2, 1) := by decide +kernel
theorem dX12_again_50 : decode cX12_again 50 = .ok (.iadd, 1) := by decide +kernel
theorem dX12_again_51 : decode cX12_again 51 = .ok (.iaload, 1) := by decide +kernel
theorem dX12_again_52 : decode cX12_again 52 = .ok (.iastore, 1) := by decide +kernel
theorem dX12_again_53 : decode cX12_again 53 = .ok (.aload_n 0, 1) := by decide +kernel
theorem dX12_again_54 : decode cX12_again 54 = .ok (.getfield 21, 3) := by decide +kernel
theorem dX12_again_57 : decode cX12_again 57 = .ok (.iload_n 2, 1) := by decide +kernel
theorem dX12_again_58 : decode cX12_again 58 = .ok (.aload_n 1, 1) := by decide +kernel
theorem dX12_again_59 : decode cX12_again 59 = .ok (.bipush 14, 2) := by decide +kernel
theorem dX12_again_61 : decode cX12_again 61 = .ok (.iload_n 2, 1) := by decide +kernel
theorem dX12_again_62 : decode cX12_again 62 = .ok (.iadd, 1) := by decide +kernel
theorem dX12_again_63 : decode cX12_again 63 = .ok (.iaload, 1) := by decide +kernel
theorem dX12_again_64 : decode cX12_again 64 = .ok (.iastore, 1) := by decide +kernel
theorem dX12_again_65 : decode cX12_again 65 = .ok (.aload_n 0, 1) := by decide +kernel
theorem dX12_again_66 : decode cX12_again 66 = .ok (.getfield 24, 3) := by decide +kernel
theorem dX12_again_69 : decode cX12_again 69 = .ok (.iload_n 2, 1) := by decide +kernel
theorem dX12_again_70 : decode cX12_again 70 = .ok (.aload_n 1, 1) := by decide +kernel
theorem dX12_again_71 : decode cX12_again 71 = .ok (.bipush 20, 2) := by decide +kernel
theorem dX12_again_73 : decode cX12_again 73 = .ok (.iload_n 2, 1) := by decide +kernel
theorem dX12_again_74 : decode cX12_again 74 = .ok (.iadd, 1) := by decide +kernel
theorem dX12_again_75 : decode cX12_again 75 = .ok (.iaload, 1) := by decide +kernel
theorem dX12_again_76 : decode cX12_again 76 = .ok (.iastore, 1) := by decide +kernel
theorem dX12_again_77 : decode cX12_again 77 = .ok (.aload_n 0, 1) := by decide +kernel
theorem dX12_again_78 : decode cX12_again 78 = .ok (.getfield 27, 3) := by decide +kernel
theorem dX12_again_81 : decode cX12_again 81 = .ok (.iload_n 2, 1) := by decide +kernel
theorem dX12_again_82 : decode cX12_again 82 = .ok (.aload_n 1, 1) := by decide +kernel
theorem dX12_again_83 : decode cX12_again 83 = .ok (.bipush 26, 2) := by decide +kernel
theorem dX12_again_85 : decode cX12_again 85 = .ok (.iload_n 2, 1) := by decide +kernel
theorem dX12_again_86 : decode cX12_again 86 = .ok (.iadd, 1) := by decide +kernel
theorem dX12_again_87 : decode cX12_again 87 = .ok (.iaload, 1) := by decide +kernel
theorem dX12_again_88 : decode cX12_again 88 = .ok (.iastore, 1) := by decide +kernel
theorem dX12_again_89 : decode cX12_again 89 = .ok (.aload_n 0, 1) := by decide +kernel
theorem dX12_again_90 : decode cX12_again 90 = .ok (.getfield 30, 3) := by decide +kernel
theorem dX12_again_93 : decode cX12_again 93 = .ok (.iload_n 2, 1) := by decide +kernel
theorem dX12_again_94 : decode cX12_again 94 = .ok (.aload_n 1, 1) := by decide +kernel
theorem dX12_again_95 : decode cX12_again 95 = .ok (.bipush 32, 2) := by decide +kernel
theorem dX12_again_97 : decode cX12_again 97 = .ok (.iload_n 2, 1) := by decide +kernel
theorem dX12_again_98 : decode cX12_again 98 = .ok (.iadd, 1) := by decide +kernel
theorem dX12_again_99 : decode cX12_again 99 = .ok (.iaload, 1) := by decide +kernel
theorem dX12_again_100 : decode cX12_again 100 = .ok (.iastore, 1) := by decide +kernel
theorem dX12_again_101 : decode cX12_again 101 = .ok (.aload_n 0, 1) := by decide +kernel
theorem dX12_again_102 : decode cX12_again 102 = .ok (.getfield 33, 3) := by decide +kernel
theorem dX12_again_105 : decode cX12_again 105 = .ok (.iload_n 2, 1) := by decide +kernel
theorem dX12_again_106 : decode cX12_again 106 = .ok (.aload_n 1, 1) := by decide +kernel
theorem dX12_again_107 : decode cX12_again 107 = .ok (.bipush 38, 2) := by decide +kernel
theorem dX12_again_109 : decode cX12_again 109 = .ok (.iload_n 2, 1) := by decide +kernel
theorem dX12_again_110 : decode cX12_again 110 = .ok (.iadd, 1) := by decide +kernel
theorem dX12_again_111 : decode cX12_again 111 = .ok (.iaload, 1) := by decide +kernel
theorem dX12_again_112 : decode cX12_again 112 = .ok (.iastore, 1) := by decide +kernel
theorem dX12_again_113 : decode cX12_again 113 = .ok (.iinc 2 1, 3) := by decide +kernel
theorem dX12_again_116 : decode cX12_again 116 = .ok (.goto (-81), 3) := by decide +kernel
theorem dX12_again_119 : decode cX12_again 119 = .ok (.iconst 0, 1) := by decide +kernel
theorem dX12_again_120 : decode cX12_again 120 = .ok (.istore_n 2, 1) := by decide +kernel
theorem dX12_again_121 : decode cX12_again 121 = .ok (.iload_n 2, 1) := by decide +kernel
theorem dX12_again_122 : decode cX12_again 122 = .ok (.bipush 24, 2) := by decide +kernel
theorem dX12_again_124 : decode cX12_again 124 = .ok (.if_icmp .ge 21, 3) := by decide +kernel
theorem dX12_again_127 : decode cX12_again 127 = .ok (.aload_n 0, 1) := by decide +kernel
theorem dX12_again_128 : decode cX12_again 128 = .ok (.getfield 36, 3) := by decide +kernel
theorem dX12_again_131 : decode cX12_again 131 = .ok (.iload_n 2, 1) := by decide +kernel
theorem dX12_again_132 : decode cX12_again 132 = .ok (.aload_n 1, 1) := by decide +kernel
theorem dX12_again_133 : decode cX12_again 133 = .ok (.bipush 44, 2) := by decide +kernel
theorem dX12_again_135 : decode cX12_again 135 = .ok (.iload_n 2, 1) := by decide +kernel
theorem dX12_again_136 : decode cX12_again 136 = .ok (.iadd, 1) := by decide +kernel
theorem dX12_again_137 : decode cX12_again 137 = .ok (.iaload, 1) := by decide +kernel
theorem dX12_again_138 : decode cX12_again 138 = .ok (.iastore, 1) := by decide +kernel
theorem dX12_again_139 : decode cX12_again 139 = .ok (.iinc 2 1, 3) := by decide +kernel
theorem dX12_again_142 : decode cX12_again 142 = .ok (.goto (-21), 3) := by decide +kernel
theorem dX12_again_145 : decode cX12_again 145 = .ok (.iconst 0, 1) := by decide +kernel
theorem dX12_again_146 : decode cX12_again 146 = .ok (.istore_n 2, 1) := by decide +kernel
theorem dX12_again_147 : decode cX12_again 147 = .ok (.iload_n 2, 1) := by decide +kernel
theorem dX12_again_148 : decode cX12_again 148 = .ok (.iconst 5, 1) := by decide +kernel
theorem dX12_again_149 : decode cX12_again 149 = .ok (.if_icmp .ge 45, 3) := by decide +kernel
theorem dX12_again_152 : decode cX12_again 152 = .ok (.aload_n 0, 1) := by decide +kernel
theorem dX12_again_153 : decode cX12_again 153 = .ok (.getfield 64, 3) := by decide +kernel
theorem dX12_again_156 : decode cX12_again 156 = .ok (.iload_n 2, 1) := by decide +kernel
theorem dX12_again_157 : decode cX12_again 157 = .ok (.aload_n 1, 1) := by decide +kernel
theorem dX12_again_158 : decode cX12_again 158 = .ok (.bipush 68, 2) := by decide +kernel
theorem dX12_again_160 : decode cX12_again 160 = .ok (.iload_n 2, 1) := by decide +kernel
theorem dX12_again_161 : decode cX12_again 161 = .ok (.iadd, 1) := by decide +kernel
theorem dX12_again_162 : decode cX12_again 162 = .ok (.iaload, 1) := by decide +kernel
theorem dX12_again_163 : decode cX12_again 163 = .ok (.iastore, 1) := by decide +kernel
theorem dX12_again_164 : decode cX12_again 164 = .ok (.aload_n 0, 1) := by decide +kernel
theorem dX12_again_165 : decode cX12_again 165 = .ok (.getfield 67, 3) := by decide +kernel
theorem dX12_again_168 : decode cX12_again 168 = .ok (.iload_n 2, 1) := by decide +kernel
theorem dX12_again_169 : decode cX12_again 169 = .ok (.aload_n 1, 1) := by decide +kernel
theorem dX12_again_170 : decode cX12_again 170 = .ok (.bipush 73, 2) := by decide +kernel
theorem dX12_again_172 : decode cX12_again 172 = .ok (.iload_n 2, 1) := by decide +kernel
theorem dX12_again_173 : decode cX12_again 173 = .ok (.iadd, 1) := by decide +kernel
theorem dX12_again_174 : decode cX12_again 174 = .ok (.iaload, 1) := by decide +kernel
theorem dX12_again_175 : decode cX12_again 175 = .ok (.iastore, 1) := by decide +kernel
theorem dX12_again_176 : decode cX12_again 176 = .ok (.aload_n 0, 1) := by decide +kernel
theorem dX12_again_177 : decode cX12_again 177 = .ok (.getfield 70, 3) := by decide +kernel
theorem dX12_again_180 : decode cX12_again 180 = .ok (.iload_n 2, 1) := by decide +kernel
theorem dX12_again_181 : decode cX12_again 181 = .ok (.aload_n 1, 1) := by decide +kernel
theorem dX12_again_182 : decode cX12_again 182 = .ok (.bipush 78, 2) := by decide +kernel
theorem dX12_again_184 : decode cX12_again 184 = .ok (.iload_n 2, 1) := by decide +kernel
theorem dX12_again_185 : decode cX12_again 185 = .ok (.iadd, 1) := by decide +kernel
theorem dX12_again_186 : decode cX12_again 186 = .ok (.iaload, 1) := by decide +kernel
theorem dX12_again_187 : decode cX12_again 187 = .ok (.iastore, 1) := by decide +kernel
theorem dX12_again_188 : decode cX12_again 188 = .ok (.iinc 2 1, 3) := by decide +kernel
theorem dX12_again_191 : decode cX12_again 191 = .ok (.goto (-44), 3) := by decide +kernel
theorem dX12_again_194 : decode cX12_again 194 = .ok (.iconst 0, 1) := by decide +kernel
theorem dX12_again_195 : decode cX12_again 195 = .ok (.istore_n 2, 1) := by decide +kernel
theorem dX12_again_196 : decode cX12_again 196 = .ok (.iload_n 2, 1) := by decide +kernel
theorem dX12_again_197 : decode cX12_again 197 = .ok (.bipush 10, 2) := by decide +kernel
theorem dX12_again_199 : decode cX12_again 199 = .ok (.if_icmp .ge 33, 3) := by decide +kernel
theorem dX12_again_202 : decode cX12_again 202 = .ok (.aload_n 0, 1) := by decide +kernel
theorem dX12_again_203 : decode cX12_again 203 = .ok (.getfield 73, 3) := by decide +kernel
theorem dX12_again_206 : decode cX12_again 206 = .ok (.iload_n 2, 1) := by decide +kernel
theorem dX12_again_207 : decode cX12_again 207 = .ok (.aload_n 1, 1) := by decide +kernel
theorem dX12_again_208 : decode cX12_again 208 = .ok (.bipush 83, 2) := by decide +kernel
theorem dX12_again_210 : decode cX12_again 210 = .ok (.iload_n 2, 1) := by decide +kernel
theorem dX12_again_211 : decode cX12_again 211 = .ok (.iadd, 1) := by decide +kernel
theorem dX12_again_212 : decode cX12_again 212 = .ok (.iaload, 1) := by decide +kernel
theorem dX12_again_213 : decode cX12_again 213 = .ok (.iastore, 1) := by decide +kernel
theorem dX12_again_214 : decode cX12_again 214 = .ok (.aload_n 0, 1) := by decide +kernel
theorem dX12_again_215 : decode cX12_again 215 = .ok (.getfield 76, 3) := by decide +kernel
theorem dX12_again_218 : decode cX12_again 218 = .ok (.iload_n 2, 1) := by decide +kernel
theorem dX12_again_219 : decode cX12_again 219 = .ok (.aload_n 1, 1) := by decide +kernel
theorem dX12_again_220 : decode cX12_again 220 = .ok (.bipush 93, 2) := by decide +kernel
theorem dX12_again_222 : decode cX12_again 222 = .ok (.iload_n 2, 1) := by decide +kernel
theorem dX12_again_223 : decode cX12_again 223 = .ok (.iadd, 1) := by decide +kernel
theorem dX12_again_224 : decode cX12_again 224 = .ok (.iaload, 1) := by decide +kernel
theorem dX12_again_225 : decode cX12_again 225 = .ok (.iastore, 1) := by decide +kernel
theorem dX12_again_226 : decode cX12_again 226 = .ok (.iinc 2 1, 3) := by decide +kernel
theorem dX12_again_229 : decode cX12_again 229 = .ok (.goto (-33), 3) := by decide +kernel
theorem dX12_again_232 : decode cX12_again 232 = .ok (.iconst 0, 1) := by decide +kernel
theorem dX12_again_233 : decode cX12_again 233 = .ok (.istore_n 2, 1) := by decide +kernel
theorem dX12_again_234 : decode cX12_again 234 = .ok (.iload_n 2, 1) := by decide +kernel
theorem dX12_again_235 : decode cX12_again 235 = .ok (.bipush 8, 2) := by decide +kernel
theorem dX12_again_237 : decode cX12_again 237 = .ok (.if_icmp .ge 33, 3) := by decide +kernel
theorem dX12_again_240 : decode cX12_again 240 = .ok (.aload_n 0, 1) := by decide +kernel
theorem dX12_again_241 : decode cX12_again 241 = .ok (.getfield 79, 3) := by decide +kernel
theorem dX12_again_244 : decode cX12_again 244 = .ok (.iload_n 2, 1) := by decide +kernel
theorem dX12_again_245 : decode cX12_again 245 = .ok (.aload_n 1, 1) := by decide +kernel
theorem dX12_again_246 : decode cX12_again 246 = .ok (.bipush 103, 2) := by decide +kernel
theorem dX12_again_248 : decode cX12_again 248 = .ok (.iload_n 2, 1) := by decide +kernel
theorem dX12_again_249 : decode cX12_again 249 = .ok (.iadd, 1) := by decide +kernel
theorem dX12_again_250 : decode cX12_again 250 = .ok (.iaload, 1) := by decide +kernel
theorem dX12_again_251 : decode cX12_again 251 = .ok (.iastore, 1) := by decide +kernel
theorem dX12_again_252 : decode cX12_again 252 = .ok (.aload_n 0, 1) := by decide +kernel
theorem dX12_again_253 : decode cX12_again 253 = .ok (.getfield 82, 3) := by decide +kernel
theorem dX12_again_256 : decode cX12_again 256 = .ok (.iload_n 2, 1) := by decide +kernel
theorem dX12_again_257 : decode cX12_again 257 = .ok (.aload_n 1, 1) := by decide +kernel
theorem dX12_again_258 : decode cX12_again 258 = .ok (.bipush 111, 2) := by decide +kernel
theorem dX12_again_260 : decode cX12_again 260 = .ok (.iload_n 2, 1) := by decide +kernel
theorem dX12_again_261 : decode cX12_again 261 = .ok (.iadd, 1) := by decide +kernel
theorem dX12_again_262 : decode cX12_again 262 = .ok (.iaload, 1) := by decide +kernel
theorem dX12_again_263 : decode cX12_again 263 = .ok (.iastore, 1) := by decide +kernel
theorem dX12_again_264 : decode cX12_again 264 = .ok (.iinc 2 1, 3) := by decide +kernel
theorem dX12_again_267 : decode cX12_again 267 = .ok (.goto (-33), 3) := by decide +kernel
theorem dX12_again_270 : decode cX12_again 270 = .ok (.aload_n 0, 1) := by decide +kernel
theorem dX12_again_271 : decode cX12_again 271 = .ok (.aload_n 1, 1) := by decide +kernel
theorem dX12_again_272 : decode cX12_again 272 = .ok (.bipush 119, 2) := by decide +kernel
theorem dX12_again_274 : decode cX12_again 274 = .ok (.iaload, 1) := by decide +kernel
theorem dX12_again_275 : decode cX12_again 275 = .ok (.putfield 114, 3) := by decide +kernel
theorem dX12_again_278 : decode cX12_again 278 = .ok (.aload_n 0, 1) := by decide +kernel
theorem dX12_again_279 : decode cX12_again 279 = .ok (.aload_n 1, 1) := by decide +kernel
theorem dX12_again_280 : decode cX12_again 280 = .ok (.bipush 120, 2) := by decide +kernel
theorem dX12_again_282 : decode cX12_again 282 = .ok (.iaload, 1) := by decide +kernel
theorem dX12_again_283 : decode cX12_again 283 = .ok (.putfield 224, 3) := by decide +kernel
theorem dX12_again_286 : decode cX12_again 286 = .ok (.aload_n 0, 1) := by decide +kernel
theorem dX12_again_287 : decode cX12_again 287 = .ok (.aload_n 1, 1) := by decide +kernel
theorem dX12_again_288 : decode cX12_again 288 = .ok (.bipush 121, 2) := by decide +kernel
theorem dX12_again_290 : decode cX12_again 290 = .ok (.iaload, 1) := by decide +kernel
theorem dX12_again_291 : decode cX12_again 291 = .ok (.putfield 291, 3) := by decide +kernel
theorem dX12_again_294 : decode cX12_again 294 = .ok (.aload_n 0, 1) := by decide +kernel
theorem dX12_again_295 : decode cX12_again 295 = .ok (.aload_n 1, 1) := by decide +kernel
theorem dX12_again_296 : decode cX12_again 296 = .ok (.bipush 122, 2) := by decide +kernel
theorem dX12_again_298 : decode cX12_again 298 = .ok (.iaload, 1) := by decide +kernel
theorem dX12_again_299 : decode cX12_again 299 = .ok (.putfield 308, 3) := by decide +kernel
theorem dX12_again_302 : decode cX12_again 302 = .ok (.aload_n 0, 1) := by decide +kernel
theorem dX12_again_303 : decode cX12_again 303 = .ok (.aload_n 1, 1) := by decide +kernel
theorem dX12_again_304 : decode cX12_again 304 = .ok (.bipush 123, 2) := by decide +kernel
theorem dX12_again_306 : decode cX12_again 306 = .ok (.iaload, 1) := by decide +kernel
theorem dX12_again_307 : decode cX12_again 307 = .ok (.putfield 311, 3) := by decide +kernel
theorem dX12_again_310 : decode cX12_again 310 = .ok (.aload_n 0, 1) := by decide +kernel
theorem dX12_again_311 : decode cX12_again 311 = .ok (.aload_n 1, 1) := by decide +kernel
theorem dX12_again_312 : decode cX12_again 312 = .ok (.bipush 124, 2) := by decide +kernel
theorem dX12_again_314 : decode cX12_again 314 = .ok (.iaload, 1) := by decide +kernel
theorem dX12_again_315 : decode cX12_again 315 = .ok (.putfield 110, 3) := by decide +kernel
theorem dX12_again_318 : decode cX12_again 318 = .ok (.return_, 1) := by decide +kernel
theorem dX12_image_0 : decode cX12_image 0 = .ok (.aload_n 0, 1) := by decide +kernel
theorem dX12_image_1 : decode cX12_image 1 = .ok (.iconst 1, 1) := by decide +kernel
theorem dX12_image_2 : decode cX12_image 2 = .ok (.putfield 314, 3) := by decide +kernel
theorem dX12_image_5 : decode cX12_image 5 = .ok (.aload_n 0, 1) := by decide +kernel
theorem dX12_image_6 : decode cX12_image 6 = .ok (.aload_n 0, 1) := by decide +kernel
theorem dX12_image_7 : decode cX12_image 7 = .ok (.getfield 88, 3) := by decide +kernel
theorem dX12_image_10 : decode cX12_image 10 = .ok (.invokevirtual 271, 3) := by decide +kernel
theorem dX12_image_13 : decode cX12_image 13 = .ok (.aload_n 0, 1) := by decide +kernel
theorem dX12_image_14 : decode cX12_image 14 = .ok (.getfield 114, 3) := by decide +kernel
theorem dX12_image_17 : decode cX12_image 17 = .ok (.ireturn, 1) := by decide +kernel
theorem dX12_undo_0 : decode cX12_undo 0 = .ok (.aload_n 0, 1) := by decide +kernel
theorem dX12_undo_1 : decode cX12_undo 1 = .ok (.getfield 314, 3) := by decide +kernel
theorem dX12_undo_4 : decode cX12_undo 4 = .ok (.ifCond .ne 6, 3) := by decide +kernel
theorem dX12_undo_7 : decode cX12_undo 7 = .ok (.bipush (-3), 2) := by decide +kernel
theorem dX12_undo_9 : decode cX12_undo 9 = .ok (.ireturn, 1) := by decide +kernel
theorem dX12_undo_10 : decode cX12_undo 10 = .ok (.aload_n 0, 1) := by decide +kernel
theorem dX12_undo_11 : decode cX12_undo 11 = .ok (.aload_n 0, 1) := by decide +kernel
theorem dX12_undo_12 : decode cX12_undo 12 = .ok (.getfield 88, 3) := by decide +kernel
theorem dX12_undo_15 : decode cX12_undo 15 = .ok (.invokevirtual 275, 3) := by decide +kernel
theorem dX12_undo_18 : decode cX12_undo 18 = .ok (.aload_n 0, 1) := by decide +kernel
theorem dX12_undo_19 : decode cX12_undo 19 = .ok (.getfield 114, 3) := by decide +kernel
theorem dX12_undo_22 : decode cX12_undo 22 = .ok (.ireturn, 1) := by decide +kernel
theorem dX12_ran_0 : decode cX12_ran 0 = .ok (.aload_n 0, 1) := by decide +kernel
theorem dX12_ran_1 : decode cX12_ran 1 = .ok (.getfield 318, 3) := by decide +kernel
theorem dX12_ran_4 : decode cX12_ran 4 = .ok (.bipush 20, 2) := by decide +kernel
theorem dX12_ran_6 : decode cX12_ran 6 = .ok (.if_icmp .ge 13, 3) := by decide +kernel
theorem dX12_ran_9 : decode cX12_ran 9 = .ok (.aload_n 0, 1) := by decide +kernel
theorem dX12_ran_10 : decode cX12_ran 10 = .ok (.getfield 85, 3) := by decide +kernel
theorem dX12_ran_13 : decode cX12_ran 13 = .ok (.aload_n 0, 1) := by decide +kernel
theorem dX12_ran_14 : decode cX12_ran 14 = .ok (.getfield 318, 3) := by decide +kernel
theorem dX12_ran_17 : decode cX12_ran 17 = .ok (.iload_n 1, 1) := by decide +kernel
theorem dX12_ran_18 : decode cX12_ran 18 = .ok (.iastore, 1) := by decide +kernel
theorem dX12_ran_19 : decode cX12_ran 19 = .ok (.aload_n 0, 1) := by decide +kernel
theorem dX12_ran_20 : decode cX12_ran 20 = .ok (.dup, 1) := by decide +kernel
theorem dX12_ran_21 : decode cX12_ran 21 = .ok (.getfield 318, 3) := by decide +kernel
theorem dX12_ran_24 : decode cX12_ran 24 = .ok (.iconst 1, 1) := by decide +kernel
theorem dX12_ran_25 : decode cX12_ran 25 = .ok (.iadd, 1) := by decide +kernel
theorem dX12_ran_26 : decode cX12_ran 26 = .ok (.putfield 318, 3) := by decide +kernel
theorem dX12_ran_29 : decode cX12_ran 29 = .ok (.return_, 1) := by decide +kernel
theorem dX12_above_0 : decode cX12_above 0 = .ok (.iload_n 0, 1) := by decide +kernel
theorem dX12_above_1 : decode cX12_above 1 = .ok (.iconst 4, 1) := by decide +kernel
theorem dX12_above_2 : decode cX12_above 2 = .ok (.if_icmp .ne 7, 3) := by decide +kernel
theorem dX12_above_5 : decode cX12_above 5 = .ok (.iconst 1, 1) := by decide +kernel
theorem dX12_above_6 : decode cX12_above 6 = .ok (.goto 23, 3) := by decide +kernel
theorem dX12_above_9 : decode cX12_above 9 = .ok (.iload_n 0, 1) := by decide +kernel
theorem dX12_above_10 : decode cX12_above 10 = .ok (.iconst 5, 1) := by decide +kernel
theorem dX12_above_11 : decode cX12_above 11 = .ok (.if_icmp .ne 7, 3) := by decide +kernel
theorem dX12_above_14 : decode cX12_above 14 = .ok (.iconst 2, 1) := by decide +kernel
theorem dX12_above_15 : decode cX12_above 15 = .ok (.goto 14, 3) := by decide +kernel
theorem dX12_above_18 : decode cX12_above 18 = .ok (.iload_n 0, 1) := by decide +kernel
theorem dX12_above_19 : decode cX12_above 19 = .ok (.bipush 6, 2) := by decide +kernel
theorem dX12_above_21 : decode cX12_above 21 = .ok (.if_icmp .ne 7, 3) := by decide +kernel
theorem dX12_above_24 : decode cX12_above 24 = .ok (.iconst 3, 1) := by decide +kernel
theorem dX12_above_25 : decode cX12_above 25 = .ok (.goto 4, 3) := by decide +kernel
theorem dX12_above_28 : decode cX12_above 28 = .ok (.iconst 0, 1) := by decide +kernel
theorem dX12_above_29 : decode cX12_above 29 = .ok (.ireturn, 1) := by decide +kernel
theorem dX12_hisses_0 : decode cX12_hisses 0 = .ok (.iload_n 2, 1) := by decide +kernel
theorem dX12_hisses_1 : decode cX12_hisses 1 = .ok (.tableswitch 105 0 6 #[95, 105, 43, 105, 59, 105, 74], 43) := by decide +kernel
theorem dX12_hisses_44 : decode cX12_hisses 44 = .ok (.aload_n 0, 1) := by decide +kernel
theorem dX12_hisses_45 : decode cX12_hisses 45 = .ok (.bipush 30, 2) := by decide +kernel
theorem dX12_hisses_47 : decode cX12_hisses 47 = .ok (.invokevirtual 321, 3) := by decide +kernel
theorem dX12_hisses_50 : decode cX12_hisses 50 = .ok (.aload_n 0, 1) := by decide +kernel
theorem dX12_hisses_51 : decode cX12_hisses 51 = .ok (.iload_n 1, 1) := by decide +kernel
theorem dX12_hisses_52 : decode cX12_hisses 52 = .ok (.iconst 0, 1) := by decide +kernel
theorem dX12_hisses_53 : decode cX12_hisses 53 = .ok (.iload_n 3, 1) := by decide +kernel
theorem dX12_hisses_54 : decode cX12_hisses 54 = .ok (.iconst 3, 1) := by decide +kernel
theorem dX12_hisses_55 : decode cX12_hisses 55 = .ok (.imul, 1) := by decide +kernel
theorem dX12_hisses_56 : decode cX12_hisses 56 = .ok (.invokevirtual 324, 3) := by decide +kernel
theorem dX12_hisses_59 : decode cX12_hisses 59 = .ok (.ireturn, 1) := by decide +kernel
theorem dX12_hisses_60 : decode cX12_hisses 60 = .ok (.aload_n 0, 1) := by decide +kernel
theorem dX12_hisses_61 : decode cX12_hisses 61 = .ok (.bipush 50, 2) := by decide +kernel
theorem dX12_hisses_63 : decode cX12_hisses 63 = .ok (.invokevirtual 321, 3) := by decide +kernel
theorem dX12_hisses_66 : decode cX12_hisses 66 = .ok (.aload_n 0, 1) := by decide +kernel
theorem dX12_hisses_67 : decode cX12_hisses 67 = .ok (.iload_n 1, 1) := by decide +kernel
theorem dX12_hisses_68 : decode cX12_hisses 68 = .ok (.iconst 1, 1) := by decide +kernel
theorem dX12_hisses_69 : decode cX12_hisses 69 = .ok (.iload_n 3, 1) := by decide +kernel
theorem dX12_hisses_70 : decode cX12_hisses 70 = .ok (.invokevirtual 324, 3) := by decide +kernel
theorem dX12_hisses_73 : decode cX12_hisses 73 = .ok (.ineg, 1) := by decide +kernel
theorem dX12_hisses_74 : decode cX12_hisses 74 = .ok (.ireturn, 1) := by decide +kernel
theorem dX12_hisses_75 : decode cX12_hisses 75 = .ok (.aload_n 0, 1) := by decide +kernel
theorem dX12_hisses_76 : decode cX12_hisses 76 = .ok (.bipush 71, 2) := by decide +kernel
theorem dX12_hisses_78 : decode cX12_hisses 78 = .ok (.invokevirtual 321, 3) := by decide +kernel
theorem dX12_hisses_81 : decode cX12_hisses 81 = .ok (.aload_n 0, 1) := by decide +kernel
theorem dX12_hisses_82 : decode cX12_hisses 82 = .ok (.iload_n 1, 1) := by decide +kernel
theorem dX12_hisses_83 : decode cX12_hisses 83 = .ok (.iconst 3, 1) := by decide +kernel
theorem dX12_hisses_84 : decode cX12_hisses 84 = .ok (.iload_n 3, 1) := by decide +kernel
theorem dX12_hisses_85 : decode cX12_hisses 85 = .ok (.invokevirtual 324, 3) := by decide +kernel
theorem dX12_hisses_88 : decode cX12_hisses 88 = .ok (.aload_n 0, 1) := by decide +kernel
theorem dX12_hisses_89 : decode cX12_hisses 89 = .ok (.getfield 21, 3) := by decide +kernel
theorem dX12_hisses_92 : decode cX12_hisses 92 = .ok (.iload_n 1, 1) := by decide +kernel
theorem dX12_hisses_93 : decode cX12_hisses 93 = .ok (.iaload, 1) := by decide +kernel
theorem dX12_hisses_94 : decode cX12_hisses 94 = .ok (.ixor, 1) := by decide +kernel
theorem dX12_hisses_95 : decode cX12_hisses 95 = .ok (.ireturn, 1) := by decide +kernel
theorem dX12_hisses_96 : decode cX12_hisses 96 = .ok (.aload_n 0, 1) := by decide +kernel
theorem dX12_hisses_97 : decode cX12_hisses 97 = .ok (.bipush 10, 2) := by decide +kernel
theorem dX12_hisses_99 : decode cX12_hisses 99 = .ok (.invokevirtual 321, 3) := by decide +kernel
theorem dX12_hisses_102 : decode cX12_hisses 102 = .ok (.iload_n 3, 1) := by decide +kernel
theorem dX12_hisses_103 : decode cX12_hisses 103 = .ok (.iload_n 1, 1) := by decide +kernel
theorem dX12_hisses_104 : decode cX12_hisses 104 = .ok (.iadd, 1) := by decide +kernel
theorem dX12_hisses_105 : decode cX12_hisses 105 = .ok (.ireturn, 1) := by decide +kernel
theorem dX12_hisses_106 : decode cX12_hisses 106 = .ok (.aload_n 0, 1) := by decide +kernel
theorem dX12_hisses_107 : decode cX12_hisses 107 = .ok (.iload_n 1, 1) := by decide +kernel
theorem dX12_hisses_108 : decode cX12_hisses 108 = .ok (.iload_n 2, 1) := by decide +kernel
theorem dX12_hisses_109 : decode cX12_hisses 109 = .ok (.invokestatic 328, 3) := by decide +kernel
theorem dX12_hisses_112 : decode cX12_hisses 112 = .ok (.iload_n 3, 1) := by decide +kernel
theorem dX12_hisses_113 : decode cX12_hisses 113 = .ok (.invokevirtual 324, 3) := by decide +kernel
theorem dX12_hisses_116 : decode cX12_hisses 116 = .ok (.ireturn, 1) := by decide +kernel
theorem dX12_climbs_0 : decode cX12_climbs 0 = .ok (.iload_n 2, 1) := by decide +kernel
theorem dX12_climbs_1 : decode cX12_climbs 1 = .ok (.tableswitch 128 0 6 #[102, 43, 128, 128, 60, 128, 76], 43) := by decide +kernel
theorem dX12_climbs_44 : decode cX12_climbs 44 = .ok (.aload_n 0, 1) := by decide +kernel
theorem dX12_climbs_45 : decode cX12_climbs 45 = .ok (.bipush 20, 2) := by decide +kernel
theorem dX12_climbs_47 : decode cX12_climbs 47 = .ok (.invokevirtual 321, 3) := by decide +kernel
theorem dX12_climbs_50 : decode cX12_climbs 50 = .ok (.aload_n 0, 1) := by decide +kernel
theorem dX12_climbs_51 : decode cX12_climbs 51 = .ok (.iload_n 1, 1) := by decide +kernel
theorem dX12_climbs_52 : decode cX12_climbs 52 = .ok (.iconst 0, 1) := by decide +kernel
theorem dX12_climbs_53 : decode cX12_climbs 53 = .ok (.iload_n 3, 1) := by decide +kernel
theorem dX12_climbs_54 : decode cX12_climbs 54 = .ok (.invokevirtual 331, 3) := by decide +kernel
theorem dX12_climbs_57 : decode cX12_climbs 57 = .ok (.bipush 6, 2) := by decide +kernel
theorem dX12_climbs_59 : decode cX12_climbs 59 = .ok (.ixor, 1) := by decide +kernel
theorem dX12_climbs_60 : decode cX12_climbs 60 = .ok (.ireturn, 1) := by decide +kernel
theorem dX12_climbs_61 : decode cX12_climbs 61 = .ok (.aload_n 0, 1) := by decide +kernel
theorem dX12_climbs_62 : decode cX12_climbs 62 = .ok (.bipush 51, 2) := by decide +kernel
theorem dX12_climbs_64 : decode cX12_climbs 64 = .ok (.invokevirtual 321, 3) := by decide +kernel
theorem dX12_climbs_67 : decode cX12_climbs 67 = .ok (.aload_n 0, 1) := by decide +kernel
theorem dX12_climbs_68 : decode cX12_climbs 68 = .ok (.iload_n 1, 1) := by decide +kernel
theorem dX12_climbs_69 : decode cX12_climbs 69 = .ok (.iconst 1, 1) := by decide +kernel
theorem dX12_climbs_70 : decode cX12_climbs 70 = .ok (.iload_n 3, 1) := by decide +kernel
theorem dX12_climbs_71 : decode cX12_climbs 71 = .ok (.iconst 1, 1) := by decide +kernel
theorem dX12_climbs_72 : decode cX12_climbs 72 = .ok (.iadd, 1) := by decide +kernel
theorem dX12_climbs_73 : decode cX12_climbs 73 = .ok (.invokevirtual 331, 3) := by decide +kernel
theorem dX12_climbs_76 : decode cX12_climbs 76 = .ok (.ireturn, 1) := by decide +kernel
theorem dX12_climbs_77 : decode cX12_climbs 77 = .ok (.aload_n 0, 1) := by decide +kernel
theorem dX12_climbs_78 : decode cX12_climbs 78 = .ok (.bipush 70, 2) := by decide +kernel
theorem dX12_climbs_80 : decode cX12_climbs 80 = .ok (.invokevirtual 321, 3) := by decide +kernel
theorem dX12_climbs_83 : decode cX12_climbs 83 = .ok (.aload_n 0, 1) := by decide +kernel
theorem dX12_climbs_84 : decode cX12_climbs 84 = .ok (.iload_n 1, 1) := by decide +kernel
theorem dX12_climbs_85 : decode cX12_climbs 85 = .ok (.iconst 3, 1) := by decide +kernel
theorem dX12_climbs_86 : decode cX12_climbs 86 = .ok (.iload_n 3, 1) := by decide +kernel
theorem dX12_climbs_87 : decode cX12_climbs 87 = .ok (.invokevirtual 331, 3) := by decide +kernel
theorem dX12_climbs_90 : decode cX12_climbs 90 = .ok (.istore 4, 2) := by decide +kernel
theorem dX12_climbs_92 : decode cX12_climbs 92 = .ok (.iload 4, 2) := by decide +kernel
theorem dX12_climbs_94 : decode cX12_climbs 94 = .ok (.aload_n 0, 1) := by decide +kernel
theorem dX12_climbs_95 : decode cX12_climbs 95 = .ok (.iload_n 1, 1) := by decide +kernel
theorem dX12_climbs_96 : decode cX12_climbs 96 = .ok (.iconst 3, 1) := by decide +kernel
theorem dX12_climbs_97 : decode cX12_climbs 97 = .ok (.iconst 2, 1) := by decide +kernel
theorem dX12_climbs_98 : decode cX12_climbs 98 = .ok (.invokevirtual 324, 3) := by decide +kernel
theorem dX12_climbs_101 : decode cX12_climbs 101 = .ok (.iadd, 1) := by decide +kernel
theorem dX12_climbs_102 : decode cX12_climbs 102 = .ok (.ireturn, 1) := by decide +kernel
theorem dX12_climbs_103 : decode cX12_climbs 103 = .ok (.aload_n 0, 1) := by decide +kernel
theorem dX12_climbs_104 : decode cX12_climbs 104 = .ok (.bipush 11, 2) := by decide +kernel
theorem dX12_climbs_106 : decode cX12_climbs 106 = .ok (.invokevirtual 321, 3) := by decide +kernel
theorem dX12_climbs_109 : decode cX12_climbs 109 = .ok (.aload_n 0, 1) := by decide +kernel
theorem dX12_climbs_110 : decode cX12_climbs 110 = .ok (.iload_n 1, 1) := by decide +kernel
theorem dX12_climbs_111 : decode cX12_climbs 111 = .ok (.aload_n 0, 1) := by decide +kernel
theorem dX12_climbs_112 : decode cX12_climbs 112 = .ok (.getfield 18, 3) := by decide +kernel
theorem dX12_climbs_115 : decode cX12_climbs 115 = .ok (.iload_n 1, 1) := by decide +kernel
theorem dX12_climbs_116 : decode cX12_climbs 116 = .ok (.iaload, 1) := by decide +kernel
theorem dX12_climbs_117 : decode cX12_climbs 117 = .ok (.iload_n 3, 1) := by decide +kernel
theorem dX12_climbs_118 : decode cX12_climbs 118 = .ok (.invokevirtual 324, 3) := by decide +kernel
theorem dX12_climbs_121 : decode cX12_climbs 121 = .ok (.aload_n 0, 1) := by decide +kernel
theorem dX12_climbs_122 : decode cX12_climbs 122 = .ok (.getfield 21, 3) := by decide +kernel
theorem dX12_climbs_125 : decode cX12_climbs 125 = .ok (.iload_n 1, 1) := by decide +kernel
theorem dX12_climbs_126 : decode cX12_climbs 126 = .ok (.iaload, 1) := by decide +kernel
theorem dX12_climbs_127 : decode cX12_climbs 127 = .ok (.isub, 1) := by decide +kernel
theorem dX12_climbs_128 : decode cX12_climbs 128 = .ok (.ireturn, 1) := by decide +kernel
theorem dX12_climbs_129 : decode cX12_climbs 129 = .ok (.aload_n 0, 1) := by decide +kernel
theorem dX12_climbs_130 : decode cX12_climbs 130 = .ok (.iload_n 1, 1) := by decide +kernel
theorem dX12_climbs_131 : decode cX12_climbs 131 = .ok (.iload_n 2, 1) := by decide +kernel
theorem dX12_climbs_132 : decode cX12_climbs 132 = .ok (.invokestatic 328, 3) := by decide +kernel
theorem dX12_climbs_135 : decode cX12_climbs 135 = .ok (.iload_n 3, 1) := by decide +kernel
theorem dX12_climbs_136 : decode cX12_climbs 136 = .ok (.invokevirtual 331, 3) := by decide +kernel
theorem dX12_climbs_139 : decode cX12_climbs 139 = .ok (.ireturn, 1) := by decide +kernel
theorem dX12_tells_0 : decode cX12_tells 0 = .ok (.iload_n 2, 1) := by decide +kernel
theorem dX12_tells_1 : decode cX12_tells 1 = .ok (.lookupswitch 103 #[(0, 82), (3, 35), (5, 66)], 35) := by decide +kernel
theorem dX12_tells_36 : decode cX12_tells 36 = .ok (.aload_n 0, 1) := by decide +kernel
theorem dX12_tells_37 : decode cX12_tells 37 = .ok (.bipush 40, 2) := by decide +kernel
theorem dX12_tells_39 : decode cX12_tells 39 = .ok (.invokevirtual 321, 3) := by decide +kernel
theorem dX12_tells_42 : decode cX12_tells 42 = .ok (.aload_n 0, 1) := by decide +kernel
theorem dX12_tells_43 : decode cX12_tells 43 = .ok (.iload_n 1, 1) := by decide +kernel
theorem dX12_tells_44 : decode cX12_tells 44 = .ok (.iconst 0, 1) := by decide +kernel
theorem dX12_tells_45 : decode cX12_tells 45 = .ok (.iload_n 3, 1) := by decide +kernel
theorem dX12_tells_46 : decode cX12_tells 46 = .ok (.invokevirtual 334, 3) := by decide +kernel
theorem dX12_tells_49 : decode cX12_tells 49 = .ok (.istore 4, 2) := by decide +kernel
theorem dX12_tells_51 : decode cX12_tells 51 = .ok (.iload 4, 2) := by decide +kernel
theorem dX12_tells_53 : decode cX12_tells 53 = .ok (.aload_n 0, 1) := by decide +kernel
theorem dX12_tells_54 : decode cX12_tells 54 = .ok (.iload_n 1, 1) := by decide +kernel
theorem dX12_tells_55 : decode cX12_tells 55 = .ok (.aload_n 0, 1) := by decide +kernel
theorem dX12_tells_56 : decode cX12_tells 56 = .ok (.getfield 18, 3) := by decide +kernel
theorem dX12_tells_59 : decode cX12_tells 59 = .ok (.iload_n 1, 1) := by decide +kernel
theorem dX12_tells_60 : decode cX12_tells 60 = .ok (.iaload, 1) := by decide +kernel
theorem dX12_tells_61 : decode cX12_tells 61 = .ok (.iconst 1, 1) := by decide +kernel
theorem dX12_tells_62 : decode cX12_tells 62 = .ok (.invokevirtual 331, 3) := by decide +kernel
theorem dX12_tells_65 : decode cX12_tells 65 = .ok (.iadd, 1) := by decide +kernel
theorem dX12_tells_66 : decode cX12_tells 66 = .ok (.ireturn, 1) := by decide +kernel
theorem dX12_tells_67 : decode cX12_tells 67 = .ok (.aload_n 0, 1) := by decide +kernel
theorem dX12_tells_68 : decode cX12_tells 68 = .ok (.bipush 60, 2) := by decide +kernel
theorem dX12_tells_70 : decode cX12_tells 70 = .ok (.invokevirtual 321, 3) := by decide +kernel
theorem dX12_tells_73 : decode cX12_tells 73 = .ok (.aload_n 0, 1) := by decide +kernel
theorem dX12_tells_74 : decode cX12_tells 74 = .ok (.iload_n 1, 1) := by decide +kernel
theorem dX12_tells_75 : decode cX12_tells 75 = .ok (.iconst 2, 1) := by decide +kernel
theorem dX12_tells_76 : decode cX12_tells 76 = .ok (.iload_n 3, 1) := by decide +kernel
theorem dX12_tells_77 : decode cX12_tells 77 = .ok (.iload_n 1, 1) := by decide +kernel
theorem dX12_tells_78 : decode cX12_tells 78 = .ok (.isub, 1) := by decide +kernel
theorem dX12_tells_79 : decode cX12_tells 79 = .ok (.invokevirtual 334, 3) := by decide +kernel
theorem dX12_tells_82 : decode cX12_tells 82 = .ok (.ireturn, 1) := by decide +kernel
theorem dX12_tells_83 : decode cX12_tells 83 = .ok (.aload_n 0, 1) := by decide +kernel
theorem dX12_tells_84 : decode cX12_tells 84 = .ok (.bipush 12, 2) := by decide +kernel
theorem dX12_tells_86 : decode cX12_tells 86 = .ok (.invokevirtual 321, 3) := by decide +kernel
theorem dX12_tells_89 : decode cX12_tells 89 = .ok (.aload_n 0, 1) := by decide +kernel
theorem dX12_tells_90 : decode cX12_tells 90 = .ok (.iload_n 1, 1) := by decide +kernel
theorem dX12_tells_91 : decode cX12_tells 91 = .ok (.aload_n 0, 1) := by decide +kernel
theorem dX12_tells_92 : decode cX12_tells 92 = .ok (.getfield 18, 3) := by decide +kernel
theorem dX12_tells_95 : decode cX12_tells 95 = .ok (.iload_n 1, 1) := by decide +kernel
theorem dX12_tells_96 : decode cX12_tells 96 = .ok (.iaload, 1) := by decide +kernel
theorem dX12_tells_97 : decode cX12_tells 97 = .ok (.iload_n 3, 1) := by decide +kernel
theorem dX12_tells_98 : decode cX12_tells 98 = .ok (.invokevirtual 331, 3) := by decide +kernel
theorem dX12_tells_101 : decode cX12_tells 101 = .ok (.iconst 2, 1) := by decide +kernel
theorem dX12_tells_102 : decode cX12_tells 102 = .ok (.imul, 1) := by decide +kernel
theorem dX12_tells_103 : decode cX12_tells 103 = .ok (.ireturn, 1) := by decide +kernel
theorem dX12_tells_104 : decode cX12_tells 104 = .ok (.aload_n 0, 1) := by decide +kernel
theorem dX12_tells_105 : decode cX12_tells 105 = .ok (.iload_n 1, 1) := by decide +kernel
theorem dX12_tells_106 : decode cX12_tells 106 = .ok (.iload_n 2, 1) := by decide +kernel
theorem dX12_tells_107 : decode cX12_tells 107 = .ok (.invokestatic 328, 3) := by decide +kernel
theorem dX12_tells_110 : decode cX12_tells 110 = .ok (.iload_n 3, 1) := by decide +kernel
theorem dX12_tells_111 : decode cX12_tells 111 = .ok (.invokevirtual 334, 3) := by decide +kernel
theorem dX12_tells_114 : decode cX12_tells 114 = .ok (.ireturn, 1) := by decide +kernel
theorem dX12_act_0 : decode cX12_act 0 = .ok (.aload_n 0, 1) := by decide +kernel
theorem dX12_act_1 : decode cX12_act 1 = .ok (.iconst 0, 1) := by decide +kernel
theorem dX12_act_2 : decode cX12_act 2 = .ok (.putfield 318, 3) := by decide +kernel
theorem dX12_act_5 : decode cX12_act 5 = .ok (.aload_n 0, 1) := by decide +kernel
theorem dX12_act_6 : decode cX12_act 6 = .ok (.iload_n 1, 1) := by decide +kernel
theorem dX12_act_7 : decode cX12_act 7 = .ok (.invokevirtual 125, 3) := by decide +kernel
theorem dX12_act_10 : decode cX12_act 10 = .ok (.ifCond .eq 12, 3) := by decide +kernel
theorem dX12_act_13 : decode cX12_act 13 = .ok (.iload_n 2, 1) := by decide +kernel
theorem dX12_act_14 : decode cX12_act 14 = .ok (.iconst 0, 1) := by decide +kernel
theorem dX12_act_15 : decode cX12_act 15 = .ok (.iconst 2, 1) := by decide +kernel
theorem dX12_act_16 : decode cX12_act 16 = .ok (.invokestatic 117, 3) := by decide +kernel
theorem dX12_act_19 : decode cX12_act 19 = .ok (.ifCond .ne 5, 3) := by decide +kernel
theorem dX12_act_22 : decode cX12_act 22 = .ok (.iconst 0, 1) := by decide +kernel
theorem dX12_act_23 : decode cX12_act 23 = .ok (.ireturn, 1) := by decide +kernel
theorem dX12_act_24 : decode cX12_act 24 = .ok (.aload_n 0, 1) := by decide +kernel
theorem dX12_act_25 : decode cX12_act 25 = .ok (.getfield 18, 3) := by decide +kernel
theorem dX12_act_28 : decode cX12_act 28 = .ok (.iload_n 1, 1) := by decide +kernel
theorem dX12_act_29 : decode cX12_act 29 = .ok (.iaload, 1) := by decide +kernel
theorem dX12_act_30 : decode cX12_act 30 = .ok (.istore 4, 2) := by decide +kernel
theorem dX12_act_32 : decode cX12_act 32 = .ok (.iload_n 2, 1) := by decide +kernel
theorem dX12_act_33 : decode cX12_act 33 = .ok (.ifCond .ne 14, 3) := by decide +kernel
theorem dX12_act_36 : decode cX12_act 36 = .ok (.aload_n 0, 1) := by decide +kernel
theorem dX12_act_37 : decode cX12_act 37 = .ok (.iload_n 1, 1) := by decide +kernel
theorem dX12_act_38 : decode cX12_act 38 = .ok (.iload 4, 2) := by decide +kernel
theorem dX12_act_40 : decode cX12_act 40 = .ok (.iload_n 3, 1) := by decide +kernel
theorem dX12_act_41 : decode cX12_act 41 = .ok (.invokevirtual 324, 3) := by decide +kernel
theorem dX12_act_44 : decode cX12_act 44 = .ok (.goto 27, 3) := by decide +kernel
theorem dX12_act_47 : decode cX12_act 47 = .ok (.iload_n 2, 1) := by decide +kernel
theorem dX12_act_48 : decode cX12_act 48 = .ok (.iconst 1, 1) := by decide +kernel
theorem dX12_act_49 : decode cX12_act 49 = .ok (.if_icmp .ne 14, 3) := by decide +kernel
theorem dX12_act_52 : decode cX12_act 52 = .ok (.aload_n 0, 1) := by decide +kernel
theorem dX12_act_53 : decode cX12_act 53 = .ok (.iload_n 1, 1) := by decide +kernel
theorem dX12_act_54 : decode cX12_act 54 = .ok (.iload 4, 2) := by decide +kernel
theorem dX12_act_56 : decode cX12_act 56 = .ok (.iload_n 3, 1) := by decide +kernel
theorem dX12_act_57 : decode cX12_act 57 = .ok (.invokevirtual 331, 3) := by decide +kernel
theorem dX12_act_60 : decode cX12_act 60 = .ok (.goto 11, 3) := by decide +kernel
theorem dX12_act_63 : decode cX12_act 63 = .ok (.aload_n 0, 1) := by decide +kernel
theorem dX12_act_64 : decode cX12_act 64 = .ok (.iload_n 1, 1) := by decide +kernel
theorem dX12_act_65 : decode cX12_act 65 = .ok (.iload 4, 2) := by decide +kernel
theorem dX12_act_67 : decode cX12_act 67 = .ok (.iload_n 3, 1) := by decide +kernel
theorem dX12_act_68 : decode cX12_act 68 = .ok (.invokevirtual 334, 3) := by decide +kernel
theorem dX12_act_71 : decode cX12_act 71 = .ok (.ireturn, 1) := by decide +kernel
theorem dX12_trace_0 : decode cX12_trace 0 = .ok (.iload_n 1, 1) := by decide +kernel
theorem dX12_trace_1 : decode cX12_trace 1 = .ok (.iconst 0, 1) := by decide +kernel
theorem dX12_trace_2 : decode cX12_trace 2 = .ok (.bipush 20, 2) := by decide +kernel
theorem dX12_trace_4 : decode cX12_trace 4 = .ok (.aload_n 0, 1) := by decide +kernel
theorem dX12_trace_5 : decode cX12_trace 5 = .ok (.getfield 318, 3) := by decide +kernel
theorem dX12_trace_8 : decode cX12_trace 8 = .ok (.invokestatic 256, 3) := by decide +kernel
theorem dX12_trace_11 : decode cX12_trace 11 = .ok (.iconst 1, 1) := by decide +kernel
theorem dX12_trace_12 : decode cX12_trace 12 = .ok (.isub, 1) := by decide +kernel
theorem dX12_trace_13 : decode cX12_trace 13 = .ok (.invokestatic 117, 3) := by decide +kernel
theorem dX12_trace_16 : decode cX12_trace 16 = .ok (.ifCond .eq 12, 3) := by decide +kernel
theorem dX12_trace_19 : decode cX12_trace 19 = .ok (.aload_n 0, 1) := by decide +kernel
theorem dX12_trace_20 : decode cX12_trace 20 = .ok (.getfield 85, 3) := by decide +kernel
theorem dX12_trace_23 : decode cX12_trace 23 = .ok (.iload_n 1, 1) := by decide +kernel
theorem dX12_trace_24 : decode cX12_trace 24 = .ok (.iaload, 1) := by decide +kernel
theorem dX12_trace_25 : decode cX12_trace 25 = .ok (.goto 4, 3) := by decide +kernel
theorem dX12_trace_28 : decode cX12_trace 28 = .ok (.iconst (-1), 1) := by decide +kernel
theorem dX12_trace_29 : decode cX12_trace 29 = .ok (.ireturn, 1) := by decide +kernel
theorem dX12_taken_0 : decode cX12_taken 0 = .ok (.iload_n 2, 1) := by decide +kernel
theorem dX12_taken_1 : decode cX12_taken 1 = .ok (.iconst 0, 1) := by decide +kernel
theorem dX12_taken_2 : decode cX12_taken 2 = .ok (.bipush 6, 2) := by decide +kernel
theorem dX12_taken_4 : decode cX12_taken 4 = .ok (.invokestatic 117, 3) := by decide +kernel
theorem dX12_taken_7 : decode cX12_taken 7 = .ok (.ifCond .ne 6, 3) := by decide +kernel
theorem dX12_taken_10 : decode cX12_taken 10 = .ok (.bipush (-2), 2) := by decide +kernel
theorem dX12_taken_12 : decode cX12_taken 12 = .ok (.ireturn, 1) := by decide +kernel
theorem dX12_taken_13 : decode cX12_taken 13 = .ok (.aload_n 0, 1) := by decide +kernel
theorem dX12_taken_14 : decode cX12_taken 14 = .ok (.iload_n 1, 1) := by decide +kernel
theorem dX12_taken_15 : decode cX12_taken 15 = .ok (.invokevirtual 125, 3) := by decide +kernel
theorem dX12_taken_18 : decode cX12_taken 18 = .ok (.ifCond .ne 6, 3) := by decide +kernel
theorem dX12_taken_21 : decode cX12_taken 21 = .ok (.bipush (-11), 2) := by decide +kernel
theorem dX12_taken_23 : decode cX12_taken 23 = .ok (.ireturn, 1) := by decide +kernel
theorem dX12_taken_24 : decode cX12_taken 24 = .ok (.aload_n 0, 1) := by decide +kernel
theorem dX12_taken_25 : decode cX12_taken 25 = .ok (.getfield 18, 3) := by decide +kernel
theorem dX12_taken_28 : decode cX12_taken 28 = .ok (.iload_n 1, 1) := by decide +kernel
theorem dX12_taken_29 : decode cX12_taken 29 = .ok (.iaload, 1) := by decide +kernel
theorem dX12_taken_30 : decode cX12_taken 30 = .ok (.istore_n 3, 1) := by decide +kernel
theorem dX12_taken_31 : decode cX12_taken 31 = .ok (.iload_n 3, 1) := by decide +kernel
theorem dX12_taken_32 : decode cX12_taken 32 = .ok (.iload_n 2, 1) := by decide +kernel
theorem dX12_taken_33 : decode cX12_taken 33 = .ok (.if_icmp .eq 15, 3) := by decide +kernel
theorem dX12_taken_36 : decode cX12_taken 36 = .ok (.iload_n 3, 1) := by decide +kernel
theorem dX12_taken_37 : decode cX12_taken 37 = .ok (.ifCond .le 11, 3) := by decide +kernel
theorem dX12_taken_40 : decode cX12_taken 40 = .ok (.iload_n 3, 1) := by decide +kernel
theorem dX12_taken_41 : decode cX12_taken 41 = .ok (.invokestatic 328, 3) := by decide +kernel
theorem dX12_taken_44 : decode cX12_taken 44 = .ok (.istore_n 3, 1) := by decide +kernel
theorem dX12_taken_45 : decode cX12_taken 45 = .ok (.goto (-14), 3) := by decide +kernel
theorem dX12_taken_48 : decode cX12_taken 48 = .ok (.iload_n 3, 1) := by decide +kernel
theorem dX12_taken_49 : decode cX12_taken 49 = .ok (.iload_n 2, 1) := by decide +kernel
theorem dX12_taken_50 : decode cX12_taken 50 = .ok (.if_icmp .ne 12, 3) := by decide +kernel
theorem dX12_taken_53 : decode cX12_taken 53 = .ok (.aload_n 0, 1) := by decide +kernel
theorem dX12_taken_54 : decode cX12_taken 54 = .ok (.getfield 18, 3) := by decide +kernel
theorem dX12_taken_57 : decode cX12_taken 57 = .ok (.iload_n 1, 1) := by decide +kernel
theorem dX12_taken_58 : decode cX12_taken 58 = .ok (.iaload, 1) := by decide +kernel
theorem dX12_taken_59 : decode cX12_taken 59 = .ok (.goto 5, 3) := by decide +kernel
theorem dX12_taken_62 : decode cX12_taken 62 = .ok (.bipush (-12), 2) := by decide +kernel
theorem dX12_taken_64 : decode cX12_taken 64 = .ok (.ireturn, 1) := by decide +kernel
theorem dX12_count_0 : decode cX12_count 0 = .ok (.iload_n 1, 1) := by decide +kernel
theorem dX12_count_1 : decode cX12_count 1 = .ok (.tableswitch 78 0 6 #[43, 48, 53, 58, 63, 68, 73], 43) := by decide +kernel
theorem dX12_count_44 : decode cX12_count 44 = .ok (.aload_n 0, 1) := by decide +kernel
theorem dX12_count_45 : decode cX12_count 45 = .ok (.getfield 114, 3) := by decide +kernel
theorem dX12_count_48 : decode cX12_count 48 = .ok (.ireturn, 1) := by decide +kernel
theorem dX12_count_49 : decode cX12_count 49 = .ok (.aload_n 0, 1) := by decide +kernel
theorem dX12_count_50 : decode cX12_count 50 = .ok (.getfield 218, 3) := by decide +kernel
theorem dX12_count_53 : decode cX12_count 53 = .ok (.ireturn, 1) := by decide +kernel
theorem dX12_count_54 : decode cX12_count 54 = .ok (.aload_n 0, 1) := by decide +kernel
theorem dX12_count_55 : decode cX12_count 55 = .ok (.getfield 291, 3) := by decide +kernel
theorem dX12_count_58 : decode cX12_count 58 = .ok (.ireturn, 1) := by decide +kernel
theorem dX12_count_59 : decode cX12_count 59 = .ok (.aload_n 0, 1) := by decide +kernel
theorem dX12_count_60 : decode cX12_count 60 = .ok (.getfield 308, 3) := by decide +kernel
theorem dX12_count_63 : decode cX12_count 63 = .ok (.ireturn, 1) := by decide +kernel
theorem dX12_count_64 : decode cX12_count 64 = .ok (.aload_n 0, 1) := by decide +kernel
theorem dX12_count_65 : decode cX12_count 65 = .ok (.getfield 311, 3) := by decide +kernel
theorem dX12_count_68 : decode cX12_count 68 = .ok (.ireturn, 1) := by decide +kernel
theorem dX12_count_69 : decode cX12_count 69 = .ok (.aload_n 0, 1) := by decide +kernel
theorem dX12_count_70 : decode cX12_count 70 = .ok (.getfield 146, 3) := by decide +kernel
theorem dX12_count_73 : decode cX12_count 73 = .ok (.ireturn, 1) := by decide +kernel
theorem dX12_count_74 : decode cX12_count 74 = .ok (.aload_n 0, 1) := by decide +kernel
theorem dX12_count_75 : decode cX12_count 75 = .ok (.getfield 318, 3) := by decide +kernel
theorem dX12_count_78 : decode cX12_count 78 = .ok (.ireturn, 1) := by decide +kernel
theorem dX12_count_79 : decode cX12_count 79 = .ok (.bipush (-2), 2) := by decide +kernel
theorem dX12_count_81 : decode cX12_count 81 = .ok (.ireturn, 1) := by decide +kernel
theorem dX12_isTape_0 : decode cX12_isTape 0 = .ok (.iload_n 0, 1) := by decide +kernel
theorem dX12_isTape_1 : decode cX12_isTape 1 = .ok (.iconst 0, 1) := by decide +kernel
theorem dX12_isTape_2 : decode cX12_isTape 2 = .ok (.iconst 5, 1) := by decide +kernel
theorem dX12_isTape_3 : decode cX12_isTape 3 = .ok (.invokestatic 117, 3) := by decide +kernel
theorem dX12_isTape_6 : decode cX12_isTape 6 = .ok (.ireturn, 1) := by decide +kernel
theorem dX12_tape_0 : decode cX12_tape 0 = .ok (.iload_n 1, 1) := by decide +kernel
theorem dX12_tape_1 : decode cX12_tape 1 = .ok (.invokestatic 337, 3) := by decide +kernel
theorem dX12_tape_4 : decode cX12_tape 4 = .ok (.ifCond .ne 5, 3) := by decide +kernel
theorem dX12_tape_7 : decode cX12_tape 7 = .ok (.iconst (-1), 1) := by decide +kernel
theorem dX12_tape_8 : decode cX12_tape 8 = .ok (.ireturn, 1) := by decide +kernel
theorem dX12_tape_9 : decode cX12_tape 9 = .ok (.iload_n 2, 1) := by decide +kernel
theorem dX12_tape_10 : decode cX12_tape 10 = .ok (.iconst (-1), 1) := by decide +kernel
theorem dX12_tape_11 : decode cX12_tape 11 = .ok (.iconst 4, 1) := by decide +kernel
theorem dX12_tape_12 : decode cX12_tape 12 = .ok (.invokestatic 117, 3) := by decide +kernel
theorem dX12_tape_15 : decode cX12_tape 15 = .ok (.ifCond .eq 13, 3) := by decide +kernel
theorem dX12_tape_18 : decode cX12_tape 18 = .ok (.iload_n 2, 1) := by decide +kernel
theorem dX12_tape_19 : decode cX12_tape 19 = .ok (.ifCond .lt 12, 3) := by decide +kernel
theorem dX12_tape_22 : decode cX12_tape 22 = .ok (.iload_n 3, 1) := by decide +kernel
theorem dX12_tape_23 : decode cX12_tape 23 = .ok (.bipush 60, 2) := by decide +kernel
theorem dX12_tape_25 : decode cX12_tape 25 = .ok (.if_icmp .le 6, 3) := by decide +kernel
theorem dX12_tape_28 : decode cX12_tape 28 = .ok (.bipush (-2), 2) := by decide +kernel
theorem dX12_tape_30 : decode cX12_tape 30 = .ok (.ireturn, 1) := by decide +kernel
theorem dX12_tape_31 : decode cX12_tape 31 = .ok (.iload_n 2, 1) := by decide +kernel
theorem dX12_tape_32 : decode cX12_tape 32 = .ok (.ifCond .lt 10, 3) := by decide +kernel
theorem dX12_tape_35 : decode cX12_tape 35 = .ok (.iload_n 3, 1) := by decide +kernel
theorem dX12_tape_36 : decode cX12_tape 36 = .ok (.ifCond .ge 6, 3) := by decide +kernel
theorem dX12_tape_39 : decode cX12_tape 39 = .ok (.bipush (-14), 2) := by decide +kernel
theorem dX12_tape_41 : decode cX12_tape 41 = .ok (.ireturn, 1) := by decide +kernel
theorem dX12_tape_42 : decode cX12_tape 42 = .ok (.aload_n 0, 1) := by decide +kernel
theorem dX12_tape_43 : decode cX12_tape 43 = .ok (.getfield 100, 3) := by decide +kernel
theorem dX12_tape_46 : decode cX12_tape 46 = .ok (.iload_n 1, 1) := by decide +kernel
theorem dX12_tape_47 : decode cX12_tape 47 = .ok (.iload_n 2, 1) := by decide +kernel
theorem dX12_tape_48 : decode cX12_tape 48 = .ok (.iastore, 1) := by decide +kernel
theorem dX12_tape_49 : decode cX12_tape 49 = .ok (.aload_n 0, 1) := by decide +kernel
theorem dX12_tape_50 : decode cX12_tape 50 = .ok (.getfield 103, 3) := by decide +kernel
theorem dX12_tape_53 : decode cX12_tape 53 = .ok (.iload_n 1, 1) := by decide +kernel
theorem dX12_tape_54 : decode cX12_tape 54 = .ok (.iload_n 2, 1) := by decide +kernel
theorem dX12_tape_55 : decode cX12_tape 55 = .ok (.ifCond .ge 7, 3) := by decide +kernel
theorem dX12_tape_58 : decode cX12_tape 58 = .ok (.iconst 0, 1) := by decide +kernel
theorem dX12_tape_59 : decode cX12_tape 59 = .ok (.goto 4, 3) := by decide +kernel
theorem dX12_tape_62 : decode cX12_tape 62 = .ok (.iload_n 3, 1) := by decide +kernel
theorem dX12_tape_63 : decode cX12_tape 63 = .ok (.iastore, 1) := by decide +kernel
theorem dX12_tape_64 : decode cX12_tape 64 = .ok (.iconst 0, 1) := by decide +kernel
theorem dX12_tape_65 : decode cX12_tape 65 = .ok (.istore 4, 2) := by decide +kernel
theorem dX12_tape_67 : decode cX12_tape 67 = .ok (.iload 4, 2) := by decide +kernel
theorem dX12_tape_69 : decode cX12_tape 69 = .ok (.bipush 60, 2) := by decide +kernel
theorem dX12_tape_71 : decode cX12_tape 71 = .ok (.if_icmp .ge 22, 3) := by decide +kernel
theorem dX12_tape_74 : decode cX12_tape 74 = .ok (.aload_n 0, 1) := by decide +kernel
theorem dX12_tape_75 : decode cX12_tape 75 = .ok (.getfield 106, 3) := by decide +kernel
theorem dX12_tape_78 : decode cX12_tape 78 = .ok (.bipush 60, 2) := by decide +kernel
theorem dX12_tape_80 : decode cX12_tape 80 = .ok (.iload_n 1, 1) := by decide +kernel
theorem dX12_tape_81 : decode cX12_tape 81 = .ok (.imul, 1) := by decide +kernel
theorem dX12_tape_82 : decode cX12_tape 82 = .ok (.iload 4, 2) := by decide +kernel
theorem dX12_tape_84 : decode cX12_tape 84 = .ok (.iadd, 1) := by decide +kernel
theorem dX12_tape_85 : decode cX12_tape 85 = .ok (.lconst 0, 1) := by decide +kernel
theorem dX12_tape_86 : decode cX12_tape 86 = .ok (.lastore, 1) := by decide +kernel
theorem dX12_tape_87 : decode cX12_tape 87 = .ok (.iinc 4 1, 3) := by decide +kernel
theorem dX12_tape_90 : decode cX12_tape 90 = .ok (.goto (-23), 3) := by decide +kernel
theorem dX12_tape_93 : decode cX12_tape 93 = .ok (.iconst 1, 1) := by decide +kernel
theorem dX12_tape_94 : decode cX12_tape 94 = .ok (.ireturn, 1) := by decide +kernel
theorem dX12_kept_0 : decode cX12_kept 0 = .ok (.iload_n 0, 1) := by decide +kernel
theorem dX12_kept_1 : decode cX12_kept 1 = .ok (.tableswitch 47 0 3 #[31, 36, 41, 45], 31) := by decide +kernel
theorem dX12_kept_32 : decode cX12_kept 32 = .ok (.lload_n 1, 1) := by decide +kernel
theorem dX12_kept_33 : decode cX12_kept 33 = .ok (.l2i, 1) := by decide +kernel
theorem dX12_kept_34 : decode cX12_kept 34 = .ok (.i2b, 1) := by decide +kernel
theorem dX12_kept_35 : decode cX12_kept 35 = .ok (.i2l, 1) := by decide +kernel
theorem dX12_kept_36 : decode cX12_kept 36 = .ok (.lreturn, 1) := by decide +kernel
theorem dX12_kept_37 : decode cX12_kept 37 = .ok (.lload_n 1, 1) := by decide +kernel
theorem dX12_kept_38 : decode cX12_kept 38 = .ok (.l2i, 1) := by decide +kernel
theorem dX12_kept_39 : decode cX12_kept 39 = .ok (.i2s, 1) := by decide +kernel
theorem dX12_kept_40 : decode cX12_kept 40 = .ok (.i2l, 1) := by decide +kernel
theorem dX12_kept_41 : decode cX12_kept 41 = .ok (.lreturn, 1) := by decide +kernel
theorem dX12_kept_42 : decode cX12_kept 42 = .ok (.lload_n 1, 1) := by decide +kernel
theorem dX12_kept_43 : decode cX12_kept 43 = .ok (.l2i, 1) := by decide +kernel
theorem dX12_kept_44 : decode cX12_kept 44 = .ok (.i2l, 1) := by decide +kernel
theorem dX12_kept_45 : decode cX12_kept 45 = .ok (.lreturn, 1) := by decide +kernel
theorem dX12_kept_46 : decode cX12_kept 46 = .ok (.lload_n 1, 1) := by decide +kernel
theorem dX12_kept_47 : decode cX12_kept 47 = .ok (.lreturn, 1) := by decide +kernel
theorem dX12_kept_48 : decode cX12_kept 48 = .ok (.lload_n 1, 1) := by decide +kernel
theorem dX12_kept_49 : decode cX12_kept 49 = .ok (.lconst 0, 1) := by decide +kernel
theorem dX12_kept_50 : decode cX12_kept 50 = .ok (.lcmp, 1) := by decide +kernel
theorem dX12_kept_51 : decode cX12_kept 51 = .ok (.ifCond .eq 7, 3) := by decide +kernel
theorem dX12_kept_54 : decode cX12_kept 54 = .ok (.lconst 1, 1) := by decide +kernel
theorem dX12_kept_55 : decode cX12_kept 55 = .ok (.goto 4, 3) := by decide +kernel
theorem dX12_kept_58 : decode cX12_kept 58 = .ok (.lconst 0, 1) := by decide +kernel
theorem dX12_kept_59 : decode cX12_kept 59 = .ok (.lreturn, 1) := by decide +kernel
theorem dX12_item_0 : decode cX12_item 0 = .ok (.iload_n 1, 1) := by decide +kernel
theorem dX12_item_1 : decode cX12_item 1 = .ok (.invokestatic 337, 3) := by decide +kernel
theorem dX12_item_4 : decode cX12_item 4 = .ok (.ifCond .ne 5, 3) := by decide +kernel
theorem dX12_item_7 : decode cX12_item 7 = .ok (.iconst (-1), 1) := by decide +kernel
theorem dX12_item_8 : decode cX12_item 8 = .ok (.ireturn, 1) := by decide +kernel
theorem dX12_item_9 : decode cX12_item 9 = .ok (.aload_n 0, 1) := by decide +kernel
theorem dX12_item_10 : decode cX12_item 10 = .ok (.getfield 100, 3) := by decide +kernel
theorem dX12_item_13 : decode cX12_item 13 = .ok (.iload_n 1, 1) := by decide +kernel
theorem dX12_item_14 : decode cX12_item 14 = .ok (.iaload, 1) := by decide +kernel
theorem dX12_item_15 : decode cX12_item 15 = .ok (.ifCond .ge 6, 3) := by decide +kernel
theorem dX12_item_18 : decode cX12_item 18 = .ok (.bipush (-11), 2) := by decide +kernel
theorem dX12_item_20 : decode cX12_item 20 = .ok (.ireturn, 1) := by decide +kernel
theorem dX12_item_21 : decode cX12_item 21 = .ok (.iload_n 2, 1) := by decide +kernel
theorem dX12_item_22 : decode cX12_item 22 = .ok (.iconst 0, 1) := by decide +kernel
theorem dX12_item_23 : decode cX12_item 23 = .ok (.aload_n 0, 1) := by decide +kernel
theorem dX12_item_24 : decode cX12_item 24 = .ok (.getfield 103, 3) := by decide +kernel
theorem dX12_item_27 : decode cX12_item 27 = .ok (.iload_n 1, 1) := by decide +kernel
theorem dX12_item_28 : decode cX12_item 28 = .ok (.iaload, 1) := by decide +kernel
theorem dX12_item_29 : decode cX12_item 29 = .ok (.iconst 1, 1) := by decide +kernel
theorem dX12_item_30 : decode cX12_item 30 = .ok (.isub, 1) := by decide +kernel
theorem dX12_item_31 : decode cX12_item 31 = .ok (.invokestatic 117, 3) := by decide +kernel
theorem dX12_item_34 : decode cX12_item 34 = .ok (.ifCond .ne 6, 3) := by decide +kernel
theorem dX12_item_37 : decode cX12_item 37 = .ok (.bipush (-13), 2) := by decide +kernel
theorem dX12_item_39 : decode cX12_item 39 = .ok (.ireturn, 1) := by decide +kernel
theorem dX12_item_40 : decode cX12_item 40 = .ok (.aload_n 0, 1) := by decide +kernel
theorem dX12_item_41 : decode cX12_item 41 = .ok (.getfield 106, 3) := by decide +kernel
theorem dX12_item_44 : decode cX12_item 44 = .ok (.bipush 60, 2) := by decide +kernel
theorem dX12_item_46 : decode cX12_item 46 = .ok (.iload_n 1, 1) := by decide +kernel
theorem dX12_item_47 : decode cX12_item 47 = .ok (.imul, 1) := by decide +kernel
theorem dX12_item_48 : decode cX12_item 48 = .ok (.iload_n 2, 1) := by decide +kernel
theorem dX12_item_49 : decode cX12_item 49 = .ok (.iadd, 1) := by decide +kernel
theorem dX12_item_50 : decode cX12_item 50 = .ok (.aload_n 0, 1) := by decide +kernel
theorem dX12_item_51 : decode cX12_item 51 = .ok (.getfield 100, 3) := by decide +kernel
theorem dX12_item_54 : decode cX12_item 54 = .ok (.iload_n 1, 1) := by decide +kernel
theorem dX12_item_55 : decode cX12_item 55 = .ok (.iaload, 1) := by decide +kernel
theorem dX12_item_56 : decode cX12_item 56 = .ok (.lload_n 3, 1) := by decide +kernel
theorem dX12_item_57 : decode cX12_item 57 = .ok (.invokestatic 340, 3) := by decide +kernel
theorem dX12_item_60 : decode cX12_item 60 = .ok (.lastore, 1) := by decide +kernel
theorem dX12_item_61 : decode cX12_item 61 = .ok (.iconst 1, 1) := by decide +kernel
theorem dX12_item_62 : decode cX12_item 62 = .ok (.ireturn, 1) := by decide +kernel
theorem dX12_read_0 : decode cX12_read 0 = .ok (.iload_n 1, 1) := by decide +kernel
theorem dX12_read_1 : decode cX12_read 1 = .ok (.invokestatic 337, 3) := by decide +kernel
theorem dX12_read_4 : decode cX12_read 4 = .ok (.ifCond .eq 42, 3) := by decide +kernel
theorem dX12_read_7 : decode cX12_read 7 = .ok (.aload_n 0, 1) := by decide +kernel
theorem dX12_read_8 : decode cX12_read 8 = .ok (.getfield 100, 3) := by decide +kernel
theorem dX12_read_11 : decode cX12_read 11 = .ok (.iload_n 1, 1) := by decide +kernel
theorem dX12_read_12 : decode cX12_read 12 = .ok (.iaload, 1) := by decide +kernel
theorem dX12_read_13 : decode cX12_read 13 = .ok (.ifCond .lt 33, 3) := by decide +kernel
theorem dX12_read_16 : decode cX12_read 16 = .ok (.iload_n 2, 1) := by decide +kernel
theorem dX12_read_17 : decode cX12_read 17 = .ok (.iconst 0, 1) := by decide +kernel
theorem dX12_read_18 : decode cX12_read 18 = .ok (.aload_n 0, 1) := by decide +kernel
theorem dX12_read_19 : decode cX12_read 19 = .ok (.getfield 103, 3) := by decide +kernel
theorem dX12_read_22 : decode cX12_read 22 = .ok (.iload_n 1, 1) := by decide +kernel
theorem dX12_read_23 : decode cX12_read 23 = .ok (.iaload, 1) := by decide +kernel
theorem dX12_read_24 : decode cX12_read 24 = .ok (.iconst 1, 1) := by decide +kernel
theorem dX12_read_25 : decode cX12_read 25 = .ok (.isub, 1) := by decide +kernel
theorem dX12_read_26 : decode cX12_read 26 = .ok (.invokestatic 117, 3) := by decide +kernel
theorem dX12_read_29 : decode cX12_read 29 = .ok (.ifCond .eq 17, 3) := by decide +kernel
theorem dX12_read_32 : decode cX12_read 32 = .ok (.aload_n 0, 1) := by decide +kernel
theorem dX12_read_33 : decode cX12_read 33 = .ok (.getfield 106, 3) := by decide +kernel
theorem dX12_read_36 : decode cX12_read 36 = .ok (.bipush 60, 2) := by decide +kernel
theorem dX12_read_38 : decode cX12_read 38 = .ok (.iload_n 1, 1) := by decide +kernel
theorem dX12_read_39 : decode cX12_read 39 = .ok (.imul, 1) := by decide +kernel
theorem dX12_read_40 : decode cX12_read 40 = .ok (.iload_n 2, 1) := by decide +kernel
theorem dX12_read_41 : decode cX12_read 41 = .ok (.iadd, 1) := by decide +kernel
theorem dX12_read_42 : decode cX12_read 42 = .ok (.laload, 1) := by decide +kernel
theorem dX12_read_43 : decode cX12_read 43 = .ok (.goto 6, 3) := by decide +kernel
theorem dX12_read_46 : decode cX12_read 46 = .ok (.ldc2_w 300, 3) := by decide +kernel
theorem dX12_read_49 : decode cX12_read 49 = .ok (.lreturn, 1) := by decide +kernel
theorem dX12_shift_0 : decode cX12_shift 0 = .ok (.iload_n 1, 1) := by decide +kernel
theorem dX12_shift_1 : decode cX12_shift 1 = .ok (.invokestatic 337, 3) := by decide +kernel
theorem dX12_shift_4 : decode cX12_shift 4 = .ok (.ifCond .eq 10, 3) := by decide +kernel
theorem dX12_shift_7 : decode cX12_shift 7 = .ok (.iload_n 3, 1) := by decide +kernel
theorem dX12_shift_8 : decode cX12_shift 8 = .ok (.invokestatic 337, 3) := by decide +kernel
theorem dX12_shift_11 : decode cX12_shift 11 = .ok (.ifCond .ne 5, 3) := by decide +kernel
theorem dX12_shift_14 : decode cX12_shift 14 = .ok (.iconst (-1), 1) := by decide +kernel
theorem dX12_shift_15 : decode cX12_shift 15 = .ok (.ireturn, 1) := by decide +kernel
theorem dX12_shift_16 : decode cX12_shift 16 = .ok (.aload_n 0, 1) := by decide +kernel
theorem dX12_shift_17 : decode cX12_shift 17 = .ok (.getfield 100, 3) := by decide +kernel
theorem dX12_shift_20 : decode cX12_shift 20 = .ok (.iload_n 1, 1) := by decide +kernel
theorem dX12_shift_21 : decode cX12_shift 21 = .ok (.iaload, 1) := by decide +kernel
theorem dX12_shift_22 : decode cX12_shift 22 = .ok (.ifCond .lt 12, 3) := by decide +kernel
theorem dX12_shift_25 : decode cX12_shift 25 = .ok (.aload_n 0, 1) := by decide +kernel
theorem dX12_shift_26 : decode cX12_shift 26 = .ok (.getfield 100, 3) := by decide +kernel
theorem dX12_shift_29 : decode cX12_shift 29 = .ok (.iload_n 3, 1) := by decide +kernel
theorem dX12_shift_30 : decode cX12_shift 30 = .ok (.iaload, 1) := by decide +kernel
theorem dX12_shift_31 : decode cX12_shift 31 = .ok (.ifCond .ge 6, 3) := by decide +kernel
theorem dX12_shift_34 : decode cX12_shift 34 = .ok (.bipush (-11), 2) := by decide +kernel
theorem dX12_shift_36 : decode cX12_shift 36 = .ok (.ireturn, 1) := by decide +kernel
theorem dX12_shift_37 : decode cX12_shift 37 = .ok (.aload_n 0, 1) := by decide +kernel
theorem dX12_shift_38 : decode cX12_shift 38 = .ok (.getfield 100, 3) := by decide +kernel
theorem dX12_shift_41 : decode cX12_shift 41 = .ok (.iload_n 1, 1) := by decide +kernel
theorem dX12_shift_42 : decode cX12_shift 42 = .ok (.iaload, 1) := by decide +kernel
theorem dX12_shift_43 : decode cX12_shift 43 = .ok (.aload_n 0, 1) := by decide +kernel
theorem dX12_shift_44 : decode cX12_shift 44 = .ok (.getfield 100, 3) := by decide +kernel
theorem dX12_shift_47 : decode cX12_shift 47 = .ok (.iload_n 3, 1) := by decide +kernel
theorem dX12_shift_48 : decode cX12_shift 48 = .ok (.iaload, 1) := by decide +kernel
theorem dX12_shift_49 : decode cX12_shift 49 = .ok (.if_icmp .eq 6, 3) := by decide +kernel
theorem dX12_shift_52 : decode cX12_shift 52 = .ok (.bipush (-12), 2) := by decide +kernel
theorem dX12_shift_54 : decode cX12_shift 54 = .ok (.ireturn, 1) := by decide +kernel
theorem dX12_shift_55 : decode cX12_shift 55 = .ok (.iload 5, 2) := by decide +kernel
theorem dX12_shift_57 : decode cX12_shift 57 = .ok (.ifCond .lt 47, 3) := by decide +kernel
theorem dX12_shift_60 : decode cX12_shift 60 = .ok (.iload_n 2, 1) := by decide +kernel
theorem dX12_shift_61 : decode cX12_shift 61 = .ok (.ifCond .lt 43, 3) := by decide +kernel
theorem dX12_shift_64 : decode cX12_shift 64 = .ok (.iload 4, 2) := by decide +kernel
theorem dX12_shift_66 : decode cX12_shift 66 = .ok (.ifCond .lt 38, 3) := by decide +kernel
theorem dX12_shift_69 : decode cX12_shift 69 = .ok (.iload_n 2, 1) := by decide +kernel
theorem dX12_shift_70 : decode cX12_shift 70 = .ok (.i2l, 1) := by decide +kernel
theorem dX12_shift_71 : decode cX12_shift 71 = .ok (.iload 5, 2) := by decide +kernel
theorem dX12_shift_73 : decode cX12_shift 73 = .ok (.i2l, 1) := by decide +kernel
theorem dX12_shift_74 : decode cX12_shift 74 = .ok (.ladd, 1) := by decide +kernel
theorem dX12_shift_75 : decode cX12_shift 75 = .ok (.aload_n 0, 1) := by decide +kernel
theorem dX12_shift_76 : decode cX12_shift 76 = .ok (.getfield 103, 3) := by decide +kernel
theorem dX12_shift_79 : decode cX12_shift 79 = .ok (.iload_n 1, 1) := by decide +kernel
theorem dX12_shift_80 : decode cX12_shift 80 = .ok (.iaload, 1) := by decide +kernel
theorem dX12_shift_81 : decode cX12_shift 81 = .ok (.i2l, 1) := by decide +kernel
theorem dX12_shift_82 : decode cX12_shift 82 = .ok (.lcmp, 1) := by decide +kernel
theorem dX12_shift_83 : decode cX12_shift 83 = .ok (.ifCond .gt 21, 3) := by decide +kernel
theorem dX12_shift_86 : decode cX12_shift 86 = .ok (.iload 4, 2) := by decide +kernel
theorem dX12_shift_88 : decode cX12_shift 88 = .ok (.i2l, 1) := by decide +kernel
theorem dX12_shift_89 : decode cX12_shift 89 = .ok (.iload 5, 2) := by decide +kernel
theorem dX12_shift_91 : decode cX12_shift 91 = .ok (.i2l, 1) := by decide +kernel
theorem dX12_shift_92 : decode cX12_shift 92 = .ok (.ladd, 1) := by decide +kernel
theorem dX12_shift_93 : decode cX12_shift 93 = .ok (.aload_n 0, 1) := by decide +kernel
theorem dX12_shift_94 : decode cX12_shift 94 = .ok (.getfield 103, 3) := by decide +kernel
theorem dX12_shift_97 : decode cX12_shift 97 = .ok (.iload_n 3, 1) := by decide +kernel
theorem dX12_shift_98 : decode cX12_shift 98 = .ok (.iaload, 1) := by decide +kernel
theorem dX12_shift_99 : decode cX12_shift 99 = .ok (.i2l, 1) := by decide +kernel
theorem dX12_shift_100 : decode cX12_shift 100 = .ok (.lcmp, 1) := by decide +kernel
theorem dX12_shift_101 : decode cX12_shift 101 = .ok (.ifCond .le 6, 3) := by decide +kernel
theorem dX12_shift_104 : decode cX12_shift 104 = .ok (.bipush (-13), 2) := by decide +kernel
theorem dX12_shift_106 : decode cX12_shift 106 = .ok (.ireturn, 1) := by decide +kernel
theorem dX12_shift_107 : decode cX12_shift 107 = .ok (.iload_n 1, 1) := by decide +kernel
theorem dX12_shift_108 : decode cX12_shift 108 = .ok (.iload_n 3, 1) := by decide +kernel
theorem dX12_shift_109 : decode cX12_shift 109 = .ok (.if_icmp .ne 58, 3) := by decide +kernel
theorem dX12_shift_112 : decode cX12_shift 112 = .ok (.iload_n 2, 1) := by decide +kernel
theorem dX12_shift_113 : decode cX12_shift 113 = .ok (.iload 4, 2) := by decide +kernel
theorem dX12_shift_115 : decode cX12_shift 115 = .ok (.if_icmp .ge 52, 3) := by decide +kernel
theorem dX12_shift_118 : decode cX12_shift 118 = .ok (.iload 5, 2) := by decide +kernel
theorem dX12_shift_120 : decode cX12_shift 120 = .ok (.iconst 1, 1) := by decide +kernel
theorem dX12_shift_121 : decode cX12_shift 121 = .ok (.isub, 1) := by decide +kernel
theorem dX12_shift_122 : decode cX12_shift 122 = .ok (.istore 6, 2) := by decide +kernel
theorem dX12_shift_124 : decode cX12_shift 124 = .ok (.iload 6, 2) := by decide +kernel
theorem dX12_shift_126 : decode cX12_shift 126 = .ok (.ifCond .lt 38, 3) := by decide +kernel
theorem dX12_shift_129 : decode cX12_shift 129 = .ok (.aload_n 0, 1) := by decide +kernel
theorem dX12_shift_130 : decode cX12_shift 130 = .ok (.getfield 106, 3) := by decide +kernel
theorem dX12_shift_133 : decode cX12_shift 133 = .ok (.bipush 60, 2) := by decide +kernel
theorem dX12_shift_135 : decode cX12_shift 135 = .ok (.iload_n 3, 1) := by decide +kernel
theorem dX12_shift_136 : decode cX12_shift 136 = .ok (.imul, 1) := by decide +kernel
theorem dX12_shift_137 : decode cX12_shift 137 = .ok (.iload 4, 2) := by decide +kernel
theorem dX12_shift_139 : decode cX12_shift 139 = .ok (.iadd, 1) := by decide +kernel
theorem dX12_shift_140 : decode cX12_shift 140 = .ok (.iload 6, 2) := by decide +kernel
theorem dX12_shift_142 : decode cX12_shift 142 = .ok (.iadd, 1) := by decide +kernel
theorem dX12_shift_143 : decode cX12_shift 143 = .ok (.aload_n 0, 1) := by decide +kernel
theorem dX12_shift_144 : decode cX12_shift 144 = .ok (.getfield 106, 3) := by decide +kernel
theorem dX12_shift_147 : decode cX12_shift 147 = .ok (.bipush 60, 2) := by decide +kernel
theorem dX12_shift_149 : decode cX12_shift 149 = .ok (.iload_n 1, 1) := by decide +kernel
theorem dX12_shift_150 : decode cX12_shift 150 = .ok (.imul, 1) := by decide +kernel
theorem dX12_shift_151 : decode cX12_shift 151 = .ok (.iload_n 2, 1) := by decide +kernel
theorem dX12_shift_152 : decode cX12_shift 152 = .ok (.iadd, 1) := by decide +kernel
theorem dX12_shift_153 : decode cX12_shift 153 = .ok (.iload 6, 2) := by decide +kernel
theorem dX12_shift_155 : decode cX12_shift 155 = .ok (.iadd, 1) := by decide +kernel
theorem dX12_shift_156 : decode cX12_shift 156 = .ok (.laload, 1) := by decide +kernel
theorem dX12_shift_157 : decode cX12_shift 157 = .ok (.lastore, 1) := by decide +kernel
theorem dX12_shift_158 : decode cX12_shift 158 = .ok (.iinc 6 (-1), 3) := by decide +kernel
theorem dX12_shift_161 : decode cX12_shift 161 = .ok (.goto (-37), 3) := by decide +kernel
theorem dX12_shift_164 : decode cX12_shift 164 = .ok (.goto 48, 3) := by decide +kernel
theorem dX12_shift_167 : decode cX12_shift 167 = .ok (.iconst 0, 1) := by decide +kernel
theorem dX12_shift_168 : decode cX12_shift 168 = .ok (.istore 6, 2) := by decide +kernel
theorem dX12_shift_170 : decode cX12_shift 170 = .ok (.iload 6, 2) := by decide +kernel
theorem dX12_shift_172 : decode cX12_shift 172 = .ok (.iload 5, 2) := by decide +kernel
theorem dX12_shift_174 : decode cX12_shift 174 = .ok (.if_icmp .ge 38, 3) := by decide +kernel
theorem dX12_shift_177 : decode cX12_shift 177 = .ok (.aload_n 0, 1) := by decide +kernel
theorem dX12_shift_178 : decode cX12_shift 178 = .ok (.getfield 106, 3) := by decide +kernel
theorem dX12_shift_181 : decode cX12_shift 181 = .ok (.bipush 60, 2) := by decide +kernel
theorem dX12_shift_183 : decode cX12_shift 183 = .ok (.iload_n 3, 1) := by decide +kernel
theorem dX12_shift_184 : decode cX12_shift 184 = .ok (.imul, 1) := by decide +kernel
theorem dX12_shift_185 : decode cX12_shift 185 = .ok (.iload 4, 2) := by decide +kernel
theorem dX12_shift_187 : decode cX12_shift 187 = .ok (.iadd, 1) := by decide +kernel
theorem dX12_shift_188 : decode cX12_shift 188 = .ok (.iload 6, 2) := by decide +kernel
theorem dX12_shift_190 : decode cX12_shift 190 = .ok (.iadd, 1) := by decide +kernel
theorem dX12_shift_191 : decode cX12_shift 191 = .ok (.aload_n 0, 1) := by decide +kernel
theorem dX12_shift_192 : decode cX12_shift 192 = .ok (.getfield 106, 3) := by decide +kernel
theorem dX12_shift_195 : decode cX12_shift 195 = .ok (.bipush 60, 2) := by decide +kernel
theorem dX12_shift_197 : decode cX12_shift 197 = .ok (.iload_n 1, 1) := by decide +kernel
theorem dX12_shift_198 : decode cX12_shift 198 = .ok (.imul, 1) := by decide +kernel
theorem dX12_shift_199 : decode cX12_shift 199 = .ok (.iload_n 2, 1) := by decide +kernel
theorem dX12_shift_200 : decode cX12_shift 200 = .ok (.iadd, 1) := by decide +kernel
theorem dX12_shift_201 : decode cX12_shift 201 = .ok (.iload 6, 2) := by decide +kernel
theorem dX12_shift_203 : decode cX12_shift 203 = .ok (.iadd, 1) := by decide +kernel
theorem dX12_shift_204 : decode cX12_shift 204 = .ok (.laload, 1) := by decide +kernel
theorem dX12_shift_205 : decode cX12_shift 205 = .ok (.lastore, 1) := by decide +kernel
theorem dX12_shift_206 : decode cX12_shift 206 = .ok (.iinc 6 1, 3) := by decide +kernel
theorem dX12_shift_209 : decode cX12_shift 209 = .ok (.goto (-39), 3) := by decide +kernel
theorem dX12_shift_212 : decode cX12_shift 212 = .ok (.iload 5, 2) := by decide +kernel
theorem dX12_shift_214 : decode cX12_shift 214 = .ok (.ireturn, 1) := by decide +kernel
end
section
theorem dX11_init_0 : decode cX11_init 0 = .ok (.aload_n 0, 1) := by decide +kernel
theorem dX11_init_1 : decode cX11_init 1 = .ok (.invokespecial 5, 3) := by decide +kernel
theorem dX11_init_4 : decode cX11_init 4 = .ok (.aload_n 0, 1) := by decide +kernel
theorem dX11_init_5 : decode cX11_init 5 = .ok (.new 11, 3) := by decide +kernel
theorem dX11_init_8 : decode cX11_init 8 = .ok (.dup, 1) := by decide +kernel
theorem dX11_init_9 : decode cX11_init 9 = .ok (.invokespecial 13, 3) := by decide +kernel
theorem dX11_init_12 : decode cX11_init 12 = .ok (.putfield 14, 3) := by decide +kernel
theorem dX11_init_15 : decode cX11_init 15 = .ok (.aload_n 0, 1) := by decide +kernel
theorem dX11_init_16 : decode cX11_init 16 = .ok (.new 18, 3) := by decide +kernel
theorem dX11_init_19 : decode cX11_init 19 = .ok (.dup, 1) := by decide +kernel
theorem dX11_init_20 : decode cX11_init 20 = .ok (.invokespecial 20, 3) := by decide +kernel
theorem dX11_init_23 : decode cX11_init 23 = .ok (.putfield 21, 3) := by decide +kernel
theorem dX11_init_26 : decode cX11_init 26 = .ok (.aload_n 0, 1) := by decide +kernel
theorem dX11_init_27 : decode cX11_init 27 = .ok (.iconst 3, 1) := by decide +kernel
theorem dX11_init_28 : decode cX11_init 28 = .ok (.newarray .int, 2) := by decide +kernel
theorem dX11_init_30 : decode cX11_init 30 = .ok (.putfield 25, 3) := by decide +kernel
theorem dX11_init_33 : decode cX11_init 33 = .ok (.aload_n 0, 1) := by decide +kernel
theorem dX11_init_34 : decode cX11_init 34 = .ok (.bipush 6, 2) := by decide +kernel
theorem dX11_init_36 : decode cX11_init 36 = .ok (.newarray .int, 2) := by decide +kernel
theorem dX11_init_38 : decode cX11_init 38 = .ok (.putfield 29, 3) := by decide +kernel
theorem dX11_init_41 : decode cX11_init 41 = .ok (.aload_n 0, 1) := by decide +kernel
theorem dX11_init_42 : decode cX11_init 42 = .ok (.bipush 6, 2) := by decide +kernel
theorem dX11_init_44 : decode cX11_init 44 = .ok (.newarray .int, 2) := by decide +kernel
theorem dX11_init_46 : decode cX11_init 46 = .ok (.putfield 32, 3) := by decide +kernel
theorem dX11_init_49 : decode cX11_init 49 = .ok (.aload_n 0, 1) := by decide +kernel
theorem dX11_init_50 : decode cX11_init 50 = .ok (.bipush 6, 2) := by decide +kernel
theorem dX11_init_52 : decode cX11_init 52 = .ok (.bipush 60, 2) := by decide +kernel
theorem dX11_init_54 : decode cX11_init 54 = .ok (.multianewarray 35 2, 4) := by decide +kernel
theorem dX11_init_58 : decode cX11_init 58 = .ok (.putfield 37, 3) := by decide +kernel
theorem dX11_init_61 : decode cX11_init 61 = .ok (.aload_n 0, 1) := by decide +kernel
theorem dX11_init_62 : decode cX11_init 62 = .ok (.bipush 7, 2) := by decide +kernel
theorem dX11_init_64 : decode cX11_init 64 = .ok (.anewarray 40, 3) := by decide +kernel
theorem dX11_init_67 : decode cX11_init 67 = .ok (.dup, 1) := by decide +kernel
theorem dX11_init_68 : decode cX11_init 68 = .ok (.iconst 0, 1) := by decide +kernel
theorem dX11_init_69 : decode cX11_init 69 = .ok (.new 40, 3) := by decide +kernel
theorem dX11_init_72 : decode cX11_init 72 = .ok (.dup, 1) := by decide +kernel
theorem dX11_init_73 : decode cX11_init 73 = .ok (.invokespecial 42, 3) := by decide +kernel
theorem dX11_init_76 : decode cX11_init 76 = .ok (.aastore, 1) := by decide +kernel
theorem dX11_init_77 : decode cX11_init 77 = .ok (.dup, 1) := by decide +kernel
theorem dX11_init_78 : decode cX11_init 78 = .ok (.iconst 1, 1) := by decide +kernel
theorem dX11_init_79 : decode cX11_init 79 = .ok (.new 43, 3) := by decide +kernel
theorem dX11_init_82 : decode cX11_init 82 = .ok (.dup, 1) := by decide +kernel
theorem dX11_init_83 : decode cX11_init 83 = .ok (.invokespecial 45, 3) := by decide +kernel
theorem dX11_init_86 : decode cX11_init 86 = .ok (.aastore, 1) := by decide +kernel
theorem dX11_init_87 : decode cX11_init 87 = .ok (.dup, 1) := by decide +kernel
theorem dX11_init_88 : decode cX11_init 88 = .ok (.iconst 2, 1) := by decide +kernel
theorem dX11_init_89 : decode cX11_init 89 = .ok (.new 46, 3) := by decide +kernel
theorem dX11_init_92 : decode cX11_init 92 = .ok (.dup, 1) := by decide +kernel
theorem dX11_init_93 : decode cX11_init 93 = .ok (.invokespecial 48, 3) := by decide +kernel
theorem dX11_init_96 : decode cX11_init 96 = .ok (.aastore, 1) := by decide +kernel
theorem dX11_init_97 : decode cX11_init 97 = .ok (.dup, 1) := by decide +kernel
theorem dX11_init_98 : decode cX11_init 98 = .ok (.iconst 3, 1) := by decide +kernel
theorem dX11_init_99 : decode cX11_init 99 = .ok (.new 49, 3) := by decide +kernel
theorem dX11_init_102 : decode cX11_init 102 = .ok (.dup, 1) := by decide +kernel
theorem dX11_init_103 : decode cX11_init 103 = .ok (.invokespecial 51, 3) := by decide +kernel
theorem dX11_init_106 : decode cX11_init 106 = .ok (.aastore, 1) := by decide +kernel
theorem dX11_init_107 : decode cX11_init 107 = .ok (.dup, 1) := by decide +kernel
theorem dX11_init_108 : decode cX11_init 108 = .ok (.iconst 4, 1) := by decide +kernel
theorem dX11_init_109 : decode cX11_init 109 = .ok (.new 52, 3) := by decide +kernel
theorem dX11_init_112 : decode cX11_init 112 = .ok (.dup, 1) := by decide +kernel
theorem dX11_init_113 : decode cX11_init 113 = .ok (.invokespecial 54, 3) := by decide +kernel
theorem dX11_init_116 : decode cX11_init 116 = .ok (.aastore, 1) := by decide +kernel
theorem dX11_init_117 : decode cX11_init 117 = .ok (.dup, 1) := by decide +kernel
theorem dX11_init_118 : decode cX11_init 118 = .ok (.iconst 5, 1) := by decide +kernel
theorem dX11_init_119 : decode cX11_init 119 = .ok (.new 55, 3) := by decide +kernel
theorem dX11_init_122 : decode cX11_init 122 = .ok (.dup, 1) := by decide +kernel
theorem dX11_init_123 : decode cX11_init 123 = .ok (.invokespecial 57, 3) := by decide +kernel
theorem dX11_init_126 : decode cX11_init 126 = .ok (.aastore, 1) := by decide +kernel
theorem dX11_init_127 : decode cX11_init 127 = .ok (.dup, 1) := by decide +kernel
theorem dX11_init_128 : decode cX11_init 128 = .ok (.bipush 6, 2) := by decide +kernel
theorem dX11_init_130 : decode cX11_init 130 = .ok (.new 58, 3) := by decide +kernel
theorem dX11_init_133 : decode cX11_init 133 = .ok (.dup, 1) := by decide +kernel
theorem dX11_init_134 : decode cX11_init 134 = .ok (.invokespecial 60, 3) := by decide +kernel
theorem dX11_init_137 : decode cX11_init 137 = .ok (.aastore, 1) := by decide +kernel
theorem dX11_init_138 : decode cX11_init 138 = .ok (.putfield 61, 3) := by decide +kernel
theorem dX11_init_141 : decode cX11_init 141 = .ok (.aload_n 0, 1) := by decide +kernel
theorem dX11_init_142 : decode cX11_init 142 = .ok (.new 65, 3) := by decide +kernel
theorem dX11_init_145 : decode cX11_init 145 = .ok (.dup, 1) := by decide +kernel
theorem dX11_init_146 : decode cX11_init 146 = .ok (.aload_n 0, 1) := by decide +kernel
theorem dX11_init_147 : decode cX11_init 147 = .ok (.getfield 61, 3) := by decide +kernel
theorem dX11_init_150 : decode cX11_init 150 = .ok (.invokespecial 67, 3) := by decide +kernel
theorem dX11_init_153 : decode cX11_init 153 = .ok (.putfield 70, 3) := by decide +kernel
theorem dX11_init_156 : decode cX11_init 156 = .ok (.aload_n 0, 1) := by decide +kernel
theorem dX11_init_157 : decode cX11_init 157 = .ok (.new 65, 3) := by decide +kernel
theorem dX11_init_160 : decode cX11_init 160 = .ok (.dup, 1) := by decide +kernel
theorem dX11_init_161 : decode cX11_init 161 = .ok (.aload_n 0, 1) := by decide +kernel
theorem dX11_init_162 : decode cX11_init 162 = .ok (.getfield 61, 3) := by decide +kernel
theorem dX11_init_165 : decode cX11_init 165 = .ok (.invokespecial 67, 3) := by decide +kernel
theorem dX11_init_168 : decode cX11_init 168 = .ok (.putfield 74, 3) := by decide +kernel
theorem dX11_init_171 : decode cX11_init 171 = .ok (.aload_n 0, 1) := by decide +kernel
theorem dX11_init_172 : decode cX11_init 172 = .ok (.new 65, 3) := by decide +kernel
theorem dX11_init_175 : decode cX11_init 175 = .ok (.dup, 1) := by decide +kernel
theorem dX11_init_176 : decode cX11_init 176 = .ok (.aload_n 0, 1) := by decide +kernel
theorem dX11_init_177 : decode cX11_init 177 = .ok (.getfield 61, 3) := by decide +kernel
theorem dX11_init_180 : decode cX11_init 180 = .ok (.invokespecial 67, 3) := by decide +kernel
theorem dX11_init_183 : decode cX11_init 183 = .ok (.putfield 77, 3) := by decide +kernel
theorem dX11_init_186 : decode cX11_init 186 = .ok (.aload_n 0, 1) := by decide +kernel
theorem dX11_init_187 : decode cX11_init 187 = .ok (.getfield 29, 3) := by decide +kernel
theorem dX11_init_190 : decode cX11_init 190 = .ok (.iconst (-1), 1) := by decide +kernel
theorem dX11_init_191 : decode cX11_init 191 = .ok (.invokestatic 80, 3) := by decide +kernel
theorem dX11_init_194 : decode cX11_init 194 = .ok (.return_, 1) := by decide +kernel
theorem dX11_rocket_0 : decode cX11_rocket 0 = .ok (.iload_n 1, 1) := by decide +kernel
theorem dX11_rocket_1 : decode cX11_rocket 1 = .ok (.bipush 6, 2) := by decide +kernel
theorem dX11_rocket_3 : decode cX11_rocket 3 = .ok (.invokestatic 86, 3) := by decide +kernel
theorem dX11_rocket_6 : decode cX11_rocket 6 = .ok (.ifCond .eq 12, 3) := by decide +kernel
theorem dX11_rocket_9 : decode cX11_rocket 9 = .ok (.iload 4, 2) := by decide +kernel
theorem dX11_rocket_11 : decode cX11_rocket 11 = .ok (.iconst 3, 1) := by decide +kernel
theorem dX11_rocket_12 : decode cX11_rocket 12 = .ok (.invokestatic 86, 3) := by decide +kernel
theorem dX11_rocket_15 : decode cX11_rocket 15 = .ok (.ifCond .ne 5, 3) := by decide +kernel
theorem dX11_rocket_18 : decode cX11_rocket 18 = .ok (.iconst (-1), 1) := by decide +kernel
theorem dX11_rocket_19 : decode cX11_rocket 19 = .ok (.ireturn, 1) := by decide +kernel
theorem dX11_rocket_20 : decode cX11_rocket 20 = .ok (.iload_n 2, 1) := by decide +kernel
theorem dX11_rocket_21 : decode cX11_rocket 21 = .ok (.bipush 9, 2) := by decide +kernel
theorem dX11_rocket_23 : decode cX11_rocket 23 = .ok (.invokestatic 86, 3) := by decide +kernel
theorem dX11_rocket_26 : decode cX11_rocket 26 = .ok (.ifCond .eq 12, 3) := by decide +kernel
theorem dX11_rocket_29 : decode cX11_rocket 29 = .ok (.iload_n 3, 1) := by decide +kernel
theorem dX11_rocket_30 : decode cX11_rocket 30 = .ok (.bipush 20, 2) := by decide +kernel
theorem dX11_rocket_32 : decode cX11_rocket 32 = .ok (.invokestatic 86, 3) := by decide +kernel
theorem dX11_rocket_35 : decode cX11_rocket 35 = .ok (.ifCond .ne 6, 3) := by decide +kernel
theorem dX11_rocket_38 : decode cX11_rocket 38 = .ok (.bipush (-2), 2) := by decide +kernel
theorem dX11_rocket_40 : decode cX11_rocket 40 = .ok (.ireturn, 1) := by decide +kernel
theorem dX11_rocket_41 : decode cX11_rocket 41 = .ok (.aload_n 0, 1) := by decide +kernel
theorem dX11_rocket_42 : decode cX11_rocket 42 = .ok (.getfield 70, 3) := by decide +kernel
theorem dX11_rocket_45 : decode cX11_rocket 45 = .ok (.getfield 90, 3) := by decide +kernel
theorem dX11_rocket_48 : decode cX11_rocket 48 = .ok (.bipush 6, 2) := by decide +kernel
theorem dX11_rocket_50 : decode cX11_rocket 50 = .ok (.if_icmp .lt 6, 3) := by decide +kernel
theorem dX11_rocket_53 : decode cX11_rocket 53 = .ok (.bipush (-4), 2) := by decide +kernel
theorem dX11_rocket_55 : decode cX11_rocket 55 = .ok (.ireturn, 1) := by decide +kernel
theorem dX11_rocket_56 : decode cX11_rocket 56 = .ok (.aload_n 0, 1) := by decide +kernel
theorem dX11_rocket_57 : decode cX11_rocket 57 = .ok (.getfield 70, 3) := by decide +kernel
theorem dX11_rocket_60 : decode cX11_rocket 60 = .ok (.iload_n 1, 1) := by decide +kernel
theorem dX11_rocket_61 : decode cX11_rocket 61 = .ok (.iload_n 2, 1) := by decide +kernel
theorem dX11_rocket_62 : decode cX11_rocket 62 = .ok (.iload_n 3, 1) := by decide +kernel
theorem dX11_rocket_63 : decode cX11_rocket 63 = .ok (.iload 4, 2) := by decide +kernel
theorem dX11_rocket_65 : decode cX11_rocket 65 = .ok (.invokevirtual 94, 3) := by decide +kernel
theorem dX11_rocket_68 : decode cX11_rocket 68 = .ok (.ireturn, 1) := by decide +kernel
theorem dX11_of_0 : decode cX11_of 0 = .ok (.aload_n 0, 1) := by decide +kernel
theorem dX11_of_1 : decode cX11_of 1 = .ok (.getfield 70, 3) := by decide +kernel
theorem dX11_of_4 : decode cX11_of 4 = .ok (.iload_n 1, 1) := by decide +kernel
theorem dX11_of_5 : decode cX11_of 5 = .ok (.invokevirtual 98, 3) := by decide +kernel
theorem dX11_of_8 : decode cX11_of 8 = .ok (.ifCond .eq 12, 3) := by decide +kernel
theorem dX11_of_11 : decode cX11_of 11 = .ok (.iload_n 2, 1) := by decide +kernel
theorem dX11_of_12 : decode cX11_of 12 = .ok (.bipush 10, 2) := by decide +kernel
theorem dX11_of_14 : decode cX11_of 14 = .ok (.invokestatic 86, 3) := by decide +kernel
theorem dX11_of_17 : decode cX11_of 17 = .ok (.ifCond .ne 7, 3) := by decide +kernel
theorem dX11_of_20 : decode cX11_of 20 = .ok (.sipush (-10001), 3) := by decide +kernel
theorem dX11_of_23 : decode cX11_of 23 = .ok (.ireturn, 1) := by decide +kernel
theorem dX11_of_24 : decode cX11_of 24 = .ok (.iload_n 2, 1) := by decide +kernel
theorem dX11_of_25 : decode cX11_of 25 = .ok (.tableswitch 76 6 10 #[35, 44, 50, 61, 67], 35) := by decide +kernel
theorem dX11_of_60 : decode cX11_of 60 = .ok (.aload_n 0, 1) := by decide +kernel
theorem dX11_of_61 : decode cX11_of 61 = .ok (.getfield 70, 3) := by decide +kernel
theorem dX11_of_64 : decode cX11_of 64 = .ok (.iload_n 1, 1) := by decide +kernel
theorem dX11_of_65 : decode cX11_of 65 = .ok (.invokevirtual 102, 3) := by decide +kernel
theorem dX11_of_68 : decode cX11_of 68 = .ok (.ireturn, 1) := by decide +kernel
theorem dX11_of_69 : decode cX11_of 69 = .ok (.aload_n 0, 1) := by decide +kernel
theorem dX11_of_70 : decode cX11_of 70 = .ok (.iload_n 1, 1) := by decide +kernel
theorem dX11_of_71 : decode cX11_of 71 = .ok (.invokevirtual 106, 3) := by decide +kernel
theorem dX11_of_74 : decode cX11_of 74 = .ok (.ireturn, 1) := by decide +kernel
theorem dX11_of_75 : decode cX11_of 75 = .ok (.aload_n 0, 1) := by decide +kernel
theorem dX11_of_76 : decode cX11_of 76 = .ok (.aload_n 0, 1) := by decide +kernel
theorem dX11_of_77 : decode cX11_of 77 = .ok (.iload_n 1, 1) := by decide +kernel
theorem dX11_of_78 : decode cX11_of 78 = .ok (.invokevirtual 106, 3) := by decide +kernel
theorem dX11_of_81 : decode cX11_of 81 = .ok (.iload_n 1, 1) := by decide +kernel
theorem dX11_of_82 : decode cX11_of 82 = .ok (.invokevirtual 109, 3) := by decide +kernel
theorem dX11_of_85 : decode cX11_of 85 = .ok (.ireturn, 1) := by decide +kernel
theorem dX11_of_86 : decode cX11_of 86 = .ok (.aload_n 0, 1) := by decide +kernel
theorem dX11_of_87 : decode cX11_of 87 = .ok (.iload_n 1, 1) := by decide +kernel
theorem dX11_of_88 : decode cX11_of 88 = .ok (.invokevirtual 113, 3) := by decide +kernel
theorem dX11_of_91 : decode cX11_of 91 = .ok (.ireturn, 1) := by decide +kernel
theorem dX11_of_92 : decode cX11_of 92 = .ok (.aload_n 0, 1) := by decide +kernel
theorem dX11_of_93 : decode cX11_of 93 = .ok (.iload_n 1, 1) := by decide +kernel
theorem dX11_of_94 : decode cX11_of 94 = .ok (.iconst 2, 1) := by decide +kernel
theorem dX11_of_95 : decode cX11_of 95 = .ok (.bipush 20, 2) := by decide +kernel
theorem dX11_of_97 : decode cX11_of 97 = .ok (.invokevirtual 116, 3) := by decide +kernel
theorem dX11_of_100 : decode cX11_of 100 = .ok (.ireturn, 1) := by decide +kernel
theorem dX11_of_101 : decode cX11_of 101 = .ok (.aload_n 0, 1) := by decide +kernel
theorem dX11_of_102 : decode cX11_of 102 = .ok (.getfield 70, 3) := by decide +kernel
theorem dX11_of_105 : decode cX11_of 105 = .ok (.getfield 120, 3) := by decide +kernel
theorem dX11_of_108 : decode cX11_of 108 = .ok (.iload_n 1, 1) := by decide +kernel
theorem dX11_of_109 : decode cX11_of 109 = .ok (.aaload, 1) := by decide +kernel
theorem dX11_of_110 : decode cX11_of 110 = .ok (.iload_n 2, 1) := by decide +kernel
theorem dX11_of_111 : decode cX11_of 111 = .ok (.iaload, 1) := by decide +kernel
theorem dX11_of_112 : decode cX11_of 112 = .ok (.ireturn, 1) := by decide +kernel
theorem dX11_set_0 : decode cX11_set 0 = .ok (.aload_n 0, 1) := by decide +kernel
theorem dX11_set_1 : decode cX11_set 1 = .ok (.getfield 70, 3) := by decide +kernel
theorem dX11_set_4 : decode cX11_set 4 = .ok (.iload_n 1, 1) := by decide +kernel
theorem dX11_set_5 : decode cX11_set 5 = .ok (.invokevirtual 98, 3) := by decide +kernel
theorem dX11_set_8 : decode cX11_set 8 = .ok (.ifCond .eq 11, 3) := by decide +kernel
theorem dX11_set_11 : decode cX11_set 11 = .ok (.iload_n 2, 1) := by decide +kernel
theorem dX11_set_12 : decode cX11_set 12 = .ok (.iconst 2, 1) := by decide +kernel
theorem dX11_set_13 : decode cX11_set 13 = .ok (.invokestatic 86, 3) := by decide +kernel
theorem dX11_set_16 : decode cX11_set 16 = .ok (.ifCond .ne 5, 3) := by decide +kernel
theorem dX11_set_19 : decode cX11_set 19 = .ok (.iconst (-1), 1) := by decide +kernel
theorem dX11_set_20 : decode cX11_set 20 = .ok (.ireturn, 1) := by decide +kernel
theorem dX11_set_21 : decode cX11_set 21 = .ok (.iload_n 2, 1) := by decide +kernel
theorem dX11_set_22 : decode cX11_set 22 = .ok (.ifCond .ne 7, 3) := by decide +kernel
theorem dX11_set_25 : decode cX11_set 25 = .ok (.iconst 2, 1) := by decide +kernel
theorem dX11_set_26 : decode cX11_set 26 = .ok (.goto 13, 3) := by decide +kernel
theorem dX11_set_29 : decode cX11_set 29 = .ok (.iload_n 2, 1) := by decide +kernel
theorem dX11_set_30 : decode cX11_set 30 = .ok (.iconst 1, 1) := by decide +kernel
theorem dX11_set_31 : decode cX11_set 31 = .ok (.if_icmp .ne 7, 3) := by decide +kernel
theorem dX11_set_34 : decode cX11_set 34 = .ok (.iconst 4, 1) := by decide +kernel
theorem dX11_set_35 : decode cX11_set 35 = .ok (.goto 4, 3) := by decide +kernel
theorem dX11_set_38 : decode cX11_set 38 = .ok (.iconst 3, 1) := by decide +kernel
theorem dX11_set_39 : decode cX11_set 39 = .ok (.istore 4, 2) := by decide +kernel
theorem dX11_set_41 : decode cX11_set 41 = .ok (.iload_n 2, 1) := by decide +kernel
theorem dX11_set_42 : decode cX11_set 42 = .ok (.ifCond .ne 8, 3) := by decide +kernel
theorem dX11_set_45 : decode cX11_set 45 = .ok (.bipush 20, 2) := by decide +kernel
theorem dX11_set_47 : decode cX11_set 47 = .ok (.goto 14, 3) := by decide +kernel
theorem dX11_set_50 : decode cX11_set 50 = .ok (.iload_n 2, 1) := by decide +kernel
theorem dX11_set_51 : decode cX11_set 51 = .ok (.iconst 1, 1) := by decide +kernel
theorem dX11_set_52 : decode cX11_set 52 = .ok (.if_icmp .ne 8, 3) := by decide +kernel
theorem dX11_set_55 : decode cX11_set 55 = .ok (.bipush 99, 2) := by decide +kernel
theorem dX11_set_57 : decode cX11_set 57 = .ok (.goto 4, 3) := by decide +kernel
theorem dX11_set_60 : decode cX11_set 60 = .ok (.iconst 3, 1) := by decide +kernel
theorem dX11_set_61 : decode cX11_set 61 = .ok (.istore 5, 2) := by decide +kernel
theorem dX11_set_63 : decode cX11_set 63 = .ok (.iload_n 3, 1) := by decide +kernel
theorem dX11_set_64 : decode cX11_set 64 = .ok (.iload 5, 2) := by decide +kernel
theorem dX11_set_66 : decode cX11_set 66 = .ok (.invokestatic 86, 3) := by decide +kernel
theorem dX11_set_69 : decode cX11_set 69 = .ok (.ifCond .ne 6, 3) := by decide +kernel
theorem dX11_set_72 : decode cX11_set 72 = .ok (.bipush (-2), 2) := by decide +kernel
theorem dX11_set_74 : decode cX11_set 74 = .ok (.ireturn, 1) := by decide +kernel
theorem dX11_set_75 : decode cX11_set 75 = .ok (.aload_n 0, 1) := by decide +kernel
theorem dX11_set_76 : decode cX11_set 76 = .ok (.getfield 70, 3) := by decide +kernel
theorem dX11_set_79 : decode cX11_set 79 = .ok (.getfield 120, 3) := by decide +kernel
theorem dX11_set_82 : decode cX11_set 82 = .ok (.iload_n 1, 1) := by decide +kernel
theorem dX11_set_83 : decode cX11_set 83 = .ok (.aaload, 1) := by decide +kernel
theorem dX11_set_84 : decode cX11_set 84 = .ok (.iload 4, 2) := by decide +kernel
theorem dX11_set_86 : decode cX11_set 86 = .ok (.iload_n 3, 1) := by decide +kernel
theorem dX11_set_87 : decode cX11_set 87 = .ok (.invokestatic 124, 3) := by decide +kernel
theorem dX11_set_90 : decode cX11_set 90 = .ok (.ireturn, 1) := by decide +kernel
theorem dX11_light_0 : decode cX11_light 0 = .ok (.aload_n 0, 1) := by decide +kernel
theorem dX11_light_1 : decode cX11_light 1 = .ok (.getfield 70, 3) := by decide +kernel
theorem dX11_light_4 : decode cX11_light 4 = .ok (.iload_n 1, 1) := by decide +kernel
theorem dX11_light_5 : decode cX11_light 5 = .ok (.invokevirtual 98, 3) := by decide +kernel
theorem dX11_light_8 : decode cX11_light 8 = .ok (.ifCond .ne 5, 3) := by decide +kernel
theorem dX11_light_11 : decode cX11_light 11 = .ok (.iconst (-1), 1) := by decide +kernel
theorem dX11_light_12 : decode cX11_light 12 = .ok (.ireturn, 1) := by decide +kernel
theorem dX11_light_13 : decode cX11_light 13 = .ok (.aload_n 0, 1) := by decide +kernel
theorem dX11_light_14 : decode cX11_light 14 = .ok (.getfield 70, 3) := by decide +kernel
theorem dX11_light_17 : decode cX11_light 17 = .ok (.iload_n 1, 1) := by decide +kernel
theorem dX11_light_18 : decode cX11_light 18 = .ok (.invokevirtual 128, 3) := by decide +kernel
theorem dX11_light_21 : decode cX11_light 21 = .ok (.ifCond .ne 6, 3) := by decide +kernel
theorem dX11_light_24 : decode cX11_light 24 = .ok (.bipush (-3), 2) := by decide +kernel
theorem dX11_light_26 : decode cX11_light 26 = .ok (.ireturn, 1) := by decide +kernel
theorem dX11_light_27 : decode cX11_light 27 = .ok (.aload_n 0, 1) := by decide +kernel
theorem dX11_light_28 : decode cX11_light 28 = .ok (.getfield 70, 3) := by decide +kernel
theorem dX11_light_31 : decode cX11_light 31 = .ok (.iload_n 1, 1) := by decide +kernel
theorem dX11_light_32 : decode cX11_light 32 = .ok (.invokevirtual 131, 3) := by decide +kernel
theorem dX11_light_35 : decode cX11_light 35 = .ok (.ireturn, 1) := by decide +kernel
theorem dX11_grieve_0 : decode cX11_grieve 0 = .ok (.iload_n 1, 1) := by decide +kernel
theorem dX11_grieve_1 : decode cX11_grieve 1 = .ok (.iconst 3, 1) := by decide +kernel
theorem dX11_grieve_2 : decode cX11_grieve 2 = .ok (.invokestatic 86, 3) := by decide +kernel
theorem dX11_grieve_5 : decode cX11_grieve 5 = .ok (.ifCond .ne 5, 3) := by decide +kernel
theorem dX11_grieve_8 : decode cX11_grieve 8 = .ok (.iconst (-1), 1) := by decide +kernel
theorem dX11_grieve_9 : decode cX11_grieve 9 = .ok (.ireturn, 1) := by decide +kernel
theorem dX11_grieve_10 : decode cX11_grieve 10 = .ok (.iload_n 2, 1) := by decide +kernel
theorem dX11_grieve_11 : decode cX11_grieve 11 = .ok (.sipush 999, 3) := by decide +kernel
theorem dX11_grieve_14 : decode cX11_grieve 14 = .ok (.invokestatic 86, 3) := by decide +kernel
theorem dX11_grieve_17 : decode cX11_grieve 17 = .ok (.ifCond .ne 6, 3) := by decide +kernel
theorem dX11_grieve_20 : decode cX11_grieve 20 = .ok (.bipush (-2), 2) := by decide +kernel
theorem dX11_grieve_22 : decode cX11_grieve 22 = .ok (.ireturn, 1) := by decide +kernel
theorem dX11_grieve_23 : decode cX11_grieve 23 = .ok (.aload_n 0, 1) := by decide +kernel
theorem dX11_grieve_24 : decode cX11_grieve 24 = .ok (.getfield 70, 3) := by decide +kernel
theorem dX11_grieve_27 : decode cX11_grieve 27 = .ok (.getfield 134, 3) := by decide +kernel
theorem dX11_grieve_30 : decode cX11_grieve 30 = .ok (.iload_n 1, 1) := by decide +kernel
theorem dX11_grieve_31 : decode cX11_grieve 31 = .ok (.iload_n 2, 1) := by decide +kernel
theorem dX11_grieve_32 : decode cX11_grieve 32 = .ok (.invokestatic 124, 3) := by decide +kernel
theorem dX11_grieve_35 : decode cX11_grieve 35 = .ok (.ireturn, 1) := by decide +kernel
theorem dX11_rain_0 : decode cX11_rain 0 = .ok (.iload_n 1, 1) := by decide +kernel
theorem dX11_rain_1 : decode cX11_rain 1 = .ok (.iconst 3, 1) := by decide +kernel
theorem dX11_rain_2 : decode cX11_rain 2 = .ok (.invokestatic 86, 3) := by decide +kernel
theorem dX11_rain_5 : decode cX11_rain 5 = .ok (.ifCond .ne 5, 3) := by decide +kernel
theorem dX11_rain_8 : decode cX11_rain 8 = .ok (.iconst (-1), 1) := by decide +kernel
theorem dX11_rain_9 : decode cX11_rain 9 = .ok (.ireturn, 1) := by decide +kernel
theorem dX11_rain_10 : decode cX11_rain 10 = .ok (.iload_n 2, 1) := by decide +kernel
theorem dX11_rain_11 : decode cX11_rain 11 = .ok (.bipush 9, 2) := by decide +kernel
theorem dX11_rain_13 : decode cX11_rain 13 = .ok (.invokestatic 86, 3) := by decide +kernel
theorem dX11_rain_16 : decode cX11_rain 16 = .ok (.ifCond .ne 6, 3) := by decide +kernel
theorem dX11_rain_19 : decode cX11_rain 19 = .ok (.bipush (-2), 2) := by decide +kernel
theorem dX11_rain_21 : decode cX11_rain 21 = .ok (.ireturn, 1) := by decide +kernel
theorem dX11_rain_22 : decode cX11_rain 22 = .ok (.aload_n 0, 1) := by decide +kernel
theorem dX11_rain_23 : decode cX11_rain 23 = .ok (.getfield 70, 3) := by decide +kernel
theorem dX11_rain_26 : decode cX11_rain 26 = .ok (.getfield 137, 3) := by decide +kernel
theorem dX11_rain_29 : decode cX11_rain 29 = .ok (.iload_n 1, 1) := by decide +kernel
theorem dX11_rain_30 : decode cX11_rain 30 = .ok (.iload_n 2, 1) := by decide +kernel
theorem dX11_rain_31 : decode cX11_rain 31 = .ok (.invokestatic 124, 3) := by decide +kernel
theorem dX11_rain_34 : decode cX11_rain 34 = .ok (.ireturn, 1) := by decide +kernel
theorem dX11_row_0 : decode cX11_row 0 = .ok (.aload_n 0, 1) := by decide +kernel
theorem dX11_row_1 : decode cX11_row 1 = .ok (.getfield 70, 3) := by decide +kernel
theorem dX11_row_4 : decode cX11_row 4 = .ok (.iload_n 1, 1) := by decide +kernel
theorem dX11_row_5 : decode cX11_row 5 = .ok (.invokevirtual 98, 3) := by decide +kernel
theorem dX11_row_8 : decode cX11_row 8 = .ok (.ifCond .eq 11, 3) := by decide +kernel
theorem dX11_row_11 : decode cX11_row 11 = .ok (.iload_n 2, 1) := by decide +kernel
theorem dX11_row_12 : decode cX11_row 12 = .ok (.iconst 3, 1) := by decide +kernel
theorem dX11_row_13 : decode cX11_row 13 = .ok (.invokestatic 86, 3) := by decide +kernel
theorem dX11_row_16 : decode cX11_row 16 = .ok (.ifCond .ne 5, 3) := by decide +kernel
theorem dX11_row_19 : decode cX11_row 19 = .ok (.iconst (-1), 1) := by decide +kernel
theorem dX11_row_20 : decode cX11_row 20 = .ok (.ireturn, 1) := by decide +kernel
theorem dX11_row_21 : decode cX11_row 21 = .ok (.iload_n 3, 1) := by decide +kernel
theorem dX11_row_22 : decode cX11_row 22 = .ok (.bipush 9, 2) := by decide +kernel
theorem dX11_row_24 : decode cX11_row 24 = .ok (.invokestatic 86, 3) := by decide +kernel
theorem dX11_row_27 : decode cX11_row 27 = .ok (.ifCond .ne 6, 3) := by decide +kernel
theorem dX11_row_30 : decode cX11_row 30 = .ok (.bipush (-2), 2) := by decide +kernel
theorem dX11_row_32 : decode cX11_row 32 = .ok (.ireturn, 1) := by decide +kernel
theorem dX11_row_33 : decode cX11_row 33 = .ok (.aload_n 0, 1) := by decide +kernel
theorem dX11_row_34 : decode cX11_row 34 = .ok (.getfield 70, 3) := by decide +kernel
theorem dX11_row_37 : decode cX11_row 37 = .ok (.getfield 120, 3) := by decide +kernel
theorem dX11_row_40 : decode cX11_row 40 = .ok (.iload_n 1, 1) := by decide +kernel
theorem dX11_row_41 : decode cX11_row 41 = .ok (.aaload, 1) := by decide +kernel
theorem dX11_row_42 : decode cX11_row 42 = .ok (.iconst 0, 1) := by decide +kernel
theorem dX11_row_43 : decode cX11_row 43 = .ok (.iaload, 1) := by decide +kernel
theorem dX11_row_44 : decode cX11_row 44 = .ok (.bipush 6, 2) := by decide +kernel
theorem dX11_row_46 : decode cX11_row 46 = .ok (.if_icmp .eq 6, 3) := by decide +kernel
theorem dX11_row_49 : decode cX11_row 49 = .ok (.bipush (-3), 2) := by decide +kernel
theorem dX11_row_51 : decode cX11_row 51 = .ok (.ireturn, 1) := by decide +kernel
theorem dX11_row_52 : decode cX11_row 52 = .ok (.aload_n 0, 1) := by decide +kernel
theorem dX11_row_53 : decode cX11_row 53 = .ok (.getfield 70, 3) := by decide +kernel
theorem dX11_row_56 : decode cX11_row 56 = .ok (.getfield 120, 3) := by decide +kernel
theorem dX11_row_59 : decode cX11_row 59 = .ok (.iload_n 1, 1) := by decide +kernel
theorem dX11_row_60 : decode cX11_row 60 = .ok (.aaload, 1) := by decide +kernel
theorem dX11_row_61 : decode cX11_row 61 = .ok (.bipush 6, 2) := by decide +kernel
theorem dX11_row_63 : decode cX11_row 63 = .ok (.iload_n 2, 1) := by decide +kernel
theorem dX11_row_64 : decode cX11_row 64 = .ok (.iadd, 1) := by decide +kernel
theorem dX11_row_65 : decode cX11_row 65 = .ok (.iload_n 3, 1) := by decide +kernel
theorem dX11_row_66 : decode cX11_row 66 = .ok (.invokestatic 124, 3) := by decide +kernel
theorem dX11_row_69 : decode cX11_row 69 = .ok (.ireturn, 1) := by decide +kernel
theorem dX11_feed_0 : decode cX11_feed 0 = .ok (.iload_n 1, 1) := by decide +kernel
theorem dX11_feed_1 : decode cX11_feed 1 = .ok (.bipush 127, 2) := by decide +kernel
theorem dX11_feed_3 : decode cX11_feed 3 = .ok (.invokestatic 86, 3) := by decide +kernel
theorem dX11_feed_6 : decode cX11_feed 6 = .ok (.ifCond .ne 6, 3) := by decide +kernel
theorem dX11_feed_9 : decode cX11_feed 9 = .ok (.bipush (-2), 2) := by decide +kernel
theorem dX11_feed_11 : decode cX11_feed 11 = .ok (.ireturn, 1) := by decide +kernel
theorem dX11_feed_12 : decode cX11_feed 12 = .ok (.aload_n 0, 1) := by decide +kernel
theorem dX11_feed_13 : decode cX11_feed 13 = .ok (.getfield 14, 3) := by decide +kernel
theorem dX11_feed_16 : decode cX11_feed 16 = .ok (.getfield 140, 3) := by decide +kernel
theorem dX11_feed_19 : decode cX11_feed 19 = .ok (.bipush 100, 2) := by decide +kernel
theorem dX11_feed_21 : decode cX11_feed 21 = .ok (.if_icmp .lt 6, 3) := by decide +kernel
theorem dX11_feed_24 : decode cX11_feed 24 = .ok (.bipush (-4), 2) := by decide +kernel
theorem dX11_feed_26 : decode cX11_feed 26 = .ok (.ireturn, 1) := by decide +kernel
theorem dX11_feed_27 : decode cX11_feed 27 = .ok (.aload_n 0, 1) := by decide +kernel
theorem dX11_feed_28 : decode cX11_feed 28 = .ok (.getfield 14, 3) := by decide +kernel
theorem dX11_feed_31 : decode cX11_feed 31 = .ok (.getfield 143, 3) := by decide +kernel
theorem dX11_feed_34 : decode cX11_feed 34 = .ok (.aload_n 0, 1) := by decide +kernel
theorem dX11_feed_35 : decode cX11_feed 35 = .ok (.getfield 14, 3) := by decide +kernel
theorem dX11_feed_38 : decode cX11_feed 38 = .ok (.getfield 140, 3) := by decide +kernel
theorem dX11_feed_41 : decode cX11_feed 41 = .ok (.iload_n 1, 1) := by decide +kernel
theorem dX11_feed_42 : decode cX11_feed 42 = .ok (.i2b, 1) := by decide +kernel
theorem dX11_feed_43 : decode cX11_feed 43 = .ok (.bastore, 1) := by decide +kernel
theorem dX11_feed_44 : decode cX11_feed 44 = .ok (.aload_n 0, 1) := by decide +kernel
theorem dX11_feed_45 : decode cX11_feed 45 = .ok (.getfield 14, 3) := by decide +kernel
theorem dX11_feed_48 : decode cX11_feed 48 = .ok (.dup, 1) := by decide +kernel
theorem dX11_feed_49 : decode cX11_feed 49 = .ok (.getfield 140, 3) := by decide +kernel
theorem dX11_feed_52 : decode cX11_feed 52 = .ok (.iconst 1, 1) := by decide +kernel
theorem dX11_feed_53 : decode cX11_feed 53 = .ok (.iadd, 1) := by decide +kernel
theorem dX11_feed_54 : decode cX11_feed 54 = .ok (.putfield 140, 3) := by decide +kernel
theorem dX11_feed_57 : decode cX11_feed 57 = .ok (.aload_n 0, 1) := by decide +kernel
theorem dX11_feed_58 : decode cX11_feed 58 = .ok (.getfield 14, 3) := by decide +kernel
theorem dX11_feed_61 : decode cX11_feed 61 = .ok (.getfield 140, 3) := by decide +kernel
theorem dX11_feed_64 : decode cX11_feed 64 = .ok (.ireturn, 1) := by decide +kernel
theorem dX11_show_0 : decode cX11_show 0 = .ok (.aload_n 0, 1) := by decide +kernel
theorem dX11_show_1 : decode cX11_show 1 = .ok (.getfield 147, 3) := by decide +kernel
theorem dX11_show_4 : decode cX11_show 4 = .ok (.bipush 6, 2) := by decide +kernel
theorem dX11_show_6 : decode cX11_show 6 = .ok (.if_icmp .lt 6, 3) := by decide +kernel
theorem dX11_show_9 : decode cX11_show 9 = .ok (.bipush (-4), 2) := by decide +kernel
theorem dX11_show_11 : decode cX11_show 11 = .ok (.ireturn, 1) := by decide +kernel
theorem dX11_show_12 : decode cX11_show 12 = .ok (.aload_n 0, 1) := by decide +kernel
theorem dX11_show_13 : decode cX11_show 13 = .ok (.getfield 14, 3) := by decide +kernel
theorem dX11_show_16 : decode cX11_show 16 = .ok (.invokevirtual 150, 3) := by decide +kernel
theorem dX11_show_19 : decode cX11_show 19 = .ok (.istore_n 1, 1) := by decide +kernel
theorem dX11_show_20 : decode cX11_show 20 = .ok (.aload_n 0, 1) := by decide +kernel
theorem dX11_show_21 : decode cX11_show 21 = .ok (.getfield 14, 3) := by decide +kernel
theorem dX11_show_24 : decode cX11_show 24 = .ok (.iconst 0, 1) := by decide +kernel
theorem dX11_show_25 : decode cX11_show 25 = .ok (.putfield 140, 3) := by decide +kernel
theorem dX11_show_28 : decode cX11_show 28 = .ok (.iload_n 1, 1) := by decide +kernel
theorem dX11_show_29 : decode cX11_show 29 = .ok (.ifCond .lt 8, 3) := by decide +kernel
theorem dX11_show_32 : decode cX11_show 32 = .ok (.bipush (-10), 2) := by decide +kernel
theorem dX11_show_34 : decode cX11_show 34 = .ok (.iload_n 1, 1) := by decide +kernel
theorem dX11_show_35 : decode cX11_show 35 = .ok (.isub, 1) := by decide +kernel
theorem dX11_show_36 : decode cX11_show 36 = .ok (.ireturn, 1) := by decide +kernel
theorem dX11_show_37 : decode cX11_show 37 = .ok (.aload_n 0, 1) := by decide +kernel
theorem dX11_show_38 : decode cX11_show 38 = .ok (.getfield 70, 3) := by decide +kernel
theorem dX11_show_41 : decode cX11_show 41 = .ok (.aload_n 0, 1) := by decide +kernel
theorem dX11_show_42 : decode cX11_show 42 = .ok (.getfield 14, 3) := by decide +kernel
theorem dX11_show_45 : decode cX11_show 45 = .ok (.invokevirtual 154, 3) := by decide +kernel
theorem dX11_show_48 : decode cX11_show 48 = .ok (.putfield 158, 3) := by decide +kernel
theorem dX11_show_51 : decode cX11_show 51 = .ok (.aload_n 0, 1) := by decide +kernel
theorem dX11_show_52 : decode cX11_show 52 = .ok (.dup, 1) := by decide +kernel
theorem dX11_show_53 : decode cX11_show 53 = .ok (.getfield 147, 3) := by decide +kernel
theorem dX11_show_56 : decode cX11_show 56 = .ok (.iconst 1, 1) := by decide +kernel
theorem dX11_show_57 : decode cX11_show 57 = .ok (.iadd, 1) := by decide +kernel
theorem dX11_show_58 : decode cX11_show 58 = .ok (.putfield 147, 3) := by decide +kernel
theorem dX11_show_61 : decode cX11_show 61 = .ok (.aload_n 0, 1) := by decide +kernel
theorem dX11_show_62 : decode cX11_show 62 = .ok (.getfield 147, 3) := by decide +kernel
theorem dX11_show_65 : decode cX11_show 65 = .ok (.iconst 1, 1) := by decide +kernel
theorem dX11_show_66 : decode cX11_show 66 = .ok (.isub, 1) := by decide +kernel
theorem dX11_show_67 : decode cX11_show 67 = .ok (.ireturn, 1) := by decide +kernel
theorem dX11_told_0 : decode cX11_told 0 = .ok (.iload_n 1, 1) := by decide +kernel
theorem dX11_told_1 : decode cX11_told 1 = .ok (.bipush 10, 2) := by decide +kernel
theorem dX11_told_3 : decode cX11_told 3 = .ok (.invokestatic 162, 3) := by decide +kernel
theorem dX11_told_6 : decode cX11_told 6 = .ok (.istore_n 2, 1) := by decide +kernel
theorem dX11_told_7 : decode cX11_told 7 = .ok (.iload_n 1, 1) := by decide +kernel
theorem dX11_told_8 : decode cX11_told 8 = .ok (.bipush 10, 2) := by decide +kernel
theorem dX11_told_10 : decode cX11_told 10 = .ok (.invokestatic 167, 3) := by decide +kernel
theorem dX11_told_13 : decode cX11_told 13 = .ok (.istore_n 3, 1) := by decide +kernel
theorem dX11_told_14 : decode cX11_told 14 = .ok (.iload_n 2, 1) := by decide +kernel
theorem dX11_told_15 : decode cX11_told 15 = .ok (.tableswitch 88 0 3 #[29, 35, 54, 73], 29) := by decide +kernel
theorem dX11_told_44 : decode cX11_told 44 = .ok (.aload_n 0, 1) := by decide +kernel
theorem dX11_told_45 : decode cX11_told 45 = .ok (.iload_n 3, 1) := by decide +kernel
theorem dX11_told_46 : decode cX11_told 46 = .ok (.invokevirtual 170, 3) := by decide +kernel
theorem dX11_told_49 : decode cX11_told 49 = .ok (.ireturn, 1) := by decide +kernel
theorem dX11_told_50 : decode cX11_told 50 = .ok (.iload_n 3, 1) := by decide +kernel
theorem dX11_told_51 : decode cX11_told 51 = .ok (.iconst 4, 1) := by decide +kernel
theorem dX11_told_52 : decode cX11_told 52 = .ok (.if_icmp .ge 15, 3) := by decide +kernel
theorem dX11_told_55 : decode cX11_told 55 = .ok (.aload_n 0, 1) := by decide +kernel
theorem dX11_told_56 : decode cX11_told 56 = .ok (.getfield 70, 3) := by decide +kernel
theorem dX11_told_59 : decode cX11_told 59 = .ok (.getfield 137, 3) := by decide +kernel
theorem dX11_told_62 : decode cX11_told 62 = .ok (.iload_n 3, 1) := by decide +kernel
theorem dX11_told_63 : decode cX11_told 63 = .ok (.iaload, 1) := by decide +kernel
theorem dX11_told_64 : decode cX11_told 64 = .ok (.goto 4, 3) := by decide +kernel
theorem dX11_told_67 : decode cX11_told 67 = .ok (.iconst (-1), 1) := by decide +kernel
theorem dX11_told_68 : decode cX11_told 68 = .ok (.ireturn, 1) := by decide +kernel
theorem dX11_told_69 : decode cX11_told 69 = .ok (.iload_n 3, 1) := by decide +kernel
theorem dX11_told_70 : decode cX11_told 70 = .ok (.iconst 4, 1) := by decide +kernel
theorem dX11_told_71 : decode cX11_told 71 = .ok (.if_icmp .ge 15, 3) := by decide +kernel
theorem dX11_told_74 : decode cX11_told 74 = .ok (.aload_n 0, 1) := by decide +kernel
theorem dX11_told_75 : decode cX11_told 75 = .ok (.getfield 70, 3) := by decide +kernel
theorem dX11_told_78 : decode cX11_told 78 = .ok (.getfield 134, 3) := by decide +kernel
theorem dX11_told_81 : decode cX11_told 81 = .ok (.iload_n 3, 1) := by decide +kernel
theorem dX11_told_82 : decode cX11_told 82 = .ok (.iaload, 1) := by decide +kernel
theorem dX11_told_83 : decode cX11_told 83 = .ok (.goto 4, 3) := by decide +kernel
theorem dX11_told_86 : decode cX11_told 86 = .ok (.iconst (-1), 1) := by decide +kernel
theorem dX11_told_87 : decode cX11_told 87 = .ok (.ireturn, 1) := by decide +kernel
theorem dX11_told_88 : decode cX11_told 88 = .ok (.iload_n 3, 1) := by decide +kernel
theorem dX11_told_89 : decode cX11_told 89 = .ok (.iconst 4, 1) := by decide +kernel
theorem dX11_told_90 : decode cX11_told 90 = .ok (.if_icmp .ge 11, 3) := by decide +kernel
theorem dX11_told_93 : decode cX11_told 93 = .ok (.aload_n 0, 1) := by decide +kernel
theorem dX11_told_94 : decode cX11_told 94 = .ok (.iload_n 3, 1) := by decide +kernel
theorem dX11_told_95 : decode cX11_told 95 = .ok (.invokevirtual 173, 3) := by decide +kernel
theorem dX11_told_98 : decode cX11_told 98 = .ok (.goto 4, 3) := by decide +kernel
theorem dX11_told_101 : decode cX11_told 101 = .ok (.iconst (-1), 1) := by decide +kernel
theorem dX11_told_102 : decode cX11_told 102 = .ok (.ireturn, 1) := by decide +kernel
theorem dX11_told_103 : decode cX11_told 103 = .ok (.iconst (-1), 1) := by decide +kernel
theorem dX11_told_104 : decode cX11_told 104 = .ok (.ireturn, 1) := by decide +kernel
theorem dX11_toldOfAll_0 : decode cX11_toldOfAll 0 = .ok (.iload_n 1, 1) := by decide +kernel
theorem dX11_toldOfAll_1 : decode cX11_toldOfAll 1 = .ok (.tableswitch 89 0 5 #[39, 47, 55, 63, 71, 80], 39) := by decide +kernel
theorem dX11_toldOfAll_40 : decode cX11_toldOfAll 40 = .ok (.aload_n 0, 1) := by decide +kernel
theorem dX11_toldOfAll_41 : decode cX11_toldOfAll 41 = .ok (.getfield 70, 3) := by decide +kernel
theorem dX11_toldOfAll_44 : decode cX11_toldOfAll 44 = .ok (.getfield 176, 3) := by decide +kernel
theorem dX11_toldOfAll_47 : decode cX11_toldOfAll 47 = .ok (.ireturn, 1) := by decide +kernel
theorem dX11_toldOfAll_48 : decode cX11_toldOfAll 48 = .ok (.aload_n 0, 1) := by decide +kernel
theorem dX11_toldOfAll_49 : decode cX11_toldOfAll 49 = .ok (.getfield 70, 3) := by decide +kernel
theorem dX11_toldOfAll_52 : decode cX11_toldOfAll 52 = .ok (.invokevirtual 179, 3) := by decide +kernel
theorem dX11_toldOfAll_55 : decode cX11_toldOfAll 55 = .ok (.ireturn, 1) := by decide +kernel
theorem dX11_toldOfAll_56 : decode cX11_toldOfAll 56 = .ok (.aload_n 0, 1) := by decide +kernel
theorem dX11_toldOfAll_57 : decode cX11_toldOfAll 57 = .ok (.getfield 70, 3) := by decide +kernel
theorem dX11_toldOfAll_60 : decode cX11_toldOfAll 60 = .ok (.invokevirtual 182, 3) := by decide +kernel
theorem dX11_toldOfAll_63 : decode cX11_toldOfAll 63 = .ok (.ireturn, 1) := by decide +kernel
theorem dX11_toldOfAll_64 : decode cX11_toldOfAll 64 = .ok (.aload_n 0, 1) := by decide +kernel
theorem dX11_toldOfAll_65 : decode cX11_toldOfAll 65 = .ok (.getfield 70, 3) := by decide +kernel
theorem dX11_toldOfAll_68 : decode cX11_toldOfAll 68 = .ok (.invokevirtual 185, 3) := by decide +kernel
theorem dX11_toldOfAll_71 : decode cX11_toldOfAll 71 = .ok (.ireturn, 1) := by decide +kernel
theorem dX11_toldOfAll_72 : decode cX11_toldOfAll 72 = .ok (.aload_n 0, 1) := by decide +kernel
theorem dX11_toldOfAll_73 : decode cX11_toldOfAll 73 = .ok (.getfield 70, 3) := by decide +kernel
theorem dX11_toldOfAll_76 : decode cX11_toldOfAll 76 = .ok (.iconst 0, 1) := by decide +kernel
theorem dX11_toldOfAll_77 : decode cX11_toldOfAll 77 = .ok (.invokevirtual 188, 3) := by decide +kernel
theorem dX11_toldOfAll_80 : decode cX11_toldOfAll 80 = .ok (.ireturn, 1) := by decide +kernel
theorem dX11_toldOfAll_81 : decode cX11_toldOfAll 81 = .ok (.aload_n 0, 1) := by decide +kernel
theorem dX11_toldOfAll_82 : decode cX11_toldOfAll 82 = .ok (.getfield 70, 3) := by decide +kernel
theorem dX11_toldOfAll_85 : decode cX11_toldOfAll 85 = .ok (.iconst 2, 1) := by decide +kernel
theorem dX11_toldOfAll_86 : decode cX11_toldOfAll 86 = .ok (.invokevirtual 188, 3) := by decide +kernel
theorem dX11_toldOfAll_89 : decode cX11_toldOfAll 89 = .ok (.ireturn, 1) := by decide +kernel
theorem dX11_toldOfAll_90 : decode cX11_toldOfAll 90 = .ok (.iconst (-1), 1) := by decide +kernel
theorem dX11_toldOfAll_91 : decode cX11_toldOfAll 91 = .ok (.ireturn, 1) := by decide +kernel
theorem dX11_pass_0 : decode cX11_pass 0 = .ok (.iload_n 1, 1) := by decide +kernel
theorem dX11_pass_1 : decode cX11_pass 1 = .ok (.bipush 60, 2) := by decide +kernel
theorem dX11_pass_3 : decode cX11_pass 3 = .ok (.invokestatic 86, 3) := by decide +kernel
theorem dX11_pass_6 : decode cX11_pass 6 = .ok (.ifCond .ne 6, 3) := by decide +kernel
theorem dX11_pass_9 : decode cX11_pass 9 = .ok (.bipush (-2), 2) := by decide +kernel
theorem dX11_pass_11 : decode cX11_pass 11 = .ok (.ireturn, 1) := by decide +kernel
theorem dX11_pass_12 : decode cX11_pass 12 = .ok (.aload_n 0, 1) := by decide +kernel
theorem dX11_pass_13 : decode cX11_pass 13 = .ok (.getfield 70, 3) := by decide +kernel
theorem dX11_pass_16 : decode cX11_pass 16 = .ok (.getfield 176, 3) := by decide +kernel
theorem dX11_pass_19 : decode cX11_pass 19 = .ok (.iload_n 1, 1) := by decide +kernel
theorem dX11_pass_20 : decode cX11_pass 20 = .ok (.iadd, 1) := by decide +kernel
theorem dX11_pass_21 : decode cX11_pass 21 = .ok (.sipush 9999, 3) := by decide +kernel
theorem dX11_pass_24 : decode cX11_pass 24 = .ok (.if_icmp .le 6, 3) := by decide +kernel
theorem dX11_pass_27 : decode cX11_pass 27 = .ok (.bipush (-3), 2) := by decide +kernel
theorem dX11_pass_29 : decode cX11_pass 29 = .ok (.ireturn, 1) := by decide +kernel
theorem dX11_pass_30 : decode cX11_pass 30 = .ok (.aload_n 0, 1) := by decide +kernel
theorem dX11_pass_31 : decode cX11_pass 31 = .ok (.getfield 70, 3) := by decide +kernel
theorem dX11_pass_34 : decode cX11_pass 34 = .ok (.iload_n 1, 1) := by decide +kernel
theorem dX11_pass_35 : decode cX11_pass 35 = .ok (.invokevirtual 191, 3) := by decide +kernel
theorem dX11_pass_38 : decode cX11_pass 38 = .ok (.aload_n 0, 1) := by decide +kernel
theorem dX11_pass_39 : decode cX11_pass 39 = .ok (.getfield 70, 3) := by decide +kernel
theorem dX11_pass_42 : decode cX11_pass 42 = .ok (.getfield 176, 3) := by decide +kernel
theorem dX11_pass_45 : decode cX11_pass 45 = .ok (.ireturn, 1) := by decide +kernel
theorem dX11_on_0 : decode cX11_on 0 = .ok (.iload_n 2, 1) := by decide +kernel
theorem dX11_on_1 : decode cX11_on 1 = .ok (.bipush 10, 2) := by decide +kernel
theorem dX11_on_3 : decode cX11_on 3 = .ok (.if_icmp .lt 13, 3) := by decide +kernel
theorem dX11_on_6 : decode cX11_on 6 = .ok (.iload_n 2, 1) := by decide +kernel
theorem dX11_on_7 : decode cX11_on 7 = .ok (.bipush 20, 2) := by decide +kernel
theorem dX11_on_9 : decode cX11_on 9 = .ok (.if_icmp .ge 7, 3) := by decide +kernel
theorem dX11_on_12 : decode cX11_on 12 = .ok (.iconst 1, 1) := by decide +kernel
theorem dX11_on_13 : decode cX11_on 13 = .ok (.goto 4, 3) := by decide +kernel
theorem dX11_on_16 : decode cX11_on 16 = .ok (.iconst 0, 1) := by decide +kernel
theorem dX11_on_17 : decode cX11_on 17 = .ok (.istore_n 3, 1) := by decide +kernel
theorem dX11_on_18 : decode cX11_on 18 = .ok (.iload_n 3, 1) := by decide +kernel
theorem dX11_on_19 : decode cX11_on 19 = .ok (.ifCond .eq 10, 3) := by decide +kernel
theorem dX11_on_22 : decode cX11_on 22 = .ok (.iload_n 2, 1) := by decide +kernel
theorem dX11_on_23 : decode cX11_on 23 = .ok (.bipush 10, 2) := by decide +kernel
theorem dX11_on_25 : decode cX11_on 25 = .ok (.isub, 1) := by decide +kernel
theorem dX11_on_26 : decode cX11_on 26 = .ok (.goto 17, 3) := by decide +kernel
theorem dX11_on_29 : decode cX11_on 29 = .ok (.iload_n 2, 1) := by decide +kernel
theorem dX11_on_30 : decode cX11_on 30 = .ok (.bipush 20, 2) := by decide +kernel
theorem dX11_on_32 : decode cX11_on 32 = .ok (.if_icmp .ge 7, 3) := by decide +kernel
theorem dX11_on_35 : decode cX11_on 35 = .ok (.iconst (-1), 1) := by decide +kernel
theorem dX11_on_36 : decode cX11_on 36 = .ok (.goto 7, 3) := by decide +kernel
theorem dX11_on_39 : decode cX11_on 39 = .ok (.iload_n 2, 1) := by decide +kernel
theorem dX11_on_40 : decode cX11_on 40 = .ok (.bipush 20, 2) := by decide +kernel
theorem dX11_on_42 : decode cX11_on 42 = .ok (.isub, 1) := by decide +kernel
theorem dX11_on_43 : decode cX11_on 43 = .ok (.istore 4, 2) := by decide +kernel
theorem dX11_on_45 : decode cX11_on 45 = .ok (.aload_n 0, 1) := by decide +kernel
theorem dX11_on_46 : decode cX11_on 46 = .ok (.getfield 70, 3) := by decide +kernel
theorem dX11_on_49 : decode cX11_on 49 = .ok (.iload 4, 2) := by decide +kernel
theorem dX11_on_51 : decode cX11_on 51 = .ok (.invokevirtual 98, 3) := by decide +kernel
theorem dX11_on_54 : decode cX11_on 54 = .ok (.ifCond .ne 7, 3) := by decide +kernel
theorem dX11_on_57 : decode cX11_on 57 = .ok (.sipush (-10001), 3) := by decide +kernel
theorem dX11_on_60 : decode cX11_on 60 = .ok (.ireturn, 1) := by decide +kernel
theorem dX11_on_61 : decode cX11_on 61 = .ok (.iload_n 1, 1) := by decide +kernel
theorem dX11_on_62 : decode cX11_on 62 = .ok (.bipush 60, 2) := by decide +kernel
theorem dX11_on_64 : decode cX11_on 64 = .ok (.invokestatic 86, 3) := by decide +kernel
theorem dX11_on_67 : decode cX11_on 67 = .ok (.ifCond .ne 6, 3) := by decide +kernel
theorem dX11_on_70 : decode cX11_on 70 = .ok (.bipush (-2), 2) := by decide +kernel
theorem dX11_on_72 : decode cX11_on 72 = .ok (.ireturn, 1) := by decide +kernel
theorem dX11_on_73 : decode cX11_on 73 = .ok (.iload_n 3, 1) := by decide +kernel
theorem dX11_on_74 : decode cX11_on 74 = .ok (.ifCond .ne 11, 3) := by decide +kernel
theorem dX11_on_77 : decode cX11_on 77 = .ok (.aload_n 0, 1) := by decide +kernel
theorem dX11_on_78 : decode cX11_on 78 = .ok (.iload_n 1, 1) := by decide +kernel
theorem dX11_on_79 : decode cX11_on 79 = .ok (.iload 4, 2) := by decide +kernel
theorem dX11_on_81 : decode cX11_on 81 = .ok (.invokevirtual 109, 3) := by decide +kernel
theorem dX11_on_84 : decode cX11_on 84 = .ok (.ireturn, 1) := by decide +kernel
theorem dX11_on_85 : decode cX11_on 85 = .ok (.aload_n 0, 1) := by decide +kernel
theorem dX11_on_86 : decode cX11_on 86 = .ok (.getfield 77, 3) := by decide +kernel
theorem dX11_on_89 : decode cX11_on 89 = .ok (.aload_n 0, 1) := by decide +kernel
theorem dX11_on_90 : decode cX11_on 90 = .ok (.getfield 70, 3) := by decide +kernel
theorem dX11_on_93 : decode cX11_on 93 = .ok (.invokevirtual 195, 3) := by decide +kernel
theorem dX11_on_96 : decode cX11_on 96 = .ok (.aload_n 0, 1) := by decide +kernel
theorem dX11_on_97 : decode cX11_on 97 = .ok (.getfield 77, 3) := by decide +kernel
theorem dX11_on_100 : decode cX11_on 100 = .ok (.iload_n 1, 1) := by decide +kernel
theorem dX11_on_101 : decode cX11_on 101 = .ok (.invokevirtual 191, 3) := by decide +kernel
theorem dX11_on_104 : decode cX11_on 104 = .ok (.aload_n 0, 1) := by decide +kernel
theorem dX11_on_105 : decode cX11_on 105 = .ok (.getfield 77, 3) := by decide +kernel
theorem dX11_on_108 : decode cX11_on 108 = .ok (.getfield 120, 3) := by decide +kernel
theorem dX11_on_111 : decode cX11_on 111 = .ok (.iload 4, 2) := by decide +kernel
theorem dX11_on_113 : decode cX11_on 113 = .ok (.aaload, 1) := by decide +kernel
theorem dX11_on_114 : decode cX11_on 114 = .ok (.iconst 4, 1) := by decide +kernel
theorem dX11_on_115 : decode cX11_on 115 = .ok (.iaload, 1) := by decide +kernel
theorem dX11_on_116 : decode cX11_on 116 = .ok (.ireturn, 1) := by decide +kernel
theorem dX11_best_0 : decode cX11_best 0 = .ok (.iload_n 2, 1) := by decide +kernel
theorem dX11_best_1 : decode cX11_best 1 = .ok (.bipush (-2), 2) := by decide +kernel
theorem dX11_best_3 : decode cX11_best 3 = .ok (.if_icmp .lt 8, 3) := by decide +kernel
theorem dX11_best_6 : decode cX11_best 6 = .ok (.iload_n 2, 1) := by decide +kernel
theorem dX11_best_7 : decode cX11_best 7 = .ok (.iconst 3, 1) := by decide +kernel
theorem dX11_best_8 : decode cX11_best 8 = .ok (.if_icmp .lt 5, 3) := by decide +kernel
theorem dX11_best_11 : decode cX11_best 11 = .ok (.iconst (-1), 1) := by decide +kernel
theorem dX11_best_12 : decode cX11_best 12 = .ok (.ireturn, 1) := by decide +kernel
theorem dX11_best_13 : decode cX11_best 13 = .ok (.iload_n 1, 1) := by decide +kernel
theorem dX11_best_14 : decode cX11_best 14 = .ok (.iconst 1, 1) := by decide +kernel
theorem dX11_best_15 : decode cX11_best 15 = .ok (.if_icmp .lt 8, 3) := by decide +kernel
theorem dX11_best_18 : decode cX11_best 18 = .ok (.iload_n 1, 1) := by decide +kernel
theorem dX11_best_19 : decode cX11_best 19 = .ok (.iconst 3, 1) := by decide +kernel
theorem dX11_best_20 : decode cX11_best 20 = .ok (.if_icmp .le 6, 3) := by decide +kernel
theorem dX11_best_23 : decode cX11_best 23 = .ok (.bipush (-2), 2) := by decide +kernel
theorem dX11_best_25 : decode cX11_best 25 = .ok (.ireturn, 1) := by decide +kernel
theorem dX11_best_26 : decode cX11_best 26 = .ok (.aload_n 0, 1) := by decide +kernel
theorem dX11_best_27 : decode cX11_best 27 = .ok (.iload_n 1, 1) := by decide +kernel
theorem dX11_best_28 : decode cX11_best 28 = .ok (.invokevirtual 199, 3) := by decide +kernel
theorem dX11_best_31 : decode cX11_best 31 = .ok (.istore_n 3, 1) := by decide +kernel
theorem dX11_best_32 : decode cX11_best 32 = .ok (.iload_n 3, 1) := by decide +kernel
theorem dX11_best_33 : decode cX11_best 33 = .ok (.ifCond .lt 8, 3) := by decide +kernel
theorem dX11_best_36 : decode cX11_best 36 = .ok (.iload_n 2, 1) := by decide +kernel
theorem dX11_best_37 : decode cX11_best 37 = .ok (.iload_n 1, 1) := by decide +kernel
theorem dX11_best_38 : decode cX11_best 38 = .ok (.if_icmp .lt 6, 3) := by decide +kernel
theorem dX11_best_41 : decode cX11_best 41 = .ok (.bipush (-5), 2) := by decide +kernel
theorem dX11_best_43 : decode cX11_best 43 = .ok (.ireturn, 1) := by decide +kernel
theorem dX11_best_44 : decode cX11_best 44 = .ok (.aload_n 0, 1) := by decide +kernel
theorem dX11_best_45 : decode cX11_best 45 = .ok (.iload_n 3, 1) := by decide +kernel
theorem dX11_best_46 : decode cX11_best 46 = .ok (.iload_n 1, 1) := by decide +kernel
theorem dX11_best_47 : decode cX11_best 47 = .ok (.invokevirtual 202, 3) := by decide +kernel
theorem dX11_best_50 : decode cX11_best 50 = .ok (.iload_n 2, 1) := by decide +kernel
theorem dX11_best_51 : decode cX11_best 51 = .ok (.ifCond .lt 10, 3) := by decide +kernel
theorem dX11_best_54 : decode cX11_best 54 = .ok (.aload_n 0, 1) := by decide +kernel
theorem dX11_best_55 : decode cX11_best 55 = .ok (.getfield 25, 3) := by decide +kernel
theorem dX11_best_58 : decode cX11_best 58 = .ok (.iload_n 2, 1) := by decide +kernel
theorem dX11_best_59 : decode cX11_best 59 = .ok (.iaload, 1) := by decide +kernel
theorem dX11_best_60 : decode cX11_best 60 = .ok (.ireturn, 1) := by decide +kernel
theorem dX11_best_61 : decode cX11_best 61 = .ok (.aload_n 0, 1) := by decide +kernel
theorem dX11_best_62 : decode cX11_best 62 = .ok (.iload_n 1, 1) := by decide +kernel
theorem dX11_best_63 : decode cX11_best 63 = .ok (.invokevirtual 206, 3) := by decide +kernel
theorem dX11_best_66 : decode cX11_best 66 = .ok (.iload_n 2, 1) := by decide +kernel
theorem dX11_best_67 : decode cX11_best 67 = .ok (.bipush (-2), 2) := by decide +kernel
theorem dX11_best_69 : decode cX11_best 69 = .ok (.if_icmp .ne 16, 3) := by decide +kernel
theorem dX11_best_72 : decode cX11_best 72 = .ok (.aload_n 0, 1) := by decide +kernel
theorem dX11_best_73 : decode cX11_best 73 = .ok (.getfield 77, 3) := by decide +kernel
theorem dX11_best_76 : decode cX11_best 76 = .ok (.invokevirtual 182, 3) := by decide +kernel
theorem dX11_best_79 : decode cX11_best 79 = .ok (.invokestatic 209, 3) := by decide +kernel
theorem dX11_best_82 : decode cX11_best 82 = .ok (.goto 10, 3) := by decide +kernel
theorem dX11_best_85 : decode cX11_best 85 = .ok (.aload_n 0, 1) := by decide +kernel
theorem dX11_best_86 : decode cX11_best 86 = .ok (.getfield 77, 3) := by decide +kernel
theorem dX11_best_89 : decode cX11_best 89 = .ok (.invokevirtual 185, 3) := by decide +kernel
theorem dX11_best_92 : decode cX11_best 92 = .ok (.ireturn, 1) := by decide +kernel
theorem dX11_lightOn_0 : decode cX11_lightOn 0 = .ok (.aload_n 0, 1) := by decide +kernel
theorem dX11_lightOn_1 : decode cX11_lightOn 1 = .ok (.getfield 77, 3) := by decide +kernel
theorem dX11_lightOn_4 : decode cX11_lightOn 4 = .ok (.aload_n 0, 1) := by decide +kernel
theorem dX11_lightOn_5 : decode cX11_lightOn 5 = .ok (.getfield 70, 3) := by decide +kernel
theorem dX11_lightOn_8 : decode cX11_lightOn 8 = .ok (.invokevirtual 195, 3) := by decide +kernel
theorem dX11_lightOn_11 : decode cX11_lightOn 11 = .ok (.aload_n 0, 1) := by decide +kernel
theorem dX11_lightOn_12 : decode cX11_lightOn 12 = .ok (.getfield 77, 3) := by decide +kernel
theorem dX11_lightOn_15 : decode cX11_lightOn 15 = .ok (.iload_n 1, 1) := by decide +kernel
theorem dX11_lightOn_16 : decode cX11_lightOn 16 = .ok (.invokevirtual 191, 3) := by decide +kernel
theorem dX11_lightOn_19 : decode cX11_lightOn 19 = .ok (.aload_n 0, 1) := by decide +kernel
theorem dX11_lightOn_20 : decode cX11_lightOn 20 = .ok (.getfield 77, 3) := by decide +kernel
theorem dX11_lightOn_23 : decode cX11_lightOn 23 = .ok (.iload_n 2, 1) := by decide +kernel
theorem dX11_lightOn_24 : decode cX11_lightOn 24 = .ok (.invokevirtual 102, 3) := by decide +kernel
theorem dX11_lightOn_27 : decode cX11_lightOn 27 = .ok (.ireturn, 1) := by decide +kernel
theorem dX11_brightestMinutes_0 : decode cX11_brightestMinutes 0 = .ok (.aload_n 0, 1) := by decide +kernel
theorem dX11_brightestMinutes_1 : decode cX11_brightestMinutes 1 = .ok (.getfield 77, 3) := by decide +kernel
theorem dX11_brightestMinutes_4 : decode cX11_brightestMinutes 4 = .ok (.aload_n 0, 1) := by decide +kernel
theorem dX11_brightestMinutes_5 : decode cX11_brightestMinutes 5 = .ok (.getfield 70, 3) := by decide +kernel
theorem dX11_brightestMinutes_8 : decode cX11_brightestMinutes 8 = .ok (.invokevirtual 195, 3) := by decide +kernel
theorem dX11_brightestMinutes_11 : decode cX11_brightestMinutes 11 = .ok (.aload_n 0, 1) := by decide +kernel
theorem dX11_brightestMinutes_12 : decode cX11_brightestMinutes 12 = .ok (.getfield 77, 3) := by decide +kernel
theorem dX11_brightestMinutes_15 : decode cX11_brightestMinutes 15 = .ok (.iload_n 1, 1) := by decide +kernel
theorem dX11_brightestMinutes_16 : decode cX11_brightestMinutes 16 = .ok (.invokevirtual 102, 3) := by decide +kernel
theorem dX11_brightestMinutes_19 : decode cX11_brightestMinutes 19 = .ok (.istore_n 2, 1) := by decide +kernel
theorem dX11_brightestMinutes_20 : decode cX11_brightestMinutes 20 = .ok (.iconst 0, 1) := by decide +kernel
theorem dX11_brightestMinutes_21 : decode cX11_brightestMinutes 21 = .ok (.istore_n 3, 1) := by decide +kernel
theorem dX11_brightestMinutes_22 : decode cX11_brightestMinutes 22 = .ok (.iconst 1, 1) := by decide +kernel
theorem dX11_brightestMinutes_23 : decode cX11_brightestMinutes 23 = .ok (.istore 4, 2) := by decide +kernel
theorem dX11_brightestMinutes_25 : decode cX11_brightestMinutes 25 = .ok (.iload 4, 2) := by decide +kernel
theorem dX11_brightestMinutes_27 : decode cX11_brightestMinutes 27 = .ok (.bipush 20, 2) := by decide +kernel
theorem dX11_brightestMinutes_29 : decode cX11_brightestMinutes 29 = .ok (.if_icmp .gt 39, 3) := by decide +kernel
theorem dX11_brightestMinutes_32 : decode cX11_brightestMinutes 32 = .ok (.aload_n 0, 1) := by decide +kernel
theorem dX11_brightestMinutes_33 : decode cX11_brightestMinutes 33 = .ok (.getfield 77, 3) := by decide +kernel
theorem dX11_brightestMinutes_36 : decode cX11_brightestMinutes 36 = .ok (.iconst 1, 1) := by decide +kernel
theorem dX11_brightestMinutes_37 : decode cX11_brightestMinutes 37 = .ok (.invokevirtual 191, 3) := by decide +kernel
theorem dX11_brightestMinutes_40 : decode cX11_brightestMinutes 40 = .ok (.aload_n 0, 1) := by decide +kernel
theorem dX11_brightestMinutes_41 : decode cX11_brightestMinutes 41 = .ok (.getfield 77, 3) := by decide +kernel
theorem dX11_brightestMinutes_44 : decode cX11_brightestMinutes 44 = .ok (.iload_n 1, 1) := by decide +kernel
theorem dX11_brightestMinutes_45 : decode cX11_brightestMinutes 45 = .ok (.invokevirtual 102, 3) := by decide +kernel
theorem dX11_brightestMinutes_48 : decode cX11_brightestMinutes 48 = .ok (.istore 5, 2) := by decide +kernel
theorem dX11_brightestMinutes_50 : decode cX11_brightestMinutes 50 = .ok (.iload 5, 2) := by decide +kernel
theorem dX11_brightestMinutes_52 : decode cX11_brightestMinutes 52 = .ok (.iload_n 2, 1) := by decide +kernel
theorem dX11_brightestMinutes_53 : decode cX11_brightestMinutes 53 = .ok (.if_icmp .le 9, 3) := by decide +kernel
theorem dX11_brightestMinutes_56 : decode cX11_brightestMinutes 56 = .ok (.iload 5, 2) := by decide +kernel
theorem dX11_brightestMinutes_58 : decode cX11_brightestMinutes 58 = .ok (.istore_n 2, 1) := by decide +kernel
theorem dX11_brightestMinutes_59 : decode cX11_brightestMinutes 59 = .ok (.iload 4, 2) := by decide +kernel
theorem dX11_brightestMinutes_61 : decode cX11_brightestMinutes 61 = .ok (.istore_n 3, 1) := by decide +kernel
theorem dX11_brightestMinutes_62 : decode cX11_brightestMinutes 62 = .ok (.iinc 4 1, 3) := by decide +kernel
theorem dX11_brightestMinutes_65 : decode cX11_brightestMinutes 65 = .ok (.goto (-40), 3) := by decide +kernel
theorem dX11_brightestMinutes_68 : decode cX11_brightestMinutes 68 = .ok (.iload_n 3, 1) := by decide +kernel
theorem dX11_brightestMinutes_69 : decode cX11_brightestMinutes 69 = .ok (.ireturn, 1) := by decide +kernel
theorem dX11_bestRow_0 : decode cX11_bestRow 0 = .ok (.iconst 1, 1) := by decide +kernel
theorem dX11_bestRow_1 : decode cX11_bestRow 1 = .ok (.istore_n 2, 1) := by decide +kernel
theorem dX11_bestRow_2 : decode cX11_bestRow 2 = .ok (.iconst 0, 1) := by decide +kernel
theorem dX11_bestRow_3 : decode cX11_bestRow 3 = .ok (.istore_n 3, 1) := by decide +kernel
theorem dX11_bestRow_4 : decode cX11_bestRow 4 = .ok (.iload_n 3, 1) := by decide +kernel
theorem dX11_bestRow_5 : decode cX11_bestRow 5 = .ok (.iload_n 1, 1) := by decide +kernel
theorem dX11_bestRow_6 : decode cX11_bestRow 6 = .ok (.if_icmp .ge 14, 3) := by decide +kernel
theorem dX11_bestRow_9 : decode cX11_bestRow 9 = .ok (.iload_n 2, 1) := by decide +kernel
theorem dX11_bestRow_10 : decode cX11_bestRow 10 = .ok (.bipush 6, 2) := by decide +kernel
theorem dX11_bestRow_12 : decode cX11_bestRow 12 = .ok (.imul, 1) := by decide +kernel
theorem dX11_bestRow_13 : decode cX11_bestRow 13 = .ok (.istore_n 2, 1) := by decide +kernel
theorem dX11_bestRow_14 : decode cX11_bestRow 14 = .ok (.iinc 3 1, 3) := by decide +kernel
theorem dX11_bestRow_17 : decode cX11_bestRow 17 = .ok (.goto (-13), 3) := by decide +kernel
theorem dX11_bestRow_20 : decode cX11_bestRow 20 = .ok (.bipush (-5), 2) := by decide +kernel
theorem dX11_bestRow_22 : decode cX11_bestRow 22 = .ok (.istore_n 3, 1) := by decide +kernel
theorem dX11_bestRow_23 : decode cX11_bestRow 23 = .ok (.ldc 214, 2) := by decide +kernel
theorem dX11_bestRow_25 : decode cX11_bestRow 25 = .ok (.istore 4, 2) := by decide +kernel
theorem dX11_bestRow_27 : decode cX11_bestRow 27 = .ok (.iconst 0, 1) := by decide +kernel
theorem dX11_bestRow_28 : decode cX11_bestRow 28 = .ok (.istore 5, 2) := by decide +kernel
theorem dX11_bestRow_30 : decode cX11_bestRow 30 = .ok (.iload 5, 2) := by decide +kernel
theorem dX11_bestRow_32 : decode cX11_bestRow 32 = .ok (.iload_n 2, 1) := by decide +kernel
theorem dX11_bestRow_33 : decode cX11_bestRow 33 = .ok (.if_icmp .ge 52, 3) := by decide +kernel
theorem dX11_bestRow_36 : decode cX11_bestRow 36 = .ok (.aload_n 0, 1) := by decide +kernel
theorem dX11_bestRow_37 : decode cX11_bestRow 37 = .ok (.iload 5, 2) := by decide +kernel
theorem dX11_bestRow_39 : decode cX11_bestRow 39 = .ok (.iload_n 1, 1) := by decide +kernel
theorem dX11_bestRow_40 : decode cX11_bestRow 40 = .ok (.invokevirtual 202, 3) := by decide +kernel
theorem dX11_bestRow_43 : decode cX11_bestRow 43 = .ok (.aload_n 0, 1) := by decide +kernel
theorem dX11_bestRow_44 : decode cX11_bestRow 44 = .ok (.iload_n 1, 1) := by decide +kernel
theorem dX11_bestRow_45 : decode cX11_bestRow 45 = .ok (.invokevirtual 215, 3) := by decide +kernel
theorem dX11_bestRow_48 : decode cX11_bestRow 48 = .ok (.ifCond .eq 31, 3) := by decide +kernel
theorem dX11_bestRow_51 : decode cX11_bestRow 51 = .ok (.aload_n 0, 1) := by decide +kernel
theorem dX11_bestRow_52 : decode cX11_bestRow 52 = .ok (.iload_n 1, 1) := by decide +kernel
theorem dX11_bestRow_53 : decode cX11_bestRow 53 = .ok (.invokevirtual 206, 3) := by decide +kernel
theorem dX11_bestRow_56 : decode cX11_bestRow 56 = .ok (.aload_n 0, 1) := by decide +kernel
theorem dX11_bestRow_57 : decode cX11_bestRow 57 = .ok (.getfield 77, 3) := by decide +kernel
theorem dX11_bestRow_60 : decode cX11_bestRow 60 = .ok (.invokevirtual 218, 3) := by decide +kernel
theorem dX11_bestRow_63 : decode cX11_bestRow 63 = .ok (.istore 6, 2) := by decide +kernel
theorem dX11_bestRow_65 : decode cX11_bestRow 65 = .ok (.iload 6, 2) := by decide +kernel
theorem dX11_bestRow_67 : decode cX11_bestRow 67 = .ok (.iload 4, 2) := by decide +kernel
theorem dX11_bestRow_69 : decode cX11_bestRow 69 = .ok (.if_icmp .le 10, 3) := by decide +kernel
theorem dX11_bestRow_72 : decode cX11_bestRow 72 = .ok (.iload 6, 2) := by decide +kernel
theorem dX11_bestRow_74 : decode cX11_bestRow 74 = .ok (.istore 4, 2) := by decide +kernel
theorem dX11_bestRow_76 : decode cX11_bestRow 76 = .ok (.iload 5, 2) := by decide +kernel
theorem dX11_bestRow_78 : decode cX11_bestRow 78 = .ok (.istore_n 3, 1) := by decide +kernel
theorem dX11_bestRow_79 : decode cX11_bestRow 79 = .ok (.iinc 5 1, 3) := by decide +kernel
theorem dX11_bestRow_82 : decode cX11_bestRow 82 = .ok (.goto (-52), 3) := by decide +kernel
theorem dX11_bestRow_85 : decode cX11_bestRow 85 = .ok (.iload_n 3, 1) := by decide +kernel
theorem dX11_bestRow_86 : decode cX11_bestRow 86 = .ok (.ireturn, 1) := by decide +kernel
theorem dX11_orderOf_0 : decode cX11_orderOf 0 = .ok (.iload_n 1, 1) := by decide +kernel
theorem dX11_orderOf_1 : decode cX11_orderOf 1 = .ok (.istore_n 3, 1) := by decide +kernel
theorem dX11_orderOf_2 : decode cX11_orderOf 2 = .ok (.iload_n 2, 1) := by decide +kernel
theorem dX11_orderOf_3 : decode cX11_orderOf 3 = .ok (.iconst 1, 1) := by decide +kernel
theorem dX11_orderOf_4 : decode cX11_orderOf 4 = .ok (.isub, 1) := by decide +kernel
theorem dX11_orderOf_5 : decode cX11_orderOf 5 = .ok (.istore 4, 2) := by decide +kernel
theorem dX11_orderOf_7 : decode cX11_orderOf 7 = .ok (.iload 4, 2) := by decide +kernel
theorem dX11_orderOf_9 : decode cX11_orderOf 9 = .ok (.ifCond .lt 25, 3) := by decide +kernel
theorem dX11_orderOf_12 : decode cX11_orderOf 12 = .ok (.aload_n 0, 1) := by decide +kernel
theorem dX11_orderOf_13 : decode cX11_orderOf 13 = .ok (.getfield 25, 3) := by decide +kernel
theorem dX11_orderOf_16 : decode cX11_orderOf 16 = .ok (.iload 4, 2) := by decide +kernel
theorem dX11_orderOf_18 : decode cX11_orderOf 18 = .ok (.iload_n 3, 1) := by decide +kernel
theorem dX11_orderOf_19 : decode cX11_orderOf 19 = .ok (.bipush 6, 2) := by decide +kernel
theorem dX11_orderOf_21 : decode cX11_orderOf 21 = .ok (.irem, 1) := by decide +kernel
theorem dX11_orderOf_22 : decode cX11_orderOf 22 = .ok (.iastore, 1) := by decide +kernel
theorem dX11_orderOf_23 : decode cX11_orderOf 23 = .ok (.iload_n 3, 1) := by decide +kernel
theorem dX11_orderOf_24 : decode cX11_orderOf 24 = .ok (.bipush 6, 2) := by decide +kernel
theorem dX11_orderOf_26 : decode cX11_orderOf 26 = .ok (.idiv, 1) := by decide +kernel
theorem dX11_orderOf_27 : decode cX11_orderOf 27 = .ok (.istore_n 3, 1) := by decide +kernel
theorem dX11_orderOf_28 : decode cX11_orderOf 28 = .ok (.iinc 4 (-1), 3) := by decide +kernel
theorem dX11_orderOf_31 : decode cX11_orderOf 31 = .ok (.goto (-24), 3) := by decide +kernel
theorem dX11_orderOf_34 : decode cX11_orderOf 34 = .ok (.return_, 1) := by decide +kernel
theorem dX11_canLightOrder_0 : decode cX11_canLightOrder 0 = .ok (.aload_n 0, 1) := by decide +kernel
theorem dX11_canLightOrder_1 : decode cX11_canLightOrder 1 = .ok (.getfield 70, 3) := by decide +kernel
theorem dX11_canLightOrder_4 : decode cX11_canLightOrder 4 = .ok (.iconst 0, 1) := by decide +kernel
theorem dX11_canLightOrder_5 : decode cX11_canLightOrder 5 = .ok (.invokevirtual 188, 3) := by decide +kernel
theorem dX11_canLightOrder_8 : decode cX11_canLightOrder 8 = .ok (.istore_n 2, 1) := by decide +kernel
theorem dX11_canLightOrder_9 : decode cX11_canLightOrder 9 = .ok (.iconst 0, 1) := by decide +kernel
theorem dX11_canLightOrder_10 : decode cX11_canLightOrder 10 = .ok (.istore_n 3, 1) := by decide +kernel
theorem dX11_canLightOrder_11 : decode cX11_canLightOrder 11 = .ok (.iload_n 3, 1) := by decide +kernel
theorem dX11_canLightOrder_12 : decode cX11_canLightOrder 12 = .ok (.iload_n 1, 1) := by decide +kernel
theorem dX11_canLightOrder_13 : decode cX11_canLightOrder 13 = .ok (.if_icmp .ge 33, 3) := by decide +kernel
theorem dX11_canLightOrder_16 : decode cX11_canLightOrder 16 = .ok (.iconst 1, 1) := by decide +kernel
theorem dX11_canLightOrder_17 : decode cX11_canLightOrder 17 = .ok (.aload_n 0, 1) := by decide +kernel
theorem dX11_canLightOrder_18 : decode cX11_canLightOrder 18 = .ok (.getfield 25, 3) := by decide +kernel
theorem dX11_canLightOrder_21 : decode cX11_canLightOrder 21 = .ok (.iload_n 3, 1) := by decide +kernel
theorem dX11_canLightOrder_22 : decode cX11_canLightOrder 22 = .ok (.iaload, 1) := by decide +kernel
theorem dX11_canLightOrder_23 : decode cX11_canLightOrder 23 = .ok (.ishl, 1) := by decide +kernel
theorem dX11_canLightOrder_24 : decode cX11_canLightOrder 24 = .ok (.istore 4, 2) := by decide +kernel
theorem dX11_canLightOrder_26 : decode cX11_canLightOrder 26 = .ok (.iload_n 2, 1) := by decide +kernel
theorem dX11_canLightOrder_27 : decode cX11_canLightOrder 27 = .ok (.iload 4, 2) := by decide +kernel
theorem dX11_canLightOrder_29 : decode cX11_canLightOrder 29 = .ok (.iand, 1) := by decide +kernel
theorem dX11_canLightOrder_30 : decode cX11_canLightOrder 30 = .ok (.ifCond .ne 5, 3) := by decide +kernel
theorem dX11_canLightOrder_33 : decode cX11_canLightOrder 33 = .ok (.iconst 0, 1) := by decide +kernel
theorem dX11_canLightOrder_34 : decode cX11_canLightOrder 34 = .ok (.ireturn, 1) := by decide +kernel
theorem dX11_canLightOrder_35 : decode cX11_canLightOrder 35 = .ok (.iload_n 2, 1) := by decide +kernel
theorem dX11_canLightOrder_36 : decode cX11_canLightOrder 36 = .ok (.iload 4, 2) := by decide +kernel
theorem dX11_canLightOrder_38 : decode cX11_canLightOrder 38 = .ok (.ixor, 1) := by decide +kernel
theorem dX11_canLightOrder_39 : decode cX11_canLightOrder 39 = .ok (.istore_n 2, 1) := by decide +kernel
theorem dX11_canLightOrder_40 : decode cX11_canLightOrder 40 = .ok (.iinc 3 1, 3) := by decide +kernel
theorem dX11_canLightOrder_43 : decode cX11_canLightOrder 43 = .ok (.goto (-32), 3) := by decide +kernel
theorem dX11_canLightOrder_46 : decode cX11_canLightOrder 46 = .ok (.iconst 1, 1) := by decide +kernel
theorem dX11_canLightOrder_47 : decode cX11_canLightOrder 47 = .ok (.ireturn, 1) := by decide +kernel
theorem dX11_tryOrder_0 : decode cX11_tryOrder 0 = .ok (.aload_n 0, 1) := by decide +kernel
theorem dX11_tryOrder_1 : decode cX11_tryOrder 1 = .ok (.getfield 77, 3) := by decide +kernel
theorem dX11_tryOrder_4 : decode cX11_tryOrder 4 = .ok (.aload_n 0, 1) := by decide +kernel
theorem dX11_tryOrder_5 : decode cX11_tryOrder 5 = .ok (.getfield 70, 3) := by decide +kernel
theorem dX11_tryOrder_8 : decode cX11_tryOrder 8 = .ok (.invokevirtual 195, 3) := by decide +kernel
theorem dX11_tryOrder_11 : decode cX11_tryOrder 11 = .ok (.iconst 0, 1) := by decide +kernel
theorem dX11_tryOrder_12 : decode cX11_tryOrder 12 = .ok (.istore_n 2, 1) := by decide +kernel
theorem dX11_tryOrder_13 : decode cX11_tryOrder 13 = .ok (.iload_n 2, 1) := by decide +kernel
theorem dX11_tryOrder_14 : decode cX11_tryOrder 14 = .ok (.iload_n 1, 1) := by decide +kernel
theorem dX11_tryOrder_15 : decode cX11_tryOrder 15 = .ok (.if_icmp .ge 31, 3) := by decide +kernel
theorem dX11_tryOrder_18 : decode cX11_tryOrder 18 = .ok (.aload_n 0, 1) := by decide +kernel
theorem dX11_tryOrder_19 : decode cX11_tryOrder 19 = .ok (.getfield 77, 3) := by decide +kernel
theorem dX11_tryOrder_22 : decode cX11_tryOrder 22 = .ok (.aload_n 0, 1) := by decide +kernel
theorem dX11_tryOrder_23 : decode cX11_tryOrder 23 = .ok (.getfield 25, 3) := by decide +kernel
theorem dX11_tryOrder_26 : decode cX11_tryOrder 26 = .ok (.iload_n 2, 1) := by decide +kernel
theorem dX11_tryOrder_27 : decode cX11_tryOrder 27 = .ok (.iaload, 1) := by decide +kernel
theorem dX11_tryOrder_28 : decode cX11_tryOrder 28 = .ok (.invokevirtual 131, 3) := by decide +kernel
theorem dX11_tryOrder_31 : decode cX11_tryOrder 31 = .ok (.pop, 1) := by decide +kernel
theorem dX11_tryOrder_32 : decode cX11_tryOrder 32 = .ok (.aload_n 0, 1) := by decide +kernel
theorem dX11_tryOrder_33 : decode cX11_tryOrder 33 = .ok (.getfield 77, 3) := by decide +kernel
theorem dX11_tryOrder_36 : decode cX11_tryOrder 36 = .ok (.iconst 1, 1) := by decide +kernel
theorem dX11_tryOrder_37 : decode cX11_tryOrder 37 = .ok (.invokevirtual 191, 3) := by decide +kernel
theorem dX11_tryOrder_40 : decode cX11_tryOrder 40 = .ok (.iinc 2 1, 3) := by decide +kernel
theorem dX11_tryOrder_43 : decode cX11_tryOrder 43 = .ok (.goto (-30), 3) := by decide +kernel
theorem dX11_tryOrder_46 : decode cX11_tryOrder 46 = .ok (.return_, 1) := by decide +kernel
theorem dX11_enoughFor_0 : decode cX11_enoughFor 0 = .ok (.aload_n 0, 1) := by decide +kernel
theorem dX11_enoughFor_1 : decode cX11_enoughFor 1 = .ok (.getfield 70, 3) := by decide +kernel
theorem dX11_enoughFor_4 : decode cX11_enoughFor 4 = .ok (.iconst 0, 1) := by decide +kernel
theorem dX11_enoughFor_5 : decode cX11_enoughFor 5 = .ok (.invokevirtual 188, 3) := by decide +kernel
theorem dX11_enoughFor_8 : decode cX11_enoughFor 8 = .ok (.istore_n 2, 1) := by decide +kernel
theorem dX11_enoughFor_9 : decode cX11_enoughFor 9 = .ok (.bipush (-5), 2) := by decide +kernel
theorem dX11_enoughFor_11 : decode cX11_enoughFor 11 = .ok (.istore_n 3, 1) := by decide +kernel
theorem dX11_enoughFor_12 : decode cX11_enoughFor 12 = .ok (.bipush 7, 2) := by decide +kernel
theorem dX11_enoughFor_14 : decode cX11_enoughFor 14 = .ok (.istore 4, 2) := by decide +kernel
theorem dX11_enoughFor_16 : decode cX11_enoughFor 16 = .ok (.iconst 0, 1) := by decide +kernel
theorem dX11_enoughFor_17 : decode cX11_enoughFor 17 = .ok (.istore 5, 2) := by decide +kernel
theorem dX11_enoughFor_19 : decode cX11_enoughFor 19 = .ok (.iload 5, 2) := by decide +kernel
theorem dX11_enoughFor_21 : decode cX11_enoughFor 21 = .ok (.bipush 64, 2) := by decide +kernel
theorem dX11_enoughFor_23 : decode cX11_enoughFor 23 = .ok (.if_icmp .ge 71, 3) := by decide +kernel
theorem dX11_enoughFor_26 : decode cX11_enoughFor 26 = .ok (.iload 5, 2) := by decide +kernel
theorem dX11_enoughFor_28 : decode cX11_enoughFor 28 = .ok (.invokestatic 209, 3) := by decide +kernel
theorem dX11_enoughFor_31 : decode cX11_enoughFor 31 = .ok (.istore 6, 2) := by decide +kernel
theorem dX11_enoughFor_33 : decode cX11_enoughFor 33 = .ok (.iload 5, 2) := by decide +kernel
theorem dX11_enoughFor_35 : decode cX11_enoughFor 35 = .ok (.iload_n 2, 1) := by decide +kernel
theorem dX11_enoughFor_36 : decode cX11_enoughFor 36 = .ok (.iconst (-1), 1) := by decide +kernel
theorem dX11_enoughFor_37 : decode cX11_enoughFor 37 = .ok (.ixor, 1) := by decide +kernel
theorem dX11_enoughFor_38 : decode cX11_enoughFor 38 = .ok (.iand, 1) := by decide +kernel
theorem dX11_enoughFor_39 : decode cX11_enoughFor 39 = .ok (.ifCond .ne 49, 3) := by decide +kernel
theorem dX11_enoughFor_42 : decode cX11_enoughFor 42 = .ok (.iload 6, 2) := by decide +kernel
theorem dX11_enoughFor_44 : decode cX11_enoughFor 44 = .ok (.iload 4, 2) := by decide +kernel
theorem dX11_enoughFor_46 : decode cX11_enoughFor 46 = .ok (.if_icmp .ge 42, 3) := by decide +kernel
theorem dX11_enoughFor_49 : decode cX11_enoughFor 49 = .ok (.aload_n 0, 1) := by decide +kernel
theorem dX11_enoughFor_50 : decode cX11_enoughFor 50 = .ok (.getfield 77, 3) := by decide +kernel
theorem dX11_enoughFor_53 : decode cX11_enoughFor 53 = .ok (.aload_n 0, 1) := by decide +kernel
theorem dX11_enoughFor_54 : decode cX11_enoughFor 54 = .ok (.getfield 70, 3) := by decide +kernel
theorem dX11_enoughFor_57 : decode cX11_enoughFor 57 = .ok (.invokevirtual 195, 3) := by decide +kernel
theorem dX11_enoughFor_60 : decode cX11_enoughFor 60 = .ok (.aload_n 0, 1) := by decide +kernel
theorem dX11_enoughFor_61 : decode cX11_enoughFor 61 = .ok (.getfield 77, 3) := by decide +kernel
theorem dX11_enoughFor_64 : decode cX11_enoughFor 64 = .ok (.iload 5, 2) := by decide +kernel
theorem dX11_enoughFor_66 : decode cX11_enoughFor 66 = .ok (.invokevirtual 221, 3) := by decide +kernel
theorem dX11_enoughFor_69 : decode cX11_enoughFor 69 = .ok (.aload_n 0, 1) := by decide +kernel
theorem dX11_enoughFor_70 : decode cX11_enoughFor 70 = .ok (.getfield 77, 3) := by decide +kernel
theorem dX11_enoughFor_73 : decode cX11_enoughFor 73 = .ok (.getfield 134, 3) := by decide +kernel
theorem dX11_enoughFor_76 : decode cX11_enoughFor 76 = .ok (.iload_n 1, 1) := by decide +kernel
theorem dX11_enoughFor_77 : decode cX11_enoughFor 77 = .ok (.iaload, 1) := by decide +kernel
theorem dX11_enoughFor_78 : decode cX11_enoughFor 78 = .ok (.ifCond .ne 10, 3) := by decide +kernel
theorem dX11_enoughFor_81 : decode cX11_enoughFor 81 = .ok (.iload 5, 2) := by decide +kernel
theorem dX11_enoughFor_83 : decode cX11_enoughFor 83 = .ok (.istore_n 3, 1) := by decide +kernel
theorem dX11_enoughFor_84 : decode cX11_enoughFor 84 = .ok (.iload 6, 2) := by decide +kernel
theorem dX11_enoughFor_86 : decode cX11_enoughFor 86 = .ok (.istore 4, 2) := by decide +kernel
theorem dX11_enoughFor_88 : decode cX11_enoughFor 88 = .ok (.iinc 5 1, 3) := by decide +kernel
theorem dX11_enoughFor_91 : decode cX11_enoughFor 91 = .ok (.goto (-72), 3) := by decide +kernel
theorem dX11_enoughFor_94 : decode cX11_enoughFor 94 = .ok (.iload_n 3, 1) := by decide +kernel
theorem dX11_enoughFor_95 : decode cX11_enoughFor 95 = .ok (.ireturn, 1) := by decide +kernel
theorem dX11_giftTo_0 : decode cX11_giftTo 0 = .ok (.iconst 0, 1) := by decide +kernel
theorem dX11_giftTo_1 : decode cX11_giftTo 1 = .ok (.istore_n 2, 1) := by decide +kernel
theorem dX11_giftTo_2 : decode cX11_giftTo 2 = .ok (.ldc 214, 2) := by decide +kernel
theorem dX11_giftTo_4 : decode cX11_giftTo 4 = .ok (.istore_n 3, 1) := by decide +kernel
theorem dX11_giftTo_5 : decode cX11_giftTo 5 = .ok (.iconst 0, 1) := by decide +kernel
theorem dX11_giftTo_6 : decode cX11_giftTo 6 = .ok (.istore 4, 2) := by decide +kernel
theorem dX11_giftTo_8 : decode cX11_giftTo 8 = .ok (.iload 4, 2) := by decide +kernel
theorem dX11_giftTo_10 : decode cX11_giftTo 10 = .ok (.iconst 4, 1) := by decide +kernel
theorem dX11_giftTo_11 : decode cX11_giftTo 11 = .ok (.if_icmp .ge 69, 3) := by decide +kernel
theorem dX11_giftTo_14 : decode cX11_giftTo 14 = .ok (.aload_n 0, 1) := by decide +kernel
theorem dX11_giftTo_15 : decode cX11_giftTo 15 = .ok (.getfield 77, 3) := by decide +kernel
theorem dX11_giftTo_18 : decode cX11_giftTo 18 = .ok (.aload_n 0, 1) := by decide +kernel
theorem dX11_giftTo_19 : decode cX11_giftTo 19 = .ok (.getfield 70, 3) := by decide +kernel
theorem dX11_giftTo_22 : decode cX11_giftTo 22 = .ok (.invokevirtual 195, 3) := by decide +kernel
theorem dX11_giftTo_25 : decode cX11_giftTo 25 = .ok (.aload_n 0, 1) := by decide +kernel
theorem dX11_giftTo_26 : decode cX11_giftTo 26 = .ok (.getfield 77, 3) := by decide +kernel
theorem dX11_giftTo_29 : decode cX11_giftTo 29 = .ok (.getfield 120, 3) := by decide +kernel
theorem dX11_giftTo_32 : decode cX11_giftTo 32 = .ok (.iload_n 1, 1) := by decide +kernel
theorem dX11_giftTo_33 : decode cX11_giftTo 33 = .ok (.aaload, 1) := by decide +kernel
theorem dX11_giftTo_34 : decode cX11_giftTo 34 = .ok (.iconst 3, 1) := by decide +kernel
theorem dX11_giftTo_35 : decode cX11_giftTo 35 = .ok (.iload 4, 2) := by decide +kernel
theorem dX11_giftTo_37 : decode cX11_giftTo 37 = .ok (.iastore, 1) := by decide +kernel
theorem dX11_giftTo_38 : decode cX11_giftTo 38 = .ok (.aload_n 0, 1) := by decide +kernel
theorem dX11_giftTo_39 : decode cX11_giftTo 39 = .ok (.getfield 77, 3) := by decide +kernel
theorem dX11_giftTo_42 : decode cX11_giftTo 42 = .ok (.aload_n 0, 1) := by decide +kernel
theorem dX11_giftTo_43 : decode cX11_giftTo 43 = .ok (.getfield 70, 3) := by decide +kernel
theorem dX11_giftTo_46 : decode cX11_giftTo 46 = .ok (.iconst 0, 1) := by decide +kernel
theorem dX11_giftTo_47 : decode cX11_giftTo 47 = .ok (.invokevirtual 188, 3) := by decide +kernel
theorem dX11_giftTo_50 : decode cX11_giftTo 50 = .ok (.invokevirtual 221, 3) := by decide +kernel
theorem dX11_giftTo_53 : decode cX11_giftTo 53 = .ok (.aload_n 0, 1) := by decide +kernel
theorem dX11_giftTo_54 : decode cX11_giftTo 54 = .ok (.getfield 77, 3) := by decide +kernel
theorem dX11_giftTo_57 : decode cX11_giftTo 57 = .ok (.invokevirtual 218, 3) := by decide +kernel
theorem dX11_giftTo_60 : decode cX11_giftTo 60 = .ok (.istore 5, 2) := by decide +kernel
theorem dX11_giftTo_62 : decode cX11_giftTo 62 = .ok (.iload 5, 2) := by decide +kernel
theorem dX11_giftTo_64 : decode cX11_giftTo 64 = .ok (.iload_n 3, 1) := by decide +kernel
theorem dX11_giftTo_65 : decode cX11_giftTo 65 = .ok (.if_icmp .le 9, 3) := by decide +kernel
theorem dX11_giftTo_68 : decode cX11_giftTo 68 = .ok (.iload 5, 2) := by decide +kernel
theorem dX11_giftTo_70 : decode cX11_giftTo 70 = .ok (.istore_n 3, 1) := by decide +kernel
theorem dX11_giftTo_71 : decode cX11_giftTo 71 = .ok (.iload 4, 2) := by decide +kernel
theorem dX11_giftTo_73 : decode cX11_giftTo 73 = .ok (.istore_n 2, 1) := by decide +kernel
theorem dX11_giftTo_74 : decode cX11_giftTo 74 = .ok (.iinc 4 1, 3) := by decide +kernel
theorem dX11_giftTo_77 : decode cX11_giftTo 77 = .ok (.goto (-69), 3) := by decide +kernel
theorem dX11_giftTo_80 : decode cX11_giftTo 80 = .ok (.iload_n 2, 1) := by decide +kernel
theorem dX11_giftTo_81 : decode cX11_giftTo 81 = .ok (.ireturn, 1) := by decide +kernel
theorem dX11_mark_0 : decode cX11_mark 0 = .ok (.iload_n 1, 1) := by decide +kernel
theorem dX11_mark_1 : decode cX11_mark 1 = .ok (.iconst (-1), 1) := by decide +kernel
theorem dX11_mark_2 : decode cX11_mark 2 = .ok (.if_icmp .ne 13, 3) := by decide +kernel
theorem dX11_mark_5 : decode cX11_mark 5 = .ok (.aload_n 0, 1) := by decide +kernel
theorem dX11_mark_6 : decode cX11_mark 6 = .ok (.getfield 70, 3) := by decide +kernel
theorem dX11_mark_9 : decode cX11_mark 9 = .ok (.iconst 0, 1) := by decide +kernel
theorem dX11_mark_10 : decode cX11_mark 10 = .ok (.putfield 224, 3) := by decide +kernel
theorem dX11_mark_13 : decode cX11_mark 13 = .ok (.iconst 0, 1) := by decide +kernel
theorem dX11_mark_14 : decode cX11_mark 14 = .ok (.ireturn, 1) := by decide +kernel
theorem dX11_mark_15 : decode cX11_mark 15 = .ok (.aload_n 0, 1) := by decide +kernel
theorem dX11_mark_16 : decode cX11_mark 16 = .ok (.getfield 70, 3) := by decide +kernel
theorem dX11_mark_19 : decode cX11_mark 19 = .ok (.iload_n 1, 1) := by decide +kernel
theorem dX11_mark_20 : decode cX11_mark 20 = .ok (.invokevirtual 98, 3) := by decide +kernel
theorem dX11_mark_23 : decode cX11_mark 23 = .ok (.ifCond .ne 5, 3) := by decide +kernel
theorem dX11_mark_26 : decode cX11_mark 26 = .ok (.iconst (-1), 1) := by decide +kernel
theorem dX11_mark_27 : decode cX11_mark 27 = .ok (.ireturn, 1) := by decide +kernel
theorem dX11_mark_28 : decode cX11_mark 28 = .ok (.iload_n 2, 1) := by decide +kernel
theorem dX11_mark_29 : decode cX11_mark 29 = .ok (.bipush 12, 2) := by decide +kernel
theorem dX11_mark_31 : decode cX11_mark 31 = .ok (.invokestatic 86, 3) := by decide +kernel
theorem dX11_mark_34 : decode cX11_mark 34 = .ok (.ifCond .eq 13, 3) := by decide +kernel
theorem dX11_mark_37 : decode cX11_mark 37 = .ok (.iload_n 3, 1) := by decide +kernel
theorem dX11_mark_38 : decode cX11_mark 38 = .ok (.sipush 999, 3) := by decide +kernel
theorem dX11_mark_41 : decode cX11_mark 41 = .ok (.invokestatic 86, 3) := by decide +kernel
theorem dX11_mark_44 : decode cX11_mark 44 = .ok (.ifCond .ne 6, 3) := by decide +kernel
theorem dX11_mark_47 : decode cX11_mark 47 = .ok (.bipush (-2), 2) := by decide +kernel
theorem dX11_mark_49 : decode cX11_mark 49 = .ok (.ireturn, 1) := by decide +kernel
theorem dX11_mark_50 : decode cX11_mark 50 = .ok (.aload_n 0, 1) := by decide +kernel
theorem dX11_mark_51 : decode cX11_mark 51 = .ok (.getfield 70, 3) := by decide +kernel
theorem dX11_mark_54 : decode cX11_mark 54 = .ok (.getfield 224, 3) := by decide +kernel
theorem dX11_mark_57 : decode cX11_mark 57 = .ok (.iconst 5, 1) := by decide +kernel
theorem dX11_mark_58 : decode cX11_mark 58 = .ok (.if_icmp .lt 6, 3) := by decide +kernel
theorem dX11_mark_61 : decode cX11_mark 61 = .ok (.bipush (-4), 2) := by decide +kernel
theorem dX11_mark_63 : decode cX11_mark 63 = .ok (.ireturn, 1) := by decide +kernel
theorem dX11_mark_64 : decode cX11_mark 64 = .ok (.aload_n 0, 1) := by decide +kernel
theorem dX11_mark_65 : decode cX11_mark 65 = .ok (.getfield 70, 3) := by decide +kernel
theorem dX11_mark_68 : decode cX11_mark 68 = .ok (.getfield 227, 3) := by decide +kernel
theorem dX11_mark_71 : decode cX11_mark 71 = .ok (.aload_n 0, 1) := by decide +kernel
theorem dX11_mark_72 : decode cX11_mark 72 = .ok (.getfield 70, 3) := by decide +kernel
theorem dX11_mark_75 : decode cX11_mark 75 = .ok (.getfield 224, 3) := by decide +kernel
theorem dX11_mark_78 : decode cX11_mark 78 = .ok (.iload_n 1, 1) := by decide +kernel
theorem dX11_mark_79 : decode cX11_mark 79 = .ok (.iastore, 1) := by decide +kernel
theorem dX11_mark_80 : decode cX11_mark 80 = .ok (.aload_n 0, 1) := by decide +kernel
theorem dX11_mark_81 : decode cX11_mark 81 = .ok (.getfield 70, 3) := by decide +kernel
theorem dX11_mark_84 : decode cX11_mark 84 = .ok (.getfield 230, 3) := by decide +kernel
theorem dX11_mark_87 : decode cX11_mark 87 = .ok (.aload_n 0, 1) := by decide +kernel
theorem dX11_mark_88 : decode cX11_mark 88 = .ok (.getfield 70, 3) := by decide +kernel
theorem dX11_mark_91 : decode cX11_mark 91 = .ok (.getfield 224, 3) := by decide +kernel
theorem dX11_mark_94 : decode cX11_mark 94 = .ok (.iload_n 2, 1) := by decide +kernel
theorem dX11_mark_95 : decode cX11_mark 95 = .ok (.iastore, 1) := by decide +kernel
theorem dX11_mark_96 : decode cX11_mark 96 = .ok (.aload_n 0, 1) := by decide +kernel
theorem dX11_mark_97 : decode cX11_mark 97 = .ok (.getfield 70, 3) := by decide +kernel
theorem dX11_mark_100 : decode cX11_mark 100 = .ok (.getfield 233, 3) := by decide +kernel
theorem dX11_mark_103 : decode cX11_mark 103 = .ok (.aload_n 0, 1) := by decide +kernel
theorem dX11_mark_104 : decode cX11_mark 104 = .ok (.getfield 70, 3) := by decide +kernel
theorem dX11_mark_107 : decode cX11_mark 107 = .ok (.getfield 224, 3) := by decide +kernel
theorem dX11_mark_110 : decode cX11_mark 110 = .ok (.iload_n 3, 1) := by decide +kernel
theorem dX11_mark_111 : decode cX11_mark 111 = .ok (.iastore, 1) := by decide +kernel
theorem dX11_mark_112 : decode cX11_mark 112 = .ok (.aload_n 0, 1) := by decide +kernel
theorem dX11_mark_113 : decode cX11_mark 113 = .ok (.getfield 70, 3) := by decide +kernel
theorem dX11_mark_116 : decode cX11_mark 116 = .ok (.dup, 1) := by decide +kernel
theorem dX11_mark_117 : decode cX11_mark 117 = .ok (.getfield 224, 3) := by decide +kernel
theorem dX11_mark_120 : decode cX11_mark 120 = .ok (.iconst 1, 1) := by decide +kernel
theorem dX11_mark_121 : decode cX11_mark 121 = .ok (.iadd, 1) := by decide +kernel
theorem dX11_mark_122 : decode cX11_mark 122 = .ok (.putfield 224, 3) := by decide +kernel
theorem dX11_mark_125 : decode cX11_mark 125 = .ok (.aload_n 0, 1) := by decide +kernel
theorem dX11_mark_126 : decode cX11_mark 126 = .ok (.getfield 70, 3) := by decide +kernel
theorem dX11_mark_129 : decode cX11_mark 129 = .ok (.getfield 224, 3) := by decide +kernel
theorem dX11_mark_132 : decode cX11_mark 132 = .ok (.ireturn, 1) := by decide +kernel
end
section
theorem dX11_wrong_0 : decode cX11_wrong 0 = .ok (.iconst 0, 1) := by decide +kernel
theorem dX11_wrong_1 : decode cX11_wrong 1 = .ok (.istore_n 1, 1) := by decide +kernel
theorem dX11_wrong_2 : decode cX11_wrong 2 = .ok (.iload_n 1, 1) := by decide +kernel
theorem dX11_wrong_3 : decode cX11_wrong 3 = .ok (.aload_n 0, 1) := by decide +kernel
theorem dX11_wrong_4 : decode cX11_wrong 4 = .ok (.getfield 70, 3) := by decide +kernel
theorem dX11_wrong_7 : decode cX11_wrong 7 = .ok (.getfield 224, 3) := by decide +kernel
theorem dX11_wrong_10 : decode cX11_wrong 10 = .ok (.if_icmp .ge 39, 3) := by decide +kernel
theorem dX11_wrong_13 : decode cX11_wrong 13 = .ok (.aload_n 0, 1) := by decide +kernel
theorem dX11_wrong_14 : decode cX11_wrong 14 = .ok (.iload_n 1, 1) := by decide +kernel
theorem dX11_wrong_15 : decode cX11_wrong 15 = .ok (.iconst 2, 1) := by decide +kernel
theorem dX11_wrong_16 : decode cX11_wrong 16 = .ok (.aload_n 0, 1) := by decide +kernel
theorem dX11_wrong_17 : decode cX11_wrong 17 = .ok (.getfield 70, 3) := by decide +kernel
theorem dX11_wrong_20 : decode cX11_wrong 20 = .ok (.getfield 120, 3) := by decide +kernel
theorem dX11_wrong_23 : decode cX11_wrong 23 = .ok (.aload_n 0, 1) := by decide +kernel
theorem dX11_wrong_24 : decode cX11_wrong 24 = .ok (.getfield 70, 3) := by decide +kernel
theorem dX11_wrong_27 : decode cX11_wrong 27 = .ok (.getfield 227, 3) := by decide +kernel
theorem dX11_wrong_30 : decode cX11_wrong 30 = .ok (.iload_n 1, 1) := by decide +kernel
theorem dX11_wrong_31 : decode cX11_wrong 31 = .ok (.iaload, 1) := by decide +kernel
theorem dX11_wrong_32 : decode cX11_wrong 32 = .ok (.aaload, 1) := by decide +kernel
theorem dX11_wrong_33 : decode cX11_wrong 33 = .ok (.iconst 2, 1) := by decide +kernel
theorem dX11_wrong_34 : decode cX11_wrong 34 = .ok (.iaload, 1) := by decide +kernel
theorem dX11_wrong_35 : decode cX11_wrong 35 = .ok (.invokevirtual 236, 3) := by decide +kernel
theorem dX11_wrong_38 : decode cX11_wrong 38 = .ok (.ifCond .ne 5, 3) := by decide +kernel
theorem dX11_wrong_41 : decode cX11_wrong 41 = .ok (.iload_n 1, 1) := by decide +kernel
theorem dX11_wrong_42 : decode cX11_wrong 42 = .ok (.ireturn, 1) := by decide +kernel
theorem dX11_wrong_43 : decode cX11_wrong 43 = .ok (.iinc 1 1, 3) := by decide +kernel
theorem dX11_wrong_46 : decode cX11_wrong 46 = .ok (.goto (-44), 3) := by decide +kernel
theorem dX11_wrong_49 : decode cX11_wrong 49 = .ok (.bipush (-5), 2) := by decide +kernel
theorem dX11_wrong_51 : decode cX11_wrong 51 = .ok (.ireturn, 1) := by decide +kernel
theorem dX11_can_0 : decode cX11_can 0 = .ok (.aload_n 0, 1) := by decide +kernel
theorem dX11_can_1 : decode cX11_can 1 = .ok (.getfield 70, 3) := by decide +kernel
theorem dX11_can_4 : decode cX11_can 4 = .ok (.iload_n 1, 1) := by decide +kernel
theorem dX11_can_5 : decode cX11_can 5 = .ok (.invokevirtual 98, 3) := by decide +kernel
theorem dX11_can_8 : decode cX11_can 8 = .ok (.ifCond .eq 11, 3) := by decide +kernel
theorem dX11_can_11 : decode cX11_can 11 = .ok (.iload_n 2, 1) := by decide +kernel
theorem dX11_can_12 : decode cX11_can 12 = .ok (.iconst 1, 1) := by decide +kernel
theorem dX11_can_13 : decode cX11_can 13 = .ok (.invokestatic 86, 3) := by decide +kernel
theorem dX11_can_16 : decode cX11_can 16 = .ok (.ifCond .ne 5, 3) := by decide +kernel
theorem dX11_can_19 : decode cX11_can 19 = .ok (.iconst (-1), 1) := by decide +kernel
theorem dX11_can_20 : decode cX11_can 20 = .ok (.ireturn, 1) := by decide +kernel
theorem dX11_can_21 : decode cX11_can 21 = .ok (.aload_n 0, 1) := by decide +kernel
theorem dX11_can_22 : decode cX11_can 22 = .ok (.iload_n 1, 1) := by decide +kernel
theorem dX11_can_23 : decode cX11_can 23 = .ok (.iconst 1, 1) := by decide +kernel
theorem dX11_can_24 : decode cX11_can 24 = .ok (.bipush 9, 2) := by decide +kernel
theorem dX11_can_26 : decode cX11_can 26 = .ok (.invokevirtual 116, 3) := by decide +kernel
theorem dX11_can_29 : decode cX11_can 29 = .ok (.istore_n 3, 1) := by decide +kernel
theorem dX11_can_30 : decode cX11_can 30 = .ok (.iload_n 2, 1) := by decide +kernel
theorem dX11_can_31 : decode cX11_can 31 = .ok (.ifCond .ne 8, 3) := by decide +kernel
theorem dX11_can_34 : decode cX11_can 34 = .ok (.iload_n 3, 1) := by decide +kernel
theorem dX11_can_35 : decode cX11_can 35 = .ok (.invokestatic 209, 3) := by decide +kernel
theorem dX11_can_38 : decode cX11_can 38 = .ok (.ireturn, 1) := by decide +kernel
theorem dX11_can_39 : decode cX11_can 39 = .ok (.iload_n 3, 1) := by decide +kernel
theorem dX11_can_40 : decode cX11_can 40 = .ok (.ifCond .ne 8, 3) := by decide +kernel
theorem dX11_can_43 : decode cX11_can 43 = .ok (.bipush (-5), 2) := by decide +kernel
theorem dX11_can_45 : decode cX11_can 45 = .ok (.goto 7, 3) := by decide +kernel
theorem dX11_can_48 : decode cX11_can 48 = .ok (.iload_n 3, 1) := by decide +kernel
theorem dX11_can_49 : decode cX11_can 49 = .ok (.invokestatic 240, 3) := by decide +kernel
theorem dX11_can_52 : decode cX11_can 52 = .ok (.ireturn, 1) := by decide +kernel
theorem dX11_odds_0 : decode cX11_odds 0 = .ok (.aload_n 0, 1) := by decide +kernel
theorem dX11_odds_1 : decode cX11_odds 1 = .ok (.getfield 70, 3) := by decide +kernel
theorem dX11_odds_4 : decode cX11_odds 4 = .ok (.iload_n 1, 1) := by decide +kernel
theorem dX11_odds_5 : decode cX11_odds 5 = .ok (.invokevirtual 98, 3) := by decide +kernel
theorem dX11_odds_8 : decode cX11_odds 8 = .ok (.ifCond .eq 11, 3) := by decide +kernel
theorem dX11_odds_11 : decode cX11_odds 11 = .ok (.iload_n 2, 1) := by decide +kernel
theorem dX11_odds_12 : decode cX11_odds 12 = .ok (.iconst 1, 1) := by decide +kernel
theorem dX11_odds_13 : decode cX11_odds 13 = .ok (.invokestatic 86, 3) := by decide +kernel
theorem dX11_odds_16 : decode cX11_odds 16 = .ok (.ifCond .ne 7, 3) := by decide +kernel
theorem dX11_odds_19 : decode cX11_odds 19 = .ok (.ldc2_w 243, 3) := by decide +kernel
theorem dX11_odds_22 : decode cX11_odds 22 = .ok (.lreturn, 1) := by decide +kernel
theorem dX11_odds_23 : decode cX11_odds 23 = .ok (.iconst 0, 1) := by decide +kernel
theorem dX11_odds_24 : decode cX11_odds 24 = .ok (.istore_n 3, 1) := by decide +kernel
theorem dX11_odds_25 : decode cX11_odds 25 = .ok (.iconst 0, 1) := by decide +kernel
theorem dX11_odds_26 : decode cX11_odds 26 = .ok (.istore 4, 2) := by decide +kernel
theorem dX11_odds_28 : decode cX11_odds 28 = .ok (.iload 4, 2) := by decide +kernel
theorem dX11_odds_30 : decode cX11_odds 30 = .ok (.bipush 9, 2) := by decide +kernel
theorem dX11_odds_32 : decode cX11_odds 32 = .ok (.if_icmp .gt 61, 3) := by decide +kernel
theorem dX11_odds_35 : decode cX11_odds 35 = .ok (.aload_n 0, 1) := by decide +kernel
theorem dX11_odds_36 : decode cX11_odds 36 = .ok (.getfield 77, 3) := by decide +kernel
theorem dX11_odds_39 : decode cX11_odds 39 = .ok (.aload_n 0, 1) := by decide +kernel
theorem dX11_odds_40 : decode cX11_odds 40 = .ok (.getfield 70, 3) := by decide +kernel
theorem dX11_odds_43 : decode cX11_odds 43 = .ok (.invokevirtual 195, 3) := by decide +kernel
theorem dX11_odds_46 : decode cX11_odds 46 = .ok (.aload_n 0, 1) := by decide +kernel
theorem dX11_odds_47 : decode cX11_odds 47 = .ok (.getfield 77, 3) := by decide +kernel
theorem dX11_odds_50 : decode cX11_odds 50 = .ok (.getfield 137, 3) := by decide +kernel
theorem dX11_odds_53 : decode cX11_odds 53 = .ok (.aload_n 0, 1) := by decide +kernel
theorem dX11_odds_54 : decode cX11_odds 54 = .ok (.getfield 70, 3) := by decide +kernel
theorem dX11_odds_57 : decode cX11_odds 57 = .ok (.getfield 176, 3) := by decide +kernel
theorem dX11_odds_60 : decode cX11_odds 60 = .ok (.iconst 4, 1) := by decide +kernel
theorem dX11_odds_61 : decode cX11_odds 61 = .ok (.irem, 1) := by decide +kernel
theorem dX11_odds_62 : decode cX11_odds 62 = .ok (.iload 4, 2) := by decide +kernel
theorem dX11_odds_64 : decode cX11_odds 64 = .ok (.iastore, 1) := by decide +kernel
theorem dX11_odds_65 : decode cX11_odds 65 = .ok (.aload_n 0, 1) := by decide +kernel
theorem dX11_odds_66 : decode cX11_odds 66 = .ok (.getfield 77, 3) := by decide +kernel
theorem dX11_odds_69 : decode cX11_odds 69 = .ok (.iconst 1, 1) := by decide +kernel
theorem dX11_odds_70 : decode cX11_odds 70 = .ok (.invokevirtual 191, 3) := by decide +kernel
theorem dX11_odds_73 : decode cX11_odds 73 = .ok (.aload_n 0, 1) := by decide +kernel
theorem dX11_odds_74 : decode cX11_odds 74 = .ok (.getfield 77, 3) := by decide +kernel
theorem dX11_odds_77 : decode cX11_odds 77 = .ok (.iload_n 1, 1) := by decide +kernel
theorem dX11_odds_78 : decode cX11_odds 78 = .ok (.invokevirtual 102, 3) := by decide +kernel
theorem dX11_odds_81 : decode cX11_odds 81 = .ok (.ifCond .le 6, 3) := by decide +kernel
theorem dX11_odds_84 : decode cX11_odds 84 = .ok (.iinc 3 1, 3) := by decide +kernel
theorem dX11_odds_87 : decode cX11_odds 87 = .ok (.iinc 4 1, 3) := by decide +kernel
theorem dX11_odds_90 : decode cX11_odds 90 = .ok (.goto (-62), 3) := by decide +kernel
theorem dX11_odds_93 : decode cX11_odds 93 = .ok (.iload_n 3, 1) := by decide +kernel
theorem dX11_odds_94 : decode cX11_odds 94 = .ok (.bipush 10, 2) := by decide +kernel
theorem dX11_odds_96 : decode cX11_odds 96 = .ok (.iload_n 2, 1) := by decide +kernel
theorem dX11_odds_97 : decode cX11_odds 97 = .ok (.invokestatic 245, 3) := by decide +kernel
theorem dX11_odds_100 : decode cX11_odds 100 = .ok (.lreturn, 1) := by decide +kernel
theorem dX11_mean_0 : decode cX11_mean 0 = .ok (.iconst 4, 1) := by decide +kernel
theorem dX11_mean_1 : decode cX11_mean 1 = .ok (.aload_n 0, 1) := by decide +kernel
theorem dX11_mean_2 : decode cX11_mean 2 = .ok (.getfield 70, 3) := by decide +kernel
theorem dX11_mean_5 : decode cX11_mean 5 = .ok (.invokevirtual 182, 3) := by decide +kernel
theorem dX11_mean_8 : decode cX11_mean 8 = .ok (.invokestatic 209, 3) := by decide +kernel
theorem dX11_mean_11 : decode cX11_mean 11 = .ok (.isub, 1) := by decide +kernel
theorem dX11_mean_12 : decode cX11_mean 12 = .ok (.istore_n 2, 1) := by decide +kernel
theorem dX11_mean_13 : decode cX11_mean 13 = .ok (.iload_n 1, 1) := by decide +kernel
theorem dX11_mean_14 : decode cX11_mean 14 = .ok (.iconst 1, 1) := by decide +kernel
theorem dX11_mean_15 : decode cX11_mean 15 = .ok (.invokestatic 86, 3) := by decide +kernel
theorem dX11_mean_18 : decode cX11_mean 18 = .ok (.ifCond .eq 7, 3) := by decide +kernel
theorem dX11_mean_21 : decode cX11_mean 21 = .ok (.iload_n 2, 1) := by decide +kernel
theorem dX11_mean_22 : decode cX11_mean 22 = .ok (.ifCond .ne 7, 3) := by decide +kernel
theorem dX11_mean_25 : decode cX11_mean 25 = .ok (.ldc2_w 243, 3) := by decide +kernel
theorem dX11_mean_28 : decode cX11_mean 28 = .ok (.lreturn, 1) := by decide +kernel
theorem dX11_mean_29 : decode cX11_mean 29 = .ok (.aload_n 0, 1) := by decide +kernel
theorem dX11_mean_30 : decode cX11_mean 30 = .ok (.getfield 70, 3) := by decide +kernel
theorem dX11_mean_33 : decode cX11_mean 33 = .ok (.invokevirtual 185, 3) := by decide +kernel
theorem dX11_mean_36 : decode cX11_mean 36 = .ok (.iload_n 2, 1) := by decide +kernel
theorem dX11_mean_37 : decode cX11_mean 37 = .ok (.iload_n 1, 1) := by decide +kernel
theorem dX11_mean_38 : decode cX11_mean 38 = .ok (.invokestatic 245, 3) := by decide +kernel
theorem dX11_mean_41 : decode cX11_mean 41 = .ok (.lreturn, 1) := by decide +kernel
theorem dX11_fitting_0 : decode cX11_fitting 0 = .ok (.iconst 0, 1) := by decide +kernel
theorem dX11_fitting_1 : decode cX11_fitting 1 = .ok (.istore 4, 2) := by decide +kernel
theorem dX11_fitting_3 : decode cX11_fitting 3 = .ok (.iconst 0, 1) := by decide +kernel
theorem dX11_fitting_4 : decode cX11_fitting 4 = .ok (.istore 5, 2) := by decide +kernel
theorem dX11_fitting_6 : decode cX11_fitting 6 = .ok (.iload 5, 2) := by decide +kernel
theorem dX11_fitting_8 : decode cX11_fitting 8 = .ok (.iload_n 3, 1) := by decide +kernel
theorem dX11_fitting_9 : decode cX11_fitting 9 = .ok (.if_icmp .gt 29, 3) := by decide +kernel
theorem dX11_fitting_12 : decode cX11_fitting 12 = .ok (.aload_n 0, 1) := by decide +kernel
theorem dX11_fitting_13 : decode cX11_fitting 13 = .ok (.iload_n 1, 1) := by decide +kernel
theorem dX11_fitting_14 : decode cX11_fitting 14 = .ok (.iload_n 2, 1) := by decide +kernel
theorem dX11_fitting_15 : decode cX11_fitting 15 = .ok (.iload 5, 2) := by decide +kernel
theorem dX11_fitting_17 : decode cX11_fitting 17 = .ok (.invokevirtual 249, 3) := by decide +kernel
theorem dX11_fitting_20 : decode cX11_fitting 20 = .ok (.ifCond .eq 12, 3) := by decide +kernel
theorem dX11_fitting_23 : decode cX11_fitting 23 = .ok (.iload 4, 2) := by decide +kernel
theorem dX11_fitting_25 : decode cX11_fitting 25 = .ok (.iconst 1, 1) := by decide +kernel
theorem dX11_fitting_26 : decode cX11_fitting 26 = .ok (.iload 5, 2) := by decide +kernel
theorem dX11_fitting_28 : decode cX11_fitting 28 = .ok (.ishl, 1) := by decide +kernel
theorem dX11_fitting_29 : decode cX11_fitting 29 = .ok (.ior, 1) := by decide +kernel
theorem dX11_fitting_30 : decode cX11_fitting 30 = .ok (.istore 4, 2) := by decide +kernel
theorem dX11_fitting_32 : decode cX11_fitting 32 = .ok (.iinc 5 1, 3) := by decide +kernel
theorem dX11_fitting_35 : decode cX11_fitting 35 = .ok (.goto (-29), 3) := by decide +kernel
theorem dX11_fitting_38 : decode cX11_fitting 38 = .ok (.iload 4, 2) := by decide +kernel
theorem dX11_fitting_40 : decode cX11_fitting 40 = .ok (.ireturn, 1) := by decide +kernel
theorem dX11_areMarksSo_0 : decode cX11_areMarksSo 0 = .ok (.iconst 0, 1) := by decide +kernel
theorem dX11_areMarksSo_1 : decode cX11_areMarksSo 1 = .ok (.istore 4, 2) := by decide +kernel
theorem dX11_areMarksSo_3 : decode cX11_areMarksSo 3 = .ok (.iload 4, 2) := by decide +kernel
theorem dX11_areMarksSo_5 : decode cX11_areMarksSo 5 = .ok (.aload_n 0, 1) := by decide +kernel
theorem dX11_areMarksSo_6 : decode cX11_areMarksSo 6 = .ok (.getfield 70, 3) := by decide +kernel
theorem dX11_areMarksSo_9 : decode cX11_areMarksSo 9 = .ok (.getfield 224, 3) := by decide +kernel
theorem dX11_areMarksSo_12 : decode cX11_areMarksSo 12 = .ok (.if_icmp .ge 36, 3) := by decide +kernel
theorem dX11_areMarksSo_15 : decode cX11_areMarksSo 15 = .ok (.aload_n 0, 1) := by decide +kernel
theorem dX11_areMarksSo_16 : decode cX11_areMarksSo 16 = .ok (.getfield 70, 3) := by decide +kernel
theorem dX11_areMarksSo_19 : decode cX11_areMarksSo 19 = .ok (.getfield 227, 3) := by decide +kernel
theorem dX11_areMarksSo_22 : decode cX11_areMarksSo 22 = .ok (.iload 4, 2) := by decide +kernel
theorem dX11_areMarksSo_24 : decode cX11_areMarksSo 24 = .ok (.iaload, 1) := by decide +kernel
theorem dX11_areMarksSo_25 : decode cX11_areMarksSo 25 = .ok (.iload_n 1, 1) := by decide +kernel
theorem dX11_areMarksSo_26 : decode cX11_areMarksSo 26 = .ok (.if_icmp .ne 16, 3) := by decide +kernel
theorem dX11_areMarksSo_29 : decode cX11_areMarksSo 29 = .ok (.aload_n 0, 1) := by decide +kernel
theorem dX11_areMarksSo_30 : decode cX11_areMarksSo 30 = .ok (.iload 4, 2) := by decide +kernel
theorem dX11_areMarksSo_32 : decode cX11_areMarksSo 32 = .ok (.iload_n 2, 1) := by decide +kernel
theorem dX11_areMarksSo_33 : decode cX11_areMarksSo 33 = .ok (.iload_n 3, 1) := by decide +kernel
theorem dX11_areMarksSo_34 : decode cX11_areMarksSo 34 = .ok (.invokevirtual 236, 3) := by decide +kernel
theorem dX11_areMarksSo_37 : decode cX11_areMarksSo 37 = .ok (.ifCond .ne 5, 3) := by decide +kernel
theorem dX11_areMarksSo_40 : decode cX11_areMarksSo 40 = .ok (.iconst 0, 1) := by decide +kernel
theorem dX11_areMarksSo_41 : decode cX11_areMarksSo 41 = .ok (.ireturn, 1) := by decide +kernel
theorem dX11_areMarksSo_42 : decode cX11_areMarksSo 42 = .ok (.iinc 4 1, 3) := by decide +kernel
theorem dX11_areMarksSo_45 : decode cX11_areMarksSo 45 = .ok (.goto (-42), 3) := by decide +kernel
theorem dX11_areMarksSo_48 : decode cX11_areMarksSo 48 = .ok (.iconst 1, 1) := by decide +kernel
theorem dX11_areMarksSo_49 : decode cX11_areMarksSo 49 = .ok (.ireturn, 1) := by decide +kernel
theorem dX11_isMarkSo_0 : decode cX11_isMarkSo 0 = .ok (.aload_n 0, 1) := by decide +kernel
theorem dX11_isMarkSo_1 : decode cX11_isMarkSo 1 = .ok (.getfield 70, 3) := by decide +kernel
theorem dX11_isMarkSo_4 : decode cX11_isMarkSo 4 = .ok (.getfield 227, 3) := by decide +kernel
theorem dX11_isMarkSo_7 : decode cX11_isMarkSo 7 = .ok (.iload_n 1, 1) := by decide +kernel
theorem dX11_isMarkSo_8 : decode cX11_isMarkSo 8 = .ok (.iaload, 1) := by decide +kernel
theorem dX11_isMarkSo_9 : decode cX11_isMarkSo 9 = .ok (.istore 4, 2) := by decide +kernel
theorem dX11_isMarkSo_11 : decode cX11_isMarkSo 11 = .ok (.aload_n 0, 1) := by decide +kernel
theorem dX11_isMarkSo_12 : decode cX11_isMarkSo 12 = .ok (.getfield 77, 3) := by decide +kernel
theorem dX11_isMarkSo_15 : decode cX11_isMarkSo 15 = .ok (.aload_n 0, 1) := by decide +kernel
theorem dX11_isMarkSo_16 : decode cX11_isMarkSo 16 = .ok (.getfield 70, 3) := by decide +kernel
theorem dX11_isMarkSo_19 : decode cX11_isMarkSo 19 = .ok (.invokevirtual 195, 3) := by decide +kernel
theorem dX11_isMarkSo_22 : decode cX11_isMarkSo 22 = .ok (.aload_n 0, 1) := by decide +kernel
theorem dX11_isMarkSo_23 : decode cX11_isMarkSo 23 = .ok (.getfield 77, 3) := by decide +kernel
theorem dX11_isMarkSo_26 : decode cX11_isMarkSo 26 = .ok (.getfield 120, 3) := by decide +kernel
theorem dX11_isMarkSo_29 : decode cX11_isMarkSo 29 = .ok (.iload 4, 2) := by decide +kernel
theorem dX11_isMarkSo_31 : decode cX11_isMarkSo 31 = .ok (.aaload, 1) := by decide +kernel
theorem dX11_isMarkSo_32 : decode cX11_isMarkSo 32 = .ok (.iload_n 2, 1) := by decide +kernel
theorem dX11_isMarkSo_33 : decode cX11_isMarkSo 33 = .ok (.iload_n 3, 1) := by decide +kernel
theorem dX11_isMarkSo_34 : decode cX11_isMarkSo 34 = .ok (.iastore, 1) := by decide +kernel
theorem dX11_isMarkSo_35 : decode cX11_isMarkSo 35 = .ok (.aload_n 0, 1) := by decide +kernel
theorem dX11_isMarkSo_36 : decode cX11_isMarkSo 36 = .ok (.getfield 77, 3) := by decide +kernel
theorem dX11_isMarkSo_39 : decode cX11_isMarkSo 39 = .ok (.aload_n 0, 1) := by decide +kernel
theorem dX11_isMarkSo_40 : decode cX11_isMarkSo 40 = .ok (.getfield 70, 3) := by decide +kernel
theorem dX11_isMarkSo_43 : decode cX11_isMarkSo 43 = .ok (.getfield 230, 3) := by decide +kernel
theorem dX11_isMarkSo_46 : decode cX11_isMarkSo 46 = .ok (.iload_n 1, 1) := by decide +kernel
theorem dX11_isMarkSo_47 : decode cX11_isMarkSo 47 = .ok (.iaload, 1) := by decide +kernel
theorem dX11_isMarkSo_48 : decode cX11_isMarkSo 48 = .ok (.invokevirtual 191, 3) := by decide +kernel
theorem dX11_isMarkSo_51 : decode cX11_isMarkSo 51 = .ok (.iconst 0, 1) := by decide +kernel
theorem dX11_isMarkSo_52 : decode cX11_isMarkSo 52 = .ok (.aload_n 0, 1) := by decide +kernel
theorem dX11_isMarkSo_53 : decode cX11_isMarkSo 53 = .ok (.getfield 77, 3) := by decide +kernel
theorem dX11_isMarkSo_56 : decode cX11_isMarkSo 56 = .ok (.iload 4, 2) := by decide +kernel
theorem dX11_isMarkSo_58 : decode cX11_isMarkSo 58 = .ok (.invokevirtual 102, 3) := by decide +kernel
theorem dX11_isMarkSo_61 : decode cX11_isMarkSo 61 = .ok (.invokestatic 252, 3) := by decide +kernel
theorem dX11_isMarkSo_64 : decode cX11_isMarkSo 64 = .ok (.aload_n 0, 1) := by decide +kernel
theorem dX11_isMarkSo_65 : decode cX11_isMarkSo 65 = .ok (.getfield 70, 3) := by decide +kernel
theorem dX11_isMarkSo_68 : decode cX11_isMarkSo 68 = .ok (.getfield 233, 3) := by decide +kernel
theorem dX11_isMarkSo_71 : decode cX11_isMarkSo 71 = .ok (.iload_n 1, 1) := by decide +kernel
theorem dX11_isMarkSo_72 : decode cX11_isMarkSo 72 = .ok (.iaload, 1) := by decide +kernel
theorem dX11_isMarkSo_73 : decode cX11_isMarkSo 73 = .ok (.if_icmp .ne 7, 3) := by decide +kernel
theorem dX11_isMarkSo_76 : decode cX11_isMarkSo 76 = .ok (.iconst 1, 1) := by decide +kernel
theorem dX11_isMarkSo_77 : decode cX11_isMarkSo 77 = .ok (.goto 4, 3) := by decide +kernel
theorem dX11_isMarkSo_80 : decode cX11_isMarkSo 80 = .ok (.iconst 0, 1) := by decide +kernel
theorem dX11_isMarkSo_81 : decode cX11_isMarkSo 81 = .ok (.ireturn, 1) := by decide +kernel
theorem dX11_inLowestTerms_0 : decode cX11_inLowestTerms 0 = .ok (.iload_n 1, 1) := by decide +kernel
theorem dX11_inLowestTerms_1 : decode cX11_inLowestTerms 1 = .ok (.istore_n 3, 1) := by decide +kernel
theorem dX11_inLowestTerms_2 : decode cX11_inLowestTerms 2 = .ok (.iload_n 0, 1) := by decide +kernel
theorem dX11_inLowestTerms_3 : decode cX11_inLowestTerms 3 = .ok (.istore 4, 2) := by decide +kernel
theorem dX11_inLowestTerms_5 : decode cX11_inLowestTerms 5 = .ok (.iconst 0, 1) := by decide +kernel
theorem dX11_inLowestTerms_6 : decode cX11_inLowestTerms 6 = .ok (.istore 5, 2) := by decide +kernel
theorem dX11_inLowestTerms_8 : decode cX11_inLowestTerms 8 = .ok (.iload 5, 2) := by decide +kernel
theorem dX11_inLowestTerms_10 : decode cX11_inLowestTerms 10 = .ok (.bipush 64, 2) := by decide +kernel
theorem dX11_inLowestTerms_12 : decode cX11_inLowestTerms 12 = .ok (.if_icmp .ge 27, 3) := by decide +kernel
theorem dX11_inLowestTerms_15 : decode cX11_inLowestTerms 15 = .ok (.iload 4, 2) := by decide +kernel
theorem dX11_inLowestTerms_17 : decode cX11_inLowestTerms 17 = .ok (.ifCond .eq 22, 3) := by decide +kernel
theorem dX11_inLowestTerms_20 : decode cX11_inLowestTerms 20 = .ok (.iload_n 3, 1) := by decide +kernel
theorem dX11_inLowestTerms_21 : decode cX11_inLowestTerms 21 = .ok (.iload 4, 2) := by decide +kernel
theorem dX11_inLowestTerms_23 : decode cX11_inLowestTerms 23 = .ok (.irem, 1) := by decide +kernel
theorem dX11_inLowestTerms_24 : decode cX11_inLowestTerms 24 = .ok (.istore 6, 2) := by decide +kernel
theorem dX11_inLowestTerms_26 : decode cX11_inLowestTerms 26 = .ok (.iload 4, 2) := by decide +kernel
theorem dX11_inLowestTerms_28 : decode cX11_inLowestTerms 28 = .ok (.istore_n 3, 1) := by decide +kernel
theorem dX11_inLowestTerms_29 : decode cX11_inLowestTerms 29 = .ok (.iload 6, 2) := by decide +kernel
theorem dX11_inLowestTerms_31 : decode cX11_inLowestTerms 31 = .ok (.istore 4, 2) := by decide +kernel
theorem dX11_inLowestTerms_33 : decode cX11_inLowestTerms 33 = .ok (.iinc 5 1, 3) := by decide +kernel
theorem dX11_inLowestTerms_36 : decode cX11_inLowestTerms 36 = .ok (.goto (-28), 3) := by decide +kernel
theorem dX11_inLowestTerms_39 : decode cX11_inLowestTerms 39 = .ok (.iload_n 3, 1) := by decide +kernel
theorem dX11_inLowestTerms_40 : decode cX11_inLowestTerms 40 = .ok (.ifCond .ne 7, 3) := by decide +kernel
theorem dX11_inLowestTerms_43 : decode cX11_inLowestTerms 43 = .ok (.ldc2_w 243, 3) := by decide +kernel
theorem dX11_inLowestTerms_46 : decode cX11_inLowestTerms 46 = .ok (.lreturn, 1) := by decide +kernel
theorem dX11_inLowestTerms_47 : decode cX11_inLowestTerms 47 = .ok (.iload_n 2, 1) := by decide +kernel
theorem dX11_inLowestTerms_48 : decode cX11_inLowestTerms 48 = .ok (.ifCond .ne 10, 3) := by decide +kernel
theorem dX11_inLowestTerms_51 : decode cX11_inLowestTerms 51 = .ok (.iload_n 0, 1) := by decide +kernel
theorem dX11_inLowestTerms_52 : decode cX11_inLowestTerms 52 = .ok (.iload_n 3, 1) := by decide +kernel
theorem dX11_inLowestTerms_53 : decode cX11_inLowestTerms 53 = .ok (.idiv, 1) := by decide +kernel
theorem dX11_inLowestTerms_54 : decode cX11_inLowestTerms 54 = .ok (.i2l, 1) := by decide +kernel
theorem dX11_inLowestTerms_55 : decode cX11_inLowestTerms 55 = .ok (.goto 7, 3) := by decide +kernel
theorem dX11_inLowestTerms_58 : decode cX11_inLowestTerms 58 = .ok (.iload_n 1, 1) := by decide +kernel
theorem dX11_inLowestTerms_59 : decode cX11_inLowestTerms 59 = .ok (.iload_n 3, 1) := by decide +kernel
theorem dX11_inLowestTerms_60 : decode cX11_inLowestTerms 60 = .ok (.idiv, 1) := by decide +kernel
theorem dX11_inLowestTerms_61 : decode cX11_inLowestTerms 61 = .ok (.i2l, 1) := by decide +kernel
theorem dX11_inLowestTerms_62 : decode cX11_inLowestTerms 62 = .ok (.lreturn, 1) := by decide +kernel
theorem dX11_plan_0 : decode cX11_plan 0 = .ok (.iload_n 1, 1) := by decide +kernel
theorem dX11_plan_1 : decode cX11_plan 1 = .ok (.iconst (-1), 1) := by decide +kernel
theorem dX11_plan_2 : decode cX11_plan 2 = .ok (.if_icmp .ne 13, 3) := by decide +kernel
theorem dX11_plan_5 : decode cX11_plan 5 = .ok (.aload_n 0, 1) := by decide +kernel
theorem dX11_plan_6 : decode cX11_plan 6 = .ok (.getfield 70, 3) := by decide +kernel
theorem dX11_plan_9 : decode cX11_plan 9 = .ok (.iconst 0, 1) := by decide +kernel
theorem dX11_plan_10 : decode cX11_plan 10 = .ok (.putfield 255, 3) := by decide +kernel
theorem dX11_plan_13 : decode cX11_plan 13 = .ok (.iconst 0, 1) := by decide +kernel
theorem dX11_plan_14 : decode cX11_plan 14 = .ok (.ireturn, 1) := by decide +kernel
theorem dX11_plan_15 : decode cX11_plan 15 = .ok (.iload_n 1, 1) := by decide +kernel
theorem dX11_plan_16 : decode cX11_plan 16 = .ok (.iconst 3, 1) := by decide +kernel
theorem dX11_plan_17 : decode cX11_plan 17 = .ok (.invokestatic 86, 3) := by decide +kernel
theorem dX11_plan_20 : decode cX11_plan 20 = .ok (.ifCond .eq 18, 3) := by decide +kernel
theorem dX11_plan_23 : decode cX11_plan 23 = .ok (.iload_n 1, 1) := by decide +kernel
theorem dX11_plan_24 : decode cX11_plan 24 = .ok (.ifCond .eq 16, 3) := by decide +kernel
theorem dX11_plan_27 : decode cX11_plan 27 = .ok (.aload_n 0, 1) := by decide +kernel
theorem dX11_plan_28 : decode cX11_plan 28 = .ok (.getfield 70, 3) := by decide +kernel
theorem dX11_plan_31 : decode cX11_plan 31 = .ok (.iload_n 2, 1) := by decide +kernel
theorem dX11_plan_32 : decode cX11_plan 32 = .ok (.invokevirtual 98, 3) := by decide +kernel
theorem dX11_plan_35 : decode cX11_plan 35 = .ok (.ifCond .ne 5, 3) := by decide +kernel
theorem dX11_plan_38 : decode cX11_plan 38 = .ok (.iconst (-1), 1) := by decide +kernel
theorem dX11_plan_39 : decode cX11_plan 39 = .ok (.ireturn, 1) := by decide +kernel
theorem dX11_plan_40 : decode cX11_plan 40 = .ok (.aload_n 0, 1) := by decide +kernel
theorem dX11_plan_41 : decode cX11_plan 41 = .ok (.getfield 70, 3) := by decide +kernel
theorem dX11_plan_44 : decode cX11_plan 44 = .ok (.getfield 255, 3) := by decide +kernel
theorem dX11_plan_47 : decode cX11_plan 47 = .ok (.bipush 10, 2) := by decide +kernel
theorem dX11_plan_49 : decode cX11_plan 49 = .ok (.if_icmp .lt 6, 3) := by decide +kernel
theorem dX11_plan_52 : decode cX11_plan 52 = .ok (.bipush (-4), 2) := by decide +kernel
theorem dX11_plan_54 : decode cX11_plan 54 = .ok (.ireturn, 1) := by decide +kernel
theorem dX11_plan_55 : decode cX11_plan 55 = .ok (.aload_n 0, 1) := by decide +kernel
theorem dX11_plan_56 : decode cX11_plan 56 = .ok (.getfield 70, 3) := by decide +kernel
theorem dX11_plan_59 : decode cX11_plan 59 = .ok (.getfield 258, 3) := by decide +kernel
theorem dX11_plan_62 : decode cX11_plan 62 = .ok (.aload_n 0, 1) := by decide +kernel
theorem dX11_plan_63 : decode cX11_plan 63 = .ok (.getfield 70, 3) := by decide +kernel
theorem dX11_plan_66 : decode cX11_plan 66 = .ok (.getfield 255, 3) := by decide +kernel
theorem dX11_plan_69 : decode cX11_plan 69 = .ok (.iload_n 1, 1) := by decide +kernel
theorem dX11_plan_70 : decode cX11_plan 70 = .ok (.iastore, 1) := by decide +kernel
theorem dX11_plan_71 : decode cX11_plan 71 = .ok (.aload_n 0, 1) := by decide +kernel
theorem dX11_plan_72 : decode cX11_plan 72 = .ok (.getfield 70, 3) := by decide +kernel
theorem dX11_plan_75 : decode cX11_plan 75 = .ok (.getfield 261, 3) := by decide +kernel
theorem dX11_plan_78 : decode cX11_plan 78 = .ok (.aload_n 0, 1) := by decide +kernel
theorem dX11_plan_79 : decode cX11_plan 79 = .ok (.getfield 70, 3) := by decide +kernel
theorem dX11_plan_82 : decode cX11_plan 82 = .ok (.getfield 255, 3) := by decide +kernel
theorem dX11_plan_85 : decode cX11_plan 85 = .ok (.iload_n 1, 1) := by decide +kernel
theorem dX11_plan_86 : decode cX11_plan 86 = .ok (.ifCond .ne 7, 3) := by decide +kernel
theorem dX11_plan_89 : decode cX11_plan 89 = .ok (.iconst 0, 1) := by decide +kernel
theorem dX11_plan_90 : decode cX11_plan 90 = .ok (.goto 4, 3) := by decide +kernel
theorem dX11_plan_93 : decode cX11_plan 93 = .ok (.iload_n 2, 1) := by decide +kernel
theorem dX11_plan_94 : decode cX11_plan 94 = .ok (.iastore, 1) := by decide +kernel
theorem dX11_plan_95 : decode cX11_plan 95 = .ok (.aload_n 0, 1) := by decide +kernel
theorem dX11_plan_96 : decode cX11_plan 96 = .ok (.getfield 70, 3) := by decide +kernel
theorem dX11_plan_99 : decode cX11_plan 99 = .ok (.dup, 1) := by decide +kernel
theorem dX11_plan_100 : decode cX11_plan 100 = .ok (.getfield 255, 3) := by decide +kernel
theorem dX11_plan_103 : decode cX11_plan 103 = .ok (.iconst 1, 1) := by decide +kernel
theorem dX11_plan_104 : decode cX11_plan 104 = .ok (.iadd, 1) := by decide +kernel
theorem dX11_plan_105 : decode cX11_plan 105 = .ok (.putfield 255, 3) := by decide +kernel
theorem dX11_plan_108 : decode cX11_plan 108 = .ok (.aload_n 0, 1) := by decide +kernel
theorem dX11_plan_109 : decode cX11_plan 109 = .ok (.getfield 70, 3) := by decide +kernel
theorem dX11_plan_112 : decode cX11_plan 112 = .ok (.getfield 255, 3) := by decide +kernel
theorem dX11_plan_115 : decode cX11_plan 115 = .ok (.ireturn, 1) := by decide +kernel
theorem dX11_ends_0 : decode cX11_ends 0 = .ok (.iload_n 1, 1) := by decide +kernel
theorem dX11_ends_1 : decode cX11_ends 1 = .ok (.iconst 1, 1) := by decide +kernel
theorem dX11_ends_2 : decode cX11_ends 2 = .ok (.invokestatic 86, 3) := by decide +kernel
theorem dX11_ends_5 : decode cX11_ends 5 = .ok (.ifCond .ne 5, 3) := by decide +kernel
theorem dX11_ends_8 : decode cX11_ends 8 = .ok (.iconst (-1), 1) := by decide +kernel
theorem dX11_ends_9 : decode cX11_ends 9 = .ok (.ireturn, 1) := by decide +kernel
theorem dX11_ends_10 : decode cX11_ends 10 = .ok (.aload_n 0, 1) := by decide +kernel
theorem dX11_ends_11 : decode cX11_ends 11 = .ok (.getfield 77, 3) := by decide +kernel
theorem dX11_ends_14 : decode cX11_ends 14 = .ok (.aload_n 0, 1) := by decide +kernel
theorem dX11_ends_15 : decode cX11_ends 15 = .ok (.getfield 70, 3) := by decide +kernel
theorem dX11_ends_18 : decode cX11_ends 18 = .ok (.invokevirtual 195, 3) := by decide +kernel
theorem dX11_ends_21 : decode cX11_ends 21 = .ok (.iconst 0, 1) := by decide +kernel
theorem dX11_ends_22 : decode cX11_ends 22 = .ok (.istore_n 2, 1) := by decide +kernel
theorem dX11_ends_23 : decode cX11_ends 23 = .ok (.iload_n 2, 1) := by decide +kernel
theorem dX11_ends_24 : decode cX11_ends 24 = .ok (.aload_n 0, 1) := by decide +kernel
theorem dX11_ends_25 : decode cX11_ends 25 = .ok (.getfield 70, 3) := by decide +kernel
theorem dX11_ends_28 : decode cX11_ends 28 = .ok (.getfield 255, 3) := by decide +kernel
theorem dX11_ends_31 : decode cX11_ends 31 = .ok (.if_icmp .ge 31, 3) := by decide +kernel
theorem dX11_ends_34 : decode cX11_ends 34 = .ok (.aload_n 0, 1) := by decide +kernel
theorem dX11_ends_35 : decode cX11_ends 35 = .ok (.aload_n 0, 1) := by decide +kernel
theorem dX11_ends_36 : decode cX11_ends 36 = .ok (.getfield 70, 3) := by decide +kernel
theorem dX11_ends_39 : decode cX11_ends 39 = .ok (.getfield 258, 3) := by decide +kernel
theorem dX11_ends_42 : decode cX11_ends 42 = .ok (.iload_n 2, 1) := by decide +kernel
theorem dX11_ends_43 : decode cX11_ends 43 = .ok (.iaload, 1) := by decide +kernel
theorem dX11_ends_44 : decode cX11_ends 44 = .ok (.aload_n 0, 1) := by decide +kernel
theorem dX11_ends_45 : decode cX11_ends 45 = .ok (.getfield 70, 3) := by decide +kernel
theorem dX11_ends_48 : decode cX11_ends 48 = .ok (.getfield 261, 3) := by decide +kernel
theorem dX11_ends_51 : decode cX11_ends 51 = .ok (.iload_n 2, 1) := by decide +kernel
theorem dX11_ends_52 : decode cX11_ends 52 = .ok (.iaload, 1) := by decide +kernel
theorem dX11_ends_53 : decode cX11_ends 53 = .ok (.invokevirtual 264, 3) := by decide +kernel
theorem dX11_ends_56 : decode cX11_ends 56 = .ok (.iinc 2 1, 3) := by decide +kernel
theorem dX11_ends_59 : decode cX11_ends 59 = .ok (.goto (-36), 3) := by decide +kernel
theorem dX11_ends_62 : decode cX11_ends 62 = .ok (.iload_n 1, 1) := by decide +kernel
theorem dX11_ends_63 : decode cX11_ends 63 = .ok (.ifCond .ne 13, 3) := by decide +kernel
theorem dX11_ends_66 : decode cX11_ends 66 = .ok (.aload_n 0, 1) := by decide +kernel
theorem dX11_ends_67 : decode cX11_ends 67 = .ok (.getfield 77, 3) := by decide +kernel
theorem dX11_ends_70 : decode cX11_ends 70 = .ok (.invokevirtual 185, 3) := by decide +kernel
theorem dX11_ends_73 : decode cX11_ends 73 = .ok (.goto 11, 3) := by decide +kernel
theorem dX11_ends_76 : decode cX11_ends 76 = .ok (.aload_n 0, 1) := by decide +kernel
theorem dX11_ends_77 : decode cX11_ends 77 = .ok (.getfield 77, 3) := by decide +kernel
theorem dX11_ends_80 : decode cX11_ends 80 = .ok (.iconst 2, 1) := by decide +kernel
theorem dX11_ends_81 : decode cX11_ends 81 = .ok (.invokevirtual 188, 3) := by decide +kernel
theorem dX11_ends_84 : decode cX11_ends 84 = .ok (.ireturn, 1) := by decide +kernel
theorem dX11_tryPlanned_0 : decode cX11_tryPlanned 0 = .ok (.iload_n 1, 1) := by decide +kernel
theorem dX11_tryPlanned_1 : decode cX11_tryPlanned 1 = .ok (.ifCond .ne 14, 3) := by decide +kernel
theorem dX11_tryPlanned_4 : decode cX11_tryPlanned 4 = .ok (.aload_n 0, 1) := by decide +kernel
theorem dX11_tryPlanned_5 : decode cX11_tryPlanned 5 = .ok (.getfield 77, 3) := by decide +kernel
theorem dX11_tryPlanned_8 : decode cX11_tryPlanned 8 = .ok (.iconst 1, 1) := by decide +kernel
theorem dX11_tryPlanned_9 : decode cX11_tryPlanned 9 = .ok (.invokevirtual 191, 3) := by decide +kernel
theorem dX11_tryPlanned_12 : decode cX11_tryPlanned 12 = .ok (.goto 68, 3) := by decide +kernel
theorem dX11_tryPlanned_15 : decode cX11_tryPlanned 15 = .ok (.iload_n 1, 1) := by decide +kernel
theorem dX11_tryPlanned_16 : decode cX11_tryPlanned 16 = .ok (.iconst 2, 1) := by decide +kernel
theorem dX11_tryPlanned_17 : decode cX11_tryPlanned 17 = .ok (.if_icmp .ne 18, 3) := by decide +kernel
theorem dX11_tryPlanned_20 : decode cX11_tryPlanned 20 = .ok (.aload_n 0, 1) := by decide +kernel
theorem dX11_tryPlanned_21 : decode cX11_tryPlanned 21 = .ok (.getfield 77, 3) := by decide +kernel
theorem dX11_tryPlanned_24 : decode cX11_tryPlanned 24 = .ok (.getfield 120, 3) := by decide +kernel
theorem dX11_tryPlanned_27 : decode cX11_tryPlanned 27 = .ok (.iload_n 2, 1) := by decide +kernel
theorem dX11_tryPlanned_28 : decode cX11_tryPlanned 28 = .ok (.aaload, 1) := by decide +kernel
theorem dX11_tryPlanned_29 : decode cX11_tryPlanned 29 = .ok (.iconst 4, 1) := by decide +kernel
theorem dX11_tryPlanned_30 : decode cX11_tryPlanned 30 = .ok (.iconst 0, 1) := by decide +kernel
theorem dX11_tryPlanned_31 : decode cX11_tryPlanned 31 = .ok (.iastore, 1) := by decide +kernel
theorem dX11_tryPlanned_32 : decode cX11_tryPlanned 32 = .ok (.goto 48, 3) := by decide +kernel
theorem dX11_tryPlanned_35 : decode cX11_tryPlanned 35 = .ok (.iload_n 1, 1) := by decide +kernel
theorem dX11_tryPlanned_36 : decode cX11_tryPlanned 36 = .ok (.iconst 3, 1) := by decide +kernel
theorem dX11_tryPlanned_37 : decode cX11_tryPlanned 37 = .ok (.if_icmp .ne 18, 3) := by decide +kernel
theorem dX11_tryPlanned_40 : decode cX11_tryPlanned 40 = .ok (.aload_n 0, 1) := by decide +kernel
theorem dX11_tryPlanned_41 : decode cX11_tryPlanned 41 = .ok (.getfield 77, 3) := by decide +kernel
theorem dX11_tryPlanned_44 : decode cX11_tryPlanned 44 = .ok (.getfield 120, 3) := by decide +kernel
theorem dX11_tryPlanned_47 : decode cX11_tryPlanned 47 = .ok (.iload_n 2, 1) := by decide +kernel
theorem dX11_tryPlanned_48 : decode cX11_tryPlanned 48 = .ok (.aaload, 1) := by decide +kernel
theorem dX11_tryPlanned_49 : decode cX11_tryPlanned 49 = .ok (.iconst 5, 1) := by decide +kernel
theorem dX11_tryPlanned_50 : decode cX11_tryPlanned 50 = .ok (.iconst 0, 1) := by decide +kernel
theorem dX11_tryPlanned_51 : decode cX11_tryPlanned 51 = .ok (.iastore, 1) := by decide +kernel
theorem dX11_tryPlanned_52 : decode cX11_tryPlanned 52 = .ok (.goto 28, 3) := by decide +kernel
theorem dX11_tryPlanned_55 : decode cX11_tryPlanned 55 = .ok (.iload_n 1, 1) := by decide +kernel
theorem dX11_tryPlanned_56 : decode cX11_tryPlanned 56 = .ok (.iconst 1, 1) := by decide +kernel
theorem dX11_tryPlanned_57 : decode cX11_tryPlanned 57 = .ok (.if_icmp .ne 23, 3) := by decide +kernel
theorem dX11_tryPlanned_60 : decode cX11_tryPlanned 60 = .ok (.aload_n 0, 1) := by decide +kernel
theorem dX11_tryPlanned_61 : decode cX11_tryPlanned 61 = .ok (.getfield 77, 3) := by decide +kernel
theorem dX11_tryPlanned_64 : decode cX11_tryPlanned 64 = .ok (.iload_n 2, 1) := by decide +kernel
theorem dX11_tryPlanned_65 : decode cX11_tryPlanned 65 = .ok (.invokevirtual 128, 3) := by decide +kernel
theorem dX11_tryPlanned_68 : decode cX11_tryPlanned 68 = .ok (.ifCond .eq 12, 3) := by decide +kernel
theorem dX11_tryPlanned_71 : decode cX11_tryPlanned 71 = .ok (.aload_n 0, 1) := by decide +kernel
theorem dX11_tryPlanned_72 : decode cX11_tryPlanned 72 = .ok (.getfield 77, 3) := by decide +kernel
theorem dX11_tryPlanned_75 : decode cX11_tryPlanned 75 = .ok (.iload_n 2, 1) := by decide +kernel
theorem dX11_tryPlanned_76 : decode cX11_tryPlanned 76 = .ok (.invokevirtual 131, 3) := by decide +kernel
theorem dX11_tryPlanned_79 : decode cX11_tryPlanned 79 = .ok (.pop, 1) := by decide +kernel
theorem dX11_tryPlanned_80 : decode cX11_tryPlanned 80 = .ok (.return_, 1) := by decide +kernel
theorem dX11_book_0 : decode cX11_book 0 = .ok (.iload_n 1, 1) := by decide +kernel
theorem dX11_book_1 : decode cX11_book 1 = .ok (.iconst (-1), 1) := by decide +kernel
theorem dX11_book_2 : decode cX11_book 2 = .ok (.if_icmp .ne 13, 3) := by decide +kernel
theorem dX11_book_5 : decode cX11_book 5 = .ok (.aload_n 0, 1) := by decide +kernel
theorem dX11_book_6 : decode cX11_book 6 = .ok (.getfield 70, 3) := by decide +kernel
theorem dX11_book_9 : decode cX11_book 9 = .ok (.iconst 0, 1) := by decide +kernel
theorem dX11_book_10 : decode cX11_book 10 = .ok (.putfield 267, 3) := by decide +kernel
theorem dX11_book_13 : decode cX11_book 13 = .ok (.iconst 0, 1) := by decide +kernel
theorem dX11_book_14 : decode cX11_book 14 = .ok (.ireturn, 1) := by decide +kernel
theorem dX11_book_15 : decode cX11_book 15 = .ok (.aload_n 0, 1) := by decide +kernel
theorem dX11_book_16 : decode cX11_book 16 = .ok (.getfield 70, 3) := by decide +kernel
theorem dX11_book_19 : decode cX11_book 19 = .ok (.iload_n 1, 1) := by decide +kernel
theorem dX11_book_20 : decode cX11_book 20 = .ok (.invokevirtual 98, 3) := by decide +kernel
theorem dX11_book_23 : decode cX11_book 23 = .ok (.ifCond .ne 5, 3) := by decide +kernel
theorem dX11_book_26 : decode cX11_book 26 = .ok (.iconst (-1), 1) := by decide +kernel
theorem dX11_book_27 : decode cX11_book 27 = .ok (.ireturn, 1) := by decide +kernel
theorem dX11_book_28 : decode cX11_book 28 = .ok (.iload_n 2, 1) := by decide +kernel
theorem dX11_book_29 : decode cX11_book 29 = .ok (.bipush 99, 2) := by decide +kernel
theorem dX11_book_31 : decode cX11_book 31 = .ok (.invokestatic 86, 3) := by decide +kernel
theorem dX11_book_34 : decode cX11_book 34 = .ok (.ifCond .ne 6, 3) := by decide +kernel
theorem dX11_book_37 : decode cX11_book 37 = .ok (.bipush (-2), 2) := by decide +kernel
theorem dX11_book_39 : decode cX11_book 39 = .ok (.ireturn, 1) := by decide +kernel
theorem dX11_book_40 : decode cX11_book 40 = .ok (.aload_n 0, 1) := by decide +kernel
theorem dX11_book_41 : decode cX11_book 41 = .ok (.getfield 70, 3) := by decide +kernel
theorem dX11_book_44 : decode cX11_book 44 = .ok (.getfield 267, 3) := by decide +kernel
theorem dX11_book_47 : decode cX11_book 47 = .ok (.bipush 8, 2) := by decide +kernel
theorem dX11_book_49 : decode cX11_book 49 = .ok (.if_icmp .lt 6, 3) := by decide +kernel
theorem dX11_book_52 : decode cX11_book 52 = .ok (.bipush (-4), 2) := by decide +kernel
theorem dX11_book_54 : decode cX11_book 54 = .ok (.ireturn, 1) := by decide +kernel
theorem dX11_book_55 : decode cX11_book 55 = .ok (.aload_n 0, 1) := by decide +kernel
theorem dX11_book_56 : decode cX11_book 56 = .ok (.getfield 70, 3) := by decide +kernel
theorem dX11_book_59 : decode cX11_book 59 = .ok (.getfield 270, 3) := by decide +kernel
theorem dX11_book_62 : decode cX11_book 62 = .ok (.aload_n 0, 1) := by decide +kernel
theorem dX11_book_63 : decode cX11_book 63 = .ok (.getfield 70, 3) := by decide +kernel
theorem dX11_book_66 : decode cX11_book 66 = .ok (.getfield 267, 3) := by decide +kernel
theorem dX11_book_69 : decode cX11_book 69 = .ok (.iload_n 1, 1) := by decide +kernel
theorem dX11_book_70 : decode cX11_book 70 = .ok (.iastore, 1) := by decide +kernel
theorem dX11_book_71 : decode cX11_book 71 = .ok (.aload_n 0, 1) := by decide +kernel
theorem dX11_book_72 : decode cX11_book 72 = .ok (.getfield 70, 3) := by decide +kernel
theorem dX11_book_75 : decode cX11_book 75 = .ok (.getfield 273, 3) := by decide +kernel
theorem dX11_book_78 : decode cX11_book 78 = .ok (.aload_n 0, 1) := by decide +kernel
theorem dX11_book_79 : decode cX11_book 79 = .ok (.getfield 70, 3) := by decide +kernel
theorem dX11_book_82 : decode cX11_book 82 = .ok (.getfield 267, 3) := by decide +kernel
theorem dX11_book_85 : decode cX11_book 85 = .ok (.iload_n 2, 1) := by decide +kernel
theorem dX11_book_86 : decode cX11_book 86 = .ok (.iastore, 1) := by decide +kernel
theorem dX11_book_87 : decode cX11_book 87 = .ok (.aload_n 0, 1) := by decide +kernel
theorem dX11_book_88 : decode cX11_book 88 = .ok (.getfield 70, 3) := by decide +kernel
theorem dX11_book_91 : decode cX11_book 91 = .ok (.dup, 1) := by decide +kernel
theorem dX11_book_92 : decode cX11_book 92 = .ok (.getfield 267, 3) := by decide +kernel
theorem dX11_book_95 : decode cX11_book 95 = .ok (.iconst 1, 1) := by decide +kernel
theorem dX11_book_96 : decode cX11_book 96 = .ok (.iadd, 1) := by decide +kernel
theorem dX11_book_97 : decode cX11_book 97 = .ok (.putfield 267, 3) := by decide +kernel
theorem dX11_book_100 : decode cX11_book 100 = .ok (.aload_n 0, 1) := by decide +kernel
theorem dX11_book_101 : decode cX11_book 101 = .ok (.getfield 70, 3) := by decide +kernel
theorem dX11_book_104 : decode cX11_book 104 = .ok (.getfield 267, 3) := by decide +kernel
theorem dX11_book_107 : decode cX11_book 107 = .ok (.ireturn, 1) := by decide +kernel
theorem dX11_looked_0 : decode cX11_looked 0 = .ok (.iconst 0, 1) := by decide +kernel
theorem dX11_looked_1 : decode cX11_looked 1 = .ok (.istore_n 1, 1) := by decide +kernel
theorem dX11_looked_2 : decode cX11_looked 2 = .ok (.iload_n 1, 1) := by decide +kernel
theorem dX11_looked_3 : decode cX11_looked 3 = .ok (.aload_n 0, 1) := by decide +kernel
theorem dX11_looked_4 : decode cX11_looked 4 = .ok (.getfield 70, 3) := by decide +kernel
theorem dX11_looked_7 : decode cX11_looked 7 = .ok (.getfield 267, 3) := by decide +kernel
theorem dX11_looked_10 : decode cX11_looked 10 = .ok (.if_icmp .ge 42, 3) := by decide +kernel
theorem dX11_looked_13 : decode cX11_looked 13 = .ok (.aload_n 0, 1) := by decide +kernel
theorem dX11_looked_14 : decode cX11_looked 14 = .ok (.getfield 70, 3) := by decide +kernel
theorem dX11_looked_17 : decode cX11_looked 17 = .ok (.getfield 120, 3) := by decide +kernel
theorem dX11_looked_20 : decode cX11_looked 20 = .ok (.aload_n 0, 1) := by decide +kernel
theorem dX11_looked_21 : decode cX11_looked 21 = .ok (.getfield 70, 3) := by decide +kernel
theorem dX11_looked_24 : decode cX11_looked 24 = .ok (.getfield 270, 3) := by decide +kernel
theorem dX11_looked_27 : decode cX11_looked 27 = .ok (.iload_n 1, 1) := by decide +kernel
theorem dX11_looked_28 : decode cX11_looked 28 = .ok (.iaload, 1) := by decide +kernel
theorem dX11_looked_29 : decode cX11_looked 29 = .ok (.aaload, 1) := by decide +kernel
theorem dX11_looked_30 : decode cX11_looked 30 = .ok (.iconst 4, 1) := by decide +kernel
theorem dX11_looked_31 : decode cX11_looked 31 = .ok (.iaload, 1) := by decide +kernel
theorem dX11_looked_32 : decode cX11_looked 32 = .ok (.aload_n 0, 1) := by decide +kernel
theorem dX11_looked_33 : decode cX11_looked 33 = .ok (.getfield 70, 3) := by decide +kernel
theorem dX11_looked_36 : decode cX11_looked 36 = .ok (.getfield 273, 3) := by decide +kernel
theorem dX11_looked_39 : decode cX11_looked 39 = .ok (.iload_n 1, 1) := by decide +kernel
theorem dX11_looked_40 : decode cX11_looked 40 = .ok (.iaload, 1) := by decide +kernel
theorem dX11_looked_41 : decode cX11_looked 41 = .ok (.if_icmp .eq 5, 3) := by decide +kernel
theorem dX11_looked_44 : decode cX11_looked 44 = .ok (.iload_n 1, 1) := by decide +kernel
theorem dX11_looked_45 : decode cX11_looked 45 = .ok (.ireturn, 1) := by decide +kernel
theorem dX11_looked_46 : decode cX11_looked 46 = .ok (.iinc 1 1, 3) := by decide +kernel
theorem dX11_looked_49 : decode cX11_looked 49 = .ok (.goto (-47), 3) := by decide +kernel
theorem dX11_looked_52 : decode cX11_looked 52 = .ok (.bipush (-5), 2) := by decide +kernel
theorem dX11_looked_54 : decode cX11_looked 54 = .ok (.ireturn, 1) := by decide +kernel
theorem dX11_judge_0 : decode cX11_judge 0 = .ok (.iload_n 1, 1) := by decide +kernel
theorem dX11_judge_1 : decode cX11_judge 1 = .ok (.iconst 5, 1) := by decide +kernel
theorem dX11_judge_2 : decode cX11_judge 2 = .ok (.invokestatic 86, 3) := by decide +kernel
theorem dX11_judge_5 : decode cX11_judge 5 = .ok (.ifCond .ne 5, 3) := by decide +kernel
theorem dX11_judge_8 : decode cX11_judge 8 = .ok (.iconst (-1), 1) := by decide +kernel
theorem dX11_judge_9 : decode cX11_judge 9 = .ok (.ireturn, 1) := by decide +kernel
theorem dX11_judge_10 : decode cX11_judge 10 = .ok (.aload_n 0, 1) := by decide +kernel
theorem dX11_judge_11 : decode cX11_judge 11 = .ok (.getfield 29, 3) := by decide +kernel
theorem dX11_judge_14 : decode cX11_judge 14 = .ok (.iload_n 1, 1) := by decide +kernel
theorem dX11_judge_15 : decode cX11_judge 15 = .ok (.iaload, 1) := by decide +kernel
theorem dX11_judge_16 : decode cX11_judge 16 = .ok (.istore_n 3, 1) := by decide +kernel
theorem dX11_judge_17 : decode cX11_judge 17 = .ok (.iload_n 3, 1) := by decide +kernel
theorem dX11_judge_18 : decode cX11_judge 18 = .ok (.iconst 1, 1) := by decide +kernel
theorem dX11_judge_19 : decode cX11_judge 19 = .ok (.if_icmp .eq 11, 3) := by decide +kernel
theorem dX11_judge_22 : decode cX11_judge 22 = .ok (.iload_n 3, 1) := by decide +kernel
theorem dX11_judge_23 : decode cX11_judge 23 = .ok (.iconst (-1), 1) := by decide +kernel
theorem dX11_judge_24 : decode cX11_judge 24 = .ok (.if_icmp .eq 6, 3) := by decide +kernel
theorem dX11_judge_27 : decode cX11_judge 27 = .ok (.bipush (-12), 2) := by decide +kernel
theorem dX11_judge_29 : decode cX11_judge 29 = .ok (.ireturn, 1) := by decide +kernel
theorem dX11_judge_30 : decode cX11_judge 30 = .ok (.iconst 0, 1) := by decide +kernel
theorem dX11_judge_31 : decode cX11_judge 31 = .ok (.istore 4, 2) := by decide +kernel
theorem dX11_judge_33 : decode cX11_judge 33 = .ok (.iload 4, 2) := by decide +kernel
theorem dX11_judge_35 : decode cX11_judge 35 = .ok (.iconst 4, 1) := by decide +kernel
theorem dX11_judge_36 : decode cX11_judge 36 = .ok (.if_icmp .ge 56, 3) := by decide +kernel
theorem dX11_judge_39 : decode cX11_judge 39 = .ok (.aload_n 0, 1) := by decide +kernel
theorem dX11_judge_40 : decode cX11_judge 40 = .ok (.iload_n 1, 1) := by decide +kernel
theorem dX11_judge_41 : decode cX11_judge 41 = .ok (.iload_n 2, 1) := by decide +kernel
theorem dX11_judge_42 : decode cX11_judge 42 = .ok (.iload 4, 2) := by decide +kernel
theorem dX11_judge_44 : decode cX11_judge 44 = .ok (.iadd, 1) := by decide +kernel
theorem dX11_judge_45 : decode cX11_judge 45 = .ok (.invokevirtual 276, 3) := by decide +kernel
theorem dX11_judge_48 : decode cX11_judge 48 = .ok (.ifCond .ne 9, 3) := by decide +kernel
theorem dX11_judge_51 : decode cX11_judge 51 = .ok (.bipush 100, 2) := by decide +kernel
theorem dX11_judge_53 : decode cX11_judge 53 = .ok (.iload 4, 2) := by decide +kernel
theorem dX11_judge_55 : decode cX11_judge 55 = .ok (.iadd, 1) := by decide +kernel
theorem dX11_judge_56 : decode cX11_judge 56 = .ok (.ireturn, 1) := by decide +kernel
theorem dX11_judge_57 : decode cX11_judge 57 = .ok (.aload_n 0, 1) := by decide +kernel
theorem dX11_judge_58 : decode cX11_judge 58 = .ok (.getfield 37, 3) := by decide +kernel
theorem dX11_judge_61 : decode cX11_judge 61 = .ok (.iload_n 1, 1) := by decide +kernel
theorem dX11_judge_62 : decode cX11_judge 62 = .ok (.aaload, 1) := by decide +kernel
theorem dX11_judge_63 : decode cX11_judge 63 = .ok (.iload_n 2, 1) := by decide +kernel
theorem dX11_judge_64 : decode cX11_judge 64 = .ok (.iload 4, 2) := by decide +kernel
theorem dX11_judge_66 : decode cX11_judge 66 = .ok (.iadd, 1) := by decide +kernel
theorem dX11_judge_67 : decode cX11_judge 67 = .ok (.laload, 1) := by decide +kernel
theorem dX11_judge_68 : decode cX11_judge 68 = .ok (.aload_n 0, 1) := by decide +kernel
theorem dX11_judge_69 : decode cX11_judge 69 = .ok (.getfield 70, 3) := by decide +kernel
theorem dX11_judge_72 : decode cX11_judge 72 = .ok (.getfield 134, 3) := by decide +kernel
theorem dX11_judge_75 : decode cX11_judge 75 = .ok (.iload 4, 2) := by decide +kernel
theorem dX11_judge_77 : decode cX11_judge 77 = .ok (.iaload, 1) := by decide +kernel
theorem dX11_judge_78 : decode cX11_judge 78 = .ok (.i2l, 1) := by decide +kernel
theorem dX11_judge_79 : decode cX11_judge 79 = .ok (.lcmp, 1) := by decide +kernel
theorem dX11_judge_80 : decode cX11_judge 80 = .ok (.ifCond .eq 6, 3) := by decide +kernel
theorem dX11_judge_83 : decode cX11_judge 83 = .ok (.iload 4, 2) := by decide +kernel
theorem dX11_judge_85 : decode cX11_judge 85 = .ok (.ireturn, 1) := by decide +kernel
theorem dX11_judge_86 : decode cX11_judge 86 = .ok (.iinc 4 1, 3) := by decide +kernel
theorem dX11_judge_89 : decode cX11_judge 89 = .ok (.goto (-56), 3) := by decide +kernel
theorem dX11_judge_92 : decode cX11_judge 92 = .ok (.bipush (-5), 2) := by decide +kernel
theorem dX11_judge_94 : decode cX11_judge 94 = .ok (.ireturn, 1) := by decide +kernel
theorem dX11_image_0 : decode cX11_image 0 = .ok (.aload_n 0, 1) := by decide +kernel
theorem dX11_image_1 : decode cX11_image 1 = .ok (.getfield 74, 3) := by decide +kernel
theorem dX11_image_4 : decode cX11_image 4 = .ok (.aload_n 0, 1) := by decide +kernel
theorem dX11_image_5 : decode cX11_image 5 = .ok (.getfield 70, 3) := by decide +kernel
theorem dX11_image_8 : decode cX11_image 8 = .ok (.invokevirtual 195, 3) := by decide +kernel
theorem dX11_image_11 : decode cX11_image 11 = .ok (.aload_n 0, 1) := by decide +kernel
theorem dX11_image_12 : decode cX11_image 12 = .ok (.getfield 74, 3) := by decide +kernel
theorem dX11_image_15 : decode cX11_image 15 = .ok (.aload_n 0, 1) := by decide +kernel
theorem dX11_image_16 : decode cX11_image 16 = .ok (.getfield 70, 3) := by decide +kernel
theorem dX11_image_19 : decode cX11_image 19 = .ok (.invokevirtual 279, 3) := by decide +kernel
theorem dX11_image_22 : decode cX11_image 22 = .ok (.aload_n 0, 1) := by decide +kernel
theorem dX11_image_23 : decode cX11_image 23 = .ok (.iconst 1, 1) := by decide +kernel
theorem dX11_image_24 : decode cX11_image 24 = .ok (.putfield 282, 3) := by decide +kernel
theorem dX11_image_27 : decode cX11_image 27 = .ok (.aload_n 0, 1) := by decide +kernel
theorem dX11_image_28 : decode cX11_image 28 = .ok (.getfield 70, 3) := by decide +kernel
theorem dX11_image_31 : decode cX11_image 31 = .ok (.getfield 90, 3) := by decide +kernel
theorem dX11_image_34 : decode cX11_image 34 = .ok (.ireturn, 1) := by decide +kernel
theorem dX11_undo_0 : decode cX11_undo 0 = .ok (.aload_n 0, 1) := by decide +kernel
theorem dX11_undo_1 : decode cX11_undo 1 = .ok (.getfield 282, 3) := by decide +kernel
theorem dX11_undo_4 : decode cX11_undo 4 = .ok (.ifCond .ne 6, 3) := by decide +kernel
theorem dX11_undo_7 : decode cX11_undo 7 = .ok (.bipush (-3), 2) := by decide +kernel
theorem dX11_undo_9 : decode cX11_undo 9 = .ok (.ireturn, 1) := by decide +kernel
theorem dX11_undo_10 : decode cX11_undo 10 = .ok (.aload_n 0, 1) := by decide +kernel
theorem dX11_undo_11 : decode cX11_undo 11 = .ok (.getfield 70, 3) := by decide +kernel
theorem dX11_undo_14 : decode cX11_undo 14 = .ok (.aload_n 0, 1) := by decide +kernel
theorem dX11_undo_15 : decode cX11_undo 15 = .ok (.getfield 74, 3) := by decide +kernel
theorem dX11_undo_18 : decode cX11_undo 18 = .ok (.invokevirtual 195, 3) := by decide +kernel
theorem dX11_undo_21 : decode cX11_undo 21 = .ok (.aload_n 0, 1) := by decide +kernel
theorem dX11_undo_22 : decode cX11_undo 22 = .ok (.getfield 70, 3) := by decide +kernel
theorem dX11_undo_25 : decode cX11_undo 25 = .ok (.aload_n 0, 1) := by decide +kernel
theorem dX11_undo_26 : decode cX11_undo 26 = .ok (.getfield 74, 3) := by decide +kernel
theorem dX11_undo_29 : decode cX11_undo 29 = .ok (.invokevirtual 279, 3) := by decide +kernel
theorem dX11_undo_32 : decode cX11_undo 32 = .ok (.aload_n 0, 1) := by decide +kernel
theorem dX11_undo_33 : decode cX11_undo 33 = .ok (.getfield 70, 3) := by decide +kernel
theorem dX11_undo_36 : decode cX11_undo 36 = .ok (.getfield 90, 3) := by decide +kernel
theorem dX11_undo_39 : decode cX11_undo 39 = .ok (.ireturn, 1) := by decide +kernel
theorem dX11_act_0 : decode cX11_act 0 = .ok (.aload_n 0, 1) := by decide +kernel
theorem dX11_act_1 : decode cX11_act 1 = .ok (.getfield 21, 3) := by decide +kernel
theorem dX11_act_4 : decode cX11_act 4 = .ok (.iconst 0, 1) := by decide +kernel
theorem dX11_act_5 : decode cX11_act 5 = .ok (.putfield 286, 3) := by decide +kernel
theorem dX11_act_8 : decode cX11_act 8 = .ok (.aload_n 0, 1) := by decide +kernel
theorem dX11_act_9 : decode cX11_act 9 = .ok (.getfield 70, 3) := by decide +kernel
theorem dX11_act_12 : decode cX11_act 12 = .ok (.iload_n 1, 1) := by decide +kernel
theorem dX11_act_13 : decode cX11_act 13 = .ok (.invokevirtual 98, 3) := by decide +kernel
theorem dX11_act_16 : decode cX11_act 16 = .ok (.ifCond .eq 11, 3) := by decide +kernel
theorem dX11_act_19 : decode cX11_act 19 = .ok (.iload_n 2, 1) := by decide +kernel
theorem dX11_act_20 : decode cX11_act 20 = .ok (.iconst 2, 1) := by decide +kernel
theorem dX11_act_21 : decode cX11_act 21 = .ok (.invokestatic 86, 3) := by decide +kernel
theorem dX11_act_24 : decode cX11_act 24 = .ok (.ifCond .ne 5, 3) := by decide +kernel
theorem dX11_act_27 : decode cX11_act 27 = .ok (.iconst 0, 1) := by decide +kernel
theorem dX11_act_28 : decode cX11_act 28 = .ok (.ireturn, 1) := by decide +kernel
theorem dX11_act_29 : decode cX11_act 29 = .ok (.aload_n 0, 1) := by decide +kernel
theorem dX11_act_30 : decode cX11_act 30 = .ok (.getfield 21, 3) := by decide +kernel
theorem dX11_act_33 : decode cX11_act 33 = .ok (.iload_n 1, 1) := by decide +kernel
theorem dX11_act_34 : decode cX11_act 34 = .ok (.putfield 289, 3) := by decide +kernel
theorem dX11_act_37 : decode cX11_act 37 = .ok (.aload_n 0, 1) := by decide +kernel
theorem dX11_act_38 : decode cX11_act 38 = .ok (.getfield 21, 3) := by decide +kernel
theorem dX11_act_41 : decode cX11_act 41 = .ok (.aload_n 0, 1) := by decide +kernel
theorem dX11_act_42 : decode cX11_act 42 = .ok (.getfield 70, 3) := by decide +kernel
theorem dX11_act_45 : decode cX11_act 45 = .ok (.getfield 120, 3) := by decide +kernel
theorem dX11_act_48 : decode cX11_act 48 = .ok (.iload_n 1, 1) := by decide +kernel
theorem dX11_act_49 : decode cX11_act 49 = .ok (.aaload, 1) := by decide +kernel
theorem dX11_act_50 : decode cX11_act 50 = .ok (.iconst 1, 1) := by decide +kernel
theorem dX11_act_51 : decode cX11_act 51 = .ok (.iaload, 1) := by decide +kernel
theorem dX11_act_52 : decode cX11_act 52 = .ok (.putfield 292, 3) := by decide +kernel
theorem dX11_act_55 : decode cX11_act 55 = .ok (.aload_n 0, 1) := by decide +kernel
theorem dX11_act_56 : decode cX11_act 56 = .ok (.getfield 61, 3) := by decide +kernel
theorem dX11_act_59 : decode cX11_act 59 = .ok (.aload_n 0, 1) := by decide +kernel
theorem dX11_act_60 : decode cX11_act 60 = .ok (.getfield 70, 3) := by decide +kernel
theorem dX11_act_63 : decode cX11_act 63 = .ok (.getfield 120, 3) := by decide +kernel
theorem dX11_act_66 : decode cX11_act 66 = .ok (.iload_n 1, 1) := by decide +kernel
theorem dX11_act_67 : decode cX11_act 67 = .ok (.aaload, 1) := by decide +kernel
theorem dX11_act_68 : decode cX11_act 68 = .ok (.iconst 0, 1) := by decide +kernel
theorem dX11_act_69 : decode cX11_act 69 = .ok (.iaload, 1) := by decide +kernel
theorem dX11_act_70 : decode cX11_act 70 = .ok (.aaload, 1) := by decide +kernel
theorem dX11_act_71 : decode cX11_act 71 = .ok (.astore 4, 2) := by decide +kernel
theorem dX11_act_73 : decode cX11_act 73 = .ok (.iload_n 2, 1) := by decide +kernel
theorem dX11_act_74 : decode cX11_act 74 = .ok (.ifCond .ne 14, 3) := by decide +kernel
theorem dX11_act_77 : decode cX11_act 77 = .ok (.aload 4, 2) := by decide +kernel
theorem dX11_act_79 : decode cX11_act 79 = .ok (.aload_n 0, 1) := by decide +kernel
theorem dX11_act_80 : decode cX11_act 80 = .ok (.getfield 21, 3) := by decide +kernel
theorem dX11_act_83 : decode cX11_act 83 = .ok (.iload_n 3, 1) := by decide +kernel
theorem dX11_act_84 : decode cX11_act 84 = .ok (.invokevirtual 295, 3) := by decide +kernel
theorem dX11_act_87 : decode cX11_act 87 = .ok (.ireturn, 1) := by decide +kernel
theorem dX11_act_88 : decode cX11_act 88 = .ok (.iload_n 2, 1) := by decide +kernel
theorem dX11_act_89 : decode cX11_act 89 = .ok (.iconst 1, 1) := by decide +kernel
theorem dX11_act_90 : decode cX11_act 90 = .ok (.if_icmp .ne 16, 3) := by decide +kernel
theorem dX11_act_93 : decode cX11_act 93 = .ok (.aload 4, 2) := by decide +kernel
theorem dX11_act_95 : decode cX11_act 95 = .ok (.aload_n 0, 1) := by decide +kernel
theorem dX11_act_96 : decode cX11_act 96 = .ok (.getfield 21, 3) := by decide +kernel
theorem dX11_act_99 : decode cX11_act 99 = .ok (.iload_n 3, 1) := by decide +kernel
theorem dX11_act_100 : decode cX11_act 100 = .ok (.invokevirtual 299, 3) := by decide +kernel
theorem dX11_act_103 : decode cX11_act 103 = .ok (.goto 13, 3) := by decide +kernel
theorem dX11_act_106 : decode cX11_act 106 = .ok (.aload 4, 2) := by decide +kernel
theorem dX11_act_108 : decode cX11_act 108 = .ok (.aload_n 0, 1) := by decide +kernel
theorem dX11_act_109 : decode cX11_act 109 = .ok (.getfield 21, 3) := by decide +kernel
theorem dX11_act_112 : decode cX11_act 112 = .ok (.iload_n 3, 1) := by decide +kernel
theorem dX11_act_113 : decode cX11_act 113 = .ok (.invokevirtual 302, 3) := by decide +kernel
theorem dX11_act_116 : decode cX11_act 116 = .ok (.ireturn, 1) := by decide +kernel
theorem dX11_trace_0 : decode cX11_trace 0 = .ok (.iload_n 1, 1) := by decide +kernel
theorem dX11_trace_1 : decode cX11_trace 1 = .ok (.aload_n 0, 1) := by decide +kernel
theorem dX11_trace_2 : decode cX11_trace 2 = .ok (.getfield 21, 3) := by decide +kernel
theorem dX11_trace_5 : decode cX11_trace 5 = .ok (.getfield 286, 3) := by decide +kernel
theorem dX11_trace_8 : decode cX11_trace 8 = .ok (.bipush 20, 2) := by decide +kernel
theorem dX11_trace_10 : decode cX11_trace 10 = .ok (.invokestatic 305, 3) := by decide +kernel
theorem dX11_trace_13 : decode cX11_trace 13 = .ok (.iconst 1, 1) := by decide +kernel
theorem dX11_trace_14 : decode cX11_trace 14 = .ok (.isub, 1) := by decide +kernel
theorem dX11_trace_15 : decode cX11_trace 15 = .ok (.invokestatic 86, 3) := by decide +kernel
theorem dX11_trace_18 : decode cX11_trace 18 = .ok (.ifCond .ne 5, 3) := by decide +kernel
theorem dX11_trace_21 : decode cX11_trace 21 = .ok (.iconst (-1), 1) := by decide +kernel
theorem dX11_trace_22 : decode cX11_trace 22 = .ok (.ireturn, 1) := by decide +kernel
theorem dX11_trace_23 : decode cX11_trace 23 = .ok (.aload_n 0, 1) := by decide +kernel
theorem dX11_trace_24 : decode cX11_trace 24 = .ok (.getfield 21, 3) := by decide +kernel
theorem dX11_trace_27 : decode cX11_trace 27 = .ok (.getfield 308, 3) := by decide +kernel
theorem dX11_trace_30 : decode cX11_trace 30 = .ok (.iload_n 1, 1) := by decide +kernel
theorem dX11_trace_31 : decode cX11_trace 31 = .ok (.iaload, 1) := by decide +kernel
theorem dX11_trace_32 : decode cX11_trace 32 = .ok (.ireturn, 1) := by decide +kernel
theorem dX11_taken_0 : decode cX11_taken 0 = .ok (.iload_n 2, 1) := by decide +kernel
theorem dX11_taken_1 : decode cX11_taken 1 = .ok (.bipush 6, 2) := by decide +kernel
theorem dX11_taken_3 : decode cX11_taken 3 = .ok (.invokestatic 86, 3) := by decide +kernel
theorem dX11_taken_6 : decode cX11_taken 6 = .ok (.ifCond .ne 6, 3) := by decide +kernel
theorem dX11_taken_9 : decode cX11_taken 9 = .ok (.bipush (-2), 2) := by decide +kernel
theorem dX11_taken_11 : decode cX11_taken 11 = .ok (.ireturn, 1) := by decide +kernel
theorem dX11_taken_12 : decode cX11_taken 12 = .ok (.aload_n 0, 1) := by decide +kernel
theorem dX11_taken_13 : decode cX11_taken 13 = .ok (.getfield 70, 3) := by decide +kernel
theorem dX11_taken_16 : decode cX11_taken 16 = .ok (.iload_n 1, 1) := by decide +kernel
theorem dX11_taken_17 : decode cX11_taken 17 = .ok (.invokevirtual 98, 3) := by decide +kernel
theorem dX11_taken_20 : decode cX11_taken 20 = .ok (.ifCond .ne 6, 3) := by decide +kernel
theorem dX11_taken_23 : decode cX11_taken 23 = .ok (.bipush (-11), 2) := by decide +kernel
theorem dX11_taken_25 : decode cX11_taken 25 = .ok (.ireturn, 1) := by decide +kernel
theorem dX11_taken_26 : decode cX11_taken 26 = .ok (.aload_n 0, 1) := by decide +kernel
theorem dX11_taken_27 : decode cX11_taken 27 = .ok (.getfield 70, 3) := by decide +kernel
theorem dX11_taken_30 : decode cX11_taken 30 = .ok (.getfield 120, 3) := by decide +kernel
theorem dX11_taken_33 : decode cX11_taken 33 = .ok (.iload_n 1, 1) := by decide +kernel
theorem dX11_taken_34 : decode cX11_taken 34 = .ok (.aaload, 1) := by decide +kernel
theorem dX11_taken_35 : decode cX11_taken 35 = .ok (.iconst 0, 1) := by decide +kernel
theorem dX11_taken_36 : decode cX11_taken 36 = .ok (.iaload, 1) := by decide +kernel
theorem dX11_taken_37 : decode cX11_taken 37 = .ok (.istore_n 3, 1) := by decide +kernel
theorem dX11_taken_38 : decode cX11_taken 38 = .ok (.iload_n 3, 1) := by decide +kernel
theorem dX11_taken_39 : decode cX11_taken 39 = .ok (.istore 4, 2) := by decide +kernel
theorem dX11_taken_41 : decode cX11_taken 41 = .ok (.iconst 0, 1) := by decide +kernel
theorem dX11_taken_42 : decode cX11_taken 42 = .ok (.istore 5, 2) := by decide +kernel
theorem dX11_taken_44 : decode cX11_taken 44 = .ok (.iload 5, 2) := by decide +kernel
theorem dX11_taken_46 : decode cX11_taken 46 = .ok (.bipush 7, 2) := by decide +kernel
theorem dX11_taken_48 : decode cX11_taken 48 = .ok (.if_icmp .ge 30, 3) := by decide +kernel
theorem dX11_taken_51 : decode cX11_taken 51 = .ok (.iload 4, 2) := by decide +kernel
theorem dX11_taken_53 : decode cX11_taken 53 = .ok (.ifCond .lt 25, 3) := by decide +kernel
theorem dX11_taken_56 : decode cX11_taken 56 = .ok (.iload 4, 2) := by decide +kernel
theorem dX11_taken_58 : decode cX11_taken 58 = .ok (.iload_n 2, 1) := by decide +kernel
theorem dX11_taken_59 : decode cX11_taken 59 = .ok (.if_icmp .ne 5, 3) := by decide +kernel
theorem dX11_taken_62 : decode cX11_taken 62 = .ok (.iload_n 3, 1) := by decide +kernel
theorem dX11_taken_63 : decode cX11_taken 63 = .ok (.ireturn, 1) := by decide +kernel
theorem dX11_taken_64 : decode cX11_taken 64 = .ok (.getstatic 311, 3) := by decide +kernel
theorem dX11_taken_67 : decode cX11_taken 67 = .ok (.iload 4, 2) := by decide +kernel
theorem dX11_taken_69 : decode cX11_taken 69 = .ok (.iaload, 1) := by decide +kernel
theorem dX11_taken_70 : decode cX11_taken 70 = .ok (.istore 4, 2) := by decide +kernel
theorem dX11_taken_72 : decode cX11_taken 72 = .ok (.iinc 5 1, 3) := by decide +kernel
theorem dX11_taken_75 : decode cX11_taken 75 = .ok (.goto (-31), 3) := by decide +kernel
theorem dX11_taken_78 : decode cX11_taken 78 = .ok (.bipush (-12), 2) := by decide +kernel
theorem dX11_taken_80 : decode cX11_taken 80 = .ok (.ireturn, 1) := by decide +kernel
theorem dX11_count_0 : decode cX11_count 0 = .ok (.iload_n 1, 1) := by decide +kernel
theorem dX11_count_1 : decode cX11_count 1 = .ok (.tableswitch 96 0 6 #[43, 51, 56, 64, 72, 80, 88], 43) := by decide +kernel
theorem dX11_count_44 : decode cX11_count 44 = .ok (.aload_n 0, 1) := by decide +kernel
theorem dX11_count_45 : decode cX11_count 45 = .ok (.getfield 70, 3) := by decide +kernel
theorem dX11_count_48 : decode cX11_count 48 = .ok (.getfield 90, 3) := by decide +kernel
theorem dX11_count_51 : decode cX11_count 51 = .ok (.ireturn, 1) := by decide +kernel
theorem dX11_count_52 : decode cX11_count 52 = .ok (.aload_n 0, 1) := by decide +kernel
theorem dX11_count_53 : decode cX11_count 53 = .ok (.getfield 147, 3) := by decide +kernel
theorem dX11_count_56 : decode cX11_count 56 = .ok (.ireturn, 1) := by decide +kernel
theorem dX11_count_57 : decode cX11_count 57 = .ok (.aload_n 0, 1) := by decide +kernel
theorem dX11_count_58 : decode cX11_count 58 = .ok (.getfield 70, 3) := by decide +kernel
theorem dX11_count_61 : decode cX11_count 61 = .ok (.getfield 224, 3) := by decide +kernel
theorem dX11_count_64 : decode cX11_count 64 = .ok (.ireturn, 1) := by decide +kernel
theorem dX11_count_65 : decode cX11_count 65 = .ok (.aload_n 0, 1) := by decide +kernel
theorem dX11_count_66 : decode cX11_count 66 = .ok (.getfield 70, 3) := by decide +kernel
theorem dX11_count_69 : decode cX11_count 69 = .ok (.getfield 255, 3) := by decide +kernel
theorem dX11_count_72 : decode cX11_count 72 = .ok (.ireturn, 1) := by decide +kernel
theorem dX11_count_73 : decode cX11_count 73 = .ok (.aload_n 0, 1) := by decide +kernel
theorem dX11_count_74 : decode cX11_count 74 = .ok (.getfield 70, 3) := by decide +kernel
theorem dX11_count_77 : decode cX11_count 77 = .ok (.getfield 267, 3) := by decide +kernel
theorem dX11_count_80 : decode cX11_count 80 = .ok (.ireturn, 1) := by decide +kernel
theorem dX11_count_81 : decode cX11_count 81 = .ok (.aload_n 0, 1) := by decide +kernel
theorem dX11_count_82 : decode cX11_count 82 = .ok (.getfield 14, 3) := by decide +kernel
theorem dX11_count_85 : decode cX11_count 85 = .ok (.getfield 140, 3) := by decide +kernel
theorem dX11_count_88 : decode cX11_count 88 = .ok (.ireturn, 1) := by decide +kernel
theorem dX11_count_89 : decode cX11_count 89 = .ok (.aload_n 0, 1) := by decide +kernel
theorem dX11_count_90 : decode cX11_count 90 = .ok (.getfield 21, 3) := by decide +kernel
theorem dX11_count_93 : decode cX11_count 93 = .ok (.getfield 286, 3) := by decide +kernel
theorem dX11_count_96 : decode cX11_count 96 = .ok (.ireturn, 1) := by decide +kernel
theorem dX11_count_97 : decode cX11_count 97 = .ok (.bipush (-2), 2) := by decide +kernel
theorem dX11_count_99 : decode cX11_count 99 = .ok (.ireturn, 1) := by decide +kernel
theorem dX11_tape_0 : decode cX11_tape 0 = .ok (.iload_n 1, 1) := by decide +kernel
theorem dX11_tape_1 : decode cX11_tape 1 = .ok (.iconst 5, 1) := by decide +kernel
theorem dX11_tape_2 : decode cX11_tape 2 = .ok (.invokestatic 86, 3) := by decide +kernel
theorem dX11_tape_5 : decode cX11_tape 5 = .ok (.ifCond .ne 5, 3) := by decide +kernel
theorem dX11_tape_8 : decode cX11_tape 8 = .ok (.iconst (-1), 1) := by decide +kernel
theorem dX11_tape_9 : decode cX11_tape 9 = .ok (.ireturn, 1) := by decide +kernel
theorem dX11_tape_10 : decode cX11_tape 10 = .ok (.iload_n 2, 1) := by decide +kernel
theorem dX11_tape_11 : decode cX11_tape 11 = .ok (.iconst (-1), 1) := by decide +kernel
theorem dX11_tape_12 : decode cX11_tape 12 = .ok (.if_icmp .lt 19, 3) := by decide +kernel
theorem dX11_tape_15 : decode cX11_tape 15 = .ok (.iload_n 2, 1) := by decide +kernel
theorem dX11_tape_16 : decode cX11_tape 16 = .ok (.iconst 4, 1) := by decide +kernel
theorem dX11_tape_17 : decode cX11_tape 17 = .ok (.if_icmp .gt 14, 3) := by decide +kernel
theorem dX11_tape_20 : decode cX11_tape 20 = .ok (.iload_n 2, 1) := by decide +kernel
theorem dX11_tape_21 : decode cX11_tape 21 = .ok (.iconst (-1), 1) := by decide +kernel
theorem dX11_tape_22 : decode cX11_tape 22 = .ok (.if_icmp .eq 12, 3) := by decide +kernel
theorem dX11_tape_25 : decode cX11_tape 25 = .ok (.iload_n 3, 1) := by decide +kernel
theorem dX11_tape_26 : decode cX11_tape 26 = .ok (.bipush 60, 2) := by decide +kernel
theorem dX11_tape_28 : decode cX11_tape 28 = .ok (.if_icmp .le 6, 3) := by decide +kernel
theorem dX11_tape_31 : decode cX11_tape 31 = .ok (.bipush (-2), 2) := by decide +kernel
theorem dX11_tape_33 : decode cX11_tape 33 = .ok (.ireturn, 1) := by decide +kernel
theorem dX11_tape_34 : decode cX11_tape 34 = .ok (.iload_n 2, 1) := by decide +kernel
theorem dX11_tape_35 : decode cX11_tape 35 = .ok (.iconst (-1), 1) := by decide +kernel
theorem dX11_tape_36 : decode cX11_tape 36 = .ok (.if_icmp .eq 10, 3) := by decide +kernel
theorem dX11_tape_39 : decode cX11_tape 39 = .ok (.iload_n 3, 1) := by decide +kernel
theorem dX11_tape_40 : decode cX11_tape 40 = .ok (.ifCond .ge 6, 3) := by decide +kernel
theorem dX11_tape_43 : decode cX11_tape 43 = .ok (.bipush (-14), 2) := by decide +kernel
theorem dX11_tape_45 : decode cX11_tape 45 = .ok (.ireturn, 1) := by decide +kernel
theorem dX11_tape_46 : decode cX11_tape 46 = .ok (.aload_n 0, 1) := by decide +kernel
theorem dX11_tape_47 : decode cX11_tape 47 = .ok (.getfield 29, 3) := by decide +kernel
theorem dX11_tape_50 : decode cX11_tape 50 = .ok (.iload_n 1, 1) := by decide +kernel
theorem dX11_tape_51 : decode cX11_tape 51 = .ok (.iload_n 2, 1) := by decide +kernel
theorem dX11_tape_52 : decode cX11_tape 52 = .ok (.iastore, 1) := by decide +kernel
theorem dX11_tape_53 : decode cX11_tape 53 = .ok (.aload_n 0, 1) := by decide +kernel
theorem dX11_tape_54 : decode cX11_tape 54 = .ok (.getfield 32, 3) := by decide +kernel
theorem dX11_tape_57 : decode cX11_tape 57 = .ok (.iload_n 1, 1) := by decide +kernel
theorem dX11_tape_58 : decode cX11_tape 58 = .ok (.iload_n 2, 1) := by decide +kernel
theorem dX11_tape_59 : decode cX11_tape 59 = .ok (.iconst (-1), 1) := by decide +kernel
theorem dX11_tape_60 : decode cX11_tape 60 = .ok (.if_icmp .ne 7, 3) := by decide +kernel
theorem dX11_tape_63 : decode cX11_tape 63 = .ok (.iconst 0, 1) := by decide +kernel
theorem dX11_tape_64 : decode cX11_tape 64 = .ok (.goto 4, 3) := by decide +kernel
theorem dX11_tape_67 : decode cX11_tape 67 = .ok (.iload_n 3, 1) := by decide +kernel
theorem dX11_tape_68 : decode cX11_tape 68 = .ok (.iastore, 1) := by decide +kernel
theorem dX11_tape_69 : decode cX11_tape 69 = .ok (.aload_n 0, 1) := by decide +kernel
theorem dX11_tape_70 : decode cX11_tape 70 = .ok (.getfield 37, 3) := by decide +kernel
theorem dX11_tape_73 : decode cX11_tape 73 = .ok (.iload_n 1, 1) := by decide +kernel
theorem dX11_tape_74 : decode cX11_tape 74 = .ok (.aaload, 1) := by decide +kernel
theorem dX11_tape_75 : decode cX11_tape 75 = .ok (.lconst 0, 1) := by decide +kernel
theorem dX11_tape_76 : decode cX11_tape 76 = .ok (.invokestatic 314, 3) := by decide +kernel
theorem dX11_tape_79 : decode cX11_tape 79 = .ok (.iconst 1, 1) := by decide +kernel
theorem dX11_tape_80 : decode cX11_tape 80 = .ok (.ireturn, 1) := by decide +kernel
theorem dX11_item_0 : decode cX11_item 0 = .ok (.iload_n 1, 1) := by decide +kernel
theorem dX11_item_1 : decode cX11_item 1 = .ok (.iconst 5, 1) := by decide +kernel
theorem dX11_item_2 : decode cX11_item 2 = .ok (.invokestatic 86, 3) := by decide +kernel
theorem dX11_item_5 : decode cX11_item 5 = .ok (.ifCond .ne 5, 3) := by decide +kernel
theorem dX11_item_8 : decode cX11_item 8 = .ok (.iconst (-1), 1) := by decide +kernel
theorem dX11_item_9 : decode cX11_item 9 = .ok (.ireturn, 1) := by decide +kernel
theorem dX11_item_10 : decode cX11_item 10 = .ok (.aload_n 0, 1) := by decide +kernel
theorem dX11_item_11 : decode cX11_item 11 = .ok (.getfield 29, 3) := by decide +kernel
theorem dX11_item_14 : decode cX11_item 14 = .ok (.iload_n 1, 1) := by decide +kernel
theorem dX11_item_15 : decode cX11_item 15 = .ok (.iaload, 1) := by decide +kernel
theorem dX11_item_16 : decode cX11_item 16 = .ok (.iconst (-1), 1) := by decide +kernel
theorem dX11_item_17 : decode cX11_item 17 = .ok (.if_icmp .ne 6, 3) := by decide +kernel
theorem dX11_item_20 : decode cX11_item 20 = .ok (.bipush (-11), 2) := by decide +kernel
theorem dX11_item_22 : decode cX11_item 22 = .ok (.ireturn, 1) := by decide +kernel
theorem dX11_item_23 : decode cX11_item 23 = .ok (.aload_n 0, 1) := by decide +kernel
theorem dX11_item_24 : decode cX11_item 24 = .ok (.iload_n 1, 1) := by decide +kernel
theorem dX11_item_25 : decode cX11_item 25 = .ok (.iload_n 2, 1) := by decide +kernel
theorem dX11_item_26 : decode cX11_item 26 = .ok (.invokevirtual 276, 3) := by decide +kernel
theorem dX11_item_29 : decode cX11_item 29 = .ok (.ifCond .ne 6, 3) := by decide +kernel
theorem dX11_item_32 : decode cX11_item 32 = .ok (.bipush (-13), 2) := by decide +kernel
theorem dX11_item_34 : decode cX11_item 34 = .ok (.ireturn, 1) := by decide +kernel
theorem dX11_item_35 : decode cX11_item 35 = .ok (.aload_n 0, 1) := by decide +kernel
theorem dX11_item_36 : decode cX11_item 36 = .ok (.getfield 37, 3) := by decide +kernel
theorem dX11_item_39 : decode cX11_item 39 = .ok (.iload_n 1, 1) := by decide +kernel
theorem dX11_item_40 : decode cX11_item 40 = .ok (.aaload, 1) := by decide +kernel
theorem dX11_item_41 : decode cX11_item 41 = .ok (.iload_n 2, 1) := by decide +kernel
theorem dX11_item_42 : decode cX11_item 42 = .ok (.aload_n 0, 1) := by decide +kernel
theorem dX11_item_43 : decode cX11_item 43 = .ok (.getfield 29, 3) := by decide +kernel
theorem dX11_item_46 : decode cX11_item 46 = .ok (.iload_n 1, 1) := by decide +kernel
theorem dX11_item_47 : decode cX11_item 47 = .ok (.iaload, 1) := by decide +kernel
theorem dX11_item_48 : decode cX11_item 48 = .ok (.lload_n 3, 1) := by decide +kernel
theorem dX11_item_49 : decode cX11_item 49 = .ok (.invokestatic 317, 3) := by decide +kernel
theorem dX11_item_52 : decode cX11_item 52 = .ok (.lastore, 1) := by decide +kernel
theorem dX11_item_53 : decode cX11_item 53 = .ok (.iconst 1, 1) := by decide +kernel
theorem dX11_item_54 : decode cX11_item 54 = .ok (.ireturn, 1) := by decide +kernel
theorem dX11_read_0 : decode cX11_read 0 = .ok (.iload_n 1, 1) := by decide +kernel
theorem dX11_read_1 : decode cX11_read 1 = .ok (.iconst 5, 1) := by decide +kernel
theorem dX11_read_2 : decode cX11_read 2 = .ok (.invokestatic 86, 3) := by decide +kernel
theorem dX11_read_5 : decode cX11_read 5 = .ok (.ifCond .eq 12, 3) := by decide +kernel
theorem dX11_read_8 : decode cX11_read 8 = .ok (.aload_n 0, 1) := by decide +kernel
theorem dX11_read_9 : decode cX11_read 9 = .ok (.iload_n 1, 1) := by decide +kernel
theorem dX11_read_10 : decode cX11_read 10 = .ok (.iload_n 2, 1) := by decide +kernel
theorem dX11_read_11 : decode cX11_read 11 = .ok (.invokevirtual 276, 3) := by decide +kernel
theorem dX11_read_14 : decode cX11_read 14 = .ok (.ifCond .ne 7, 3) := by decide +kernel
theorem dX11_read_17 : decode cX11_read 17 = .ok (.ldc2_w 243, 3) := by decide +kernel
theorem dX11_read_20 : decode cX11_read 20 = .ok (.lreturn, 1) := by decide +kernel
theorem dX11_read_21 : decode cX11_read 21 = .ok (.aload_n 0, 1) := by decide +kernel
theorem dX11_read_22 : decode cX11_read 22 = .ok (.getfield 37, 3) := by decide +kernel
theorem dX11_read_25 : decode cX11_read 25 = .ok (.iload_n 1, 1) := by decide +kernel
theorem dX11_read_26 : decode cX11_read 26 = .ok (.aaload, 1) := by decide +kernel
theorem dX11_read_27 : decode cX11_read 27 = .ok (.iload_n 2, 1) := by decide +kernel
theorem dX11_read_28 : decode cX11_read 28 = .ok (.laload, 1) := by decide +kernel
theorem dX11_read_29 : decode cX11_read 29 = .ok (.lreturn, 1) := by decide +kernel
theorem dX11_shift_0 : decode cX11_shift 0 = .ok (.iload_n 1, 1) := by decide +kernel
theorem dX11_shift_1 : decode cX11_shift 1 = .ok (.iconst 5, 1) := by decide +kernel
theorem dX11_shift_2 : decode cX11_shift 2 = .ok (.invokestatic 86, 3) := by decide +kernel
theorem dX11_shift_5 : decode cX11_shift 5 = .ok (.ifCond .eq 11, 3) := by decide +kernel
theorem dX11_shift_8 : decode cX11_shift 8 = .ok (.iload_n 3, 1) := by decide +kernel
theorem dX11_shift_9 : decode cX11_shift 9 = .ok (.iconst 5, 1) := by decide +kernel
theorem dX11_shift_10 : decode cX11_shift 10 = .ok (.invokestatic 86, 3) := by decide +kernel
theorem dX11_shift_13 : decode cX11_shift 13 = .ok (.ifCond .ne 5, 3) := by decide +kernel
theorem dX11_shift_16 : decode cX11_shift 16 = .ok (.iconst (-1), 1) := by decide +kernel
theorem dX11_shift_17 : decode cX11_shift 17 = .ok (.ireturn, 1) := by decide +kernel
theorem dX11_shift_18 : decode cX11_shift 18 = .ok (.aload_n 0, 1) := by decide +kernel
theorem dX11_shift_19 : decode cX11_shift 19 = .ok (.getfield 29, 3) := by decide +kernel
theorem dX11_shift_22 : decode cX11_shift 22 = .ok (.iload_n 1, 1) := by decide +kernel
theorem dX11_shift_23 : decode cX11_shift 23 = .ok (.iaload, 1) := by decide +kernel
theorem dX11_shift_24 : decode cX11_shift 24 = .ok (.iconst (-1), 1) := by decide +kernel
theorem dX11_shift_25 : decode cX11_shift 25 = .ok (.if_icmp .eq 13, 3) := by decide +kernel
theorem dX11_shift_28 : decode cX11_shift 28 = .ok (.aload_n 0, 1) := by decide +kernel
theorem dX11_shift_29 : decode cX11_shift 29 = .ok (.getfield 29, 3) := by decide +kernel
theorem dX11_shift_32 : decode cX11_shift 32 = .ok (.iload_n 3, 1) := by decide +kernel
theorem dX11_shift_33 : decode cX11_shift 33 = .ok (.iaload, 1) := by decide +kernel
theorem dX11_shift_34 : decode cX11_shift 34 = .ok (.iconst (-1), 1) := by decide +kernel
theorem dX11_shift_35 : decode cX11_shift 35 = .ok (.if_icmp .ne 6, 3) := by decide +kernel
theorem dX11_shift_38 : decode cX11_shift 38 = .ok (.bipush (-11), 2) := by decide +kernel
theorem dX11_shift_40 : decode cX11_shift 40 = .ok (.ireturn, 1) := by decide +kernel
theorem dX11_shift_41 : decode cX11_shift 41 = .ok (.aload_n 0, 1) := by decide +kernel
theorem dX11_shift_42 : decode cX11_shift 42 = .ok (.getfield 29, 3) := by decide +kernel
theorem dX11_shift_45 : decode cX11_shift 45 = .ok (.iload_n 1, 1) := by decide +kernel
theorem dX11_shift_46 : decode cX11_shift 46 = .ok (.iaload, 1) := by decide +kernel
theorem dX11_shift_47 : decode cX11_shift 47 = .ok (.aload_n 0, 1) := by decide +kernel
theorem dX11_shift_48 : decode cX11_shift 48 = .ok (.getfield 29, 3) := by decide +kernel
theorem dX11_shift_51 : decode cX11_shift 51 = .ok (.iload_n 3, 1) := by decide +kernel
theorem dX11_shift_52 : decode cX11_shift 52 = .ok (.iaload, 1) := by decide +kernel
theorem dX11_shift_53 : decode cX11_shift 53 = .ok (.if_icmp .eq 6, 3) := by decide +kernel
theorem dX11_shift_56 : decode cX11_shift 56 = .ok (.bipush (-12), 2) := by decide +kernel
theorem dX11_shift_58 : decode cX11_shift 58 = .ok (.ireturn, 1) := by decide +kernel
theorem dX11_shift_59 : decode cX11_shift 59 = .ok (.aload_n 0, 1) := by decide +kernel
theorem dX11_shift_60 : decode cX11_shift 60 = .ok (.iload_n 1, 1) := by decide +kernel
theorem dX11_shift_61 : decode cX11_shift 61 = .ok (.iload_n 2, 1) := by decide +kernel
theorem dX11_shift_62 : decode cX11_shift 62 = .ok (.iload 5, 2) := by decide +kernel
theorem dX11_shift_64 : decode cX11_shift 64 = .ok (.invokevirtual 321, 3) := by decide +kernel
theorem dX11_shift_67 : decode cX11_shift 67 = .ok (.ifCond .eq 15, 3) := by decide +kernel
theorem dX11_shift_70 : decode cX11_shift 70 = .ok (.aload_n 0, 1) := by decide +kernel
theorem dX11_shift_71 : decode cX11_shift 71 = .ok (.iload_n 3, 1) := by decide +kernel
theorem dX11_shift_72 : decode cX11_shift 72 = .ok (.iload 4, 2) := by decide +kernel
theorem dX11_shift_74 : decode cX11_shift 74 = .ok (.iload 5, 2) := by decide +kernel
theorem dX11_shift_76 : decode cX11_shift 76 = .ok (.invokevirtual 321, 3) := by decide +kernel
theorem dX11_shift_79 : decode cX11_shift 79 = .ok (.ifCond .ne 6, 3) := by decide +kernel
theorem dX11_shift_82 : decode cX11_shift 82 = .ok (.bipush (-13), 2) := by decide +kernel
theorem dX11_shift_84 : decode cX11_shift 84 = .ok (.ireturn, 1) := by decide +kernel
theorem dX11_shift_85 : decode cX11_shift 85 = .ok (.aload_n 0, 1) := by decide +kernel
theorem dX11_shift_86 : decode cX11_shift 86 = .ok (.getfield 37, 3) := by decide +kernel
theorem dX11_shift_89 : decode cX11_shift 89 = .ok (.iload_n 1, 1) := by decide +kernel
theorem dX11_shift_90 : decode cX11_shift 90 = .ok (.aaload, 1) := by decide +kernel
theorem dX11_shift_91 : decode cX11_shift 91 = .ok (.iload_n 2, 1) := by decide +kernel
theorem dX11_shift_92 : decode cX11_shift 92 = .ok (.aload_n 0, 1) := by decide +kernel
theorem dX11_shift_93 : decode cX11_shift 93 = .ok (.getfield 37, 3) := by decide +kernel
theorem dX11_shift_96 : decode cX11_shift 96 = .ok (.iload_n 3, 1) := by decide +kernel
theorem dX11_shift_97 : decode cX11_shift 97 = .ok (.aaload, 1) := by decide +kernel
theorem dX11_shift_98 : decode cX11_shift 98 = .ok (.iload 4, 2) := by decide +kernel
theorem dX11_shift_100 : decode cX11_shift 100 = .ok (.iload 5, 2) := by decide +kernel
theorem dX11_shift_102 : decode cX11_shift 102 = .ok (.invokestatic 324, 3) := by decide +kernel
theorem dX11_shift_105 : decode cX11_shift 105 = .ok (.iload 5, 2) := by decide +kernel
theorem dX11_shift_107 : decode cX11_shift 107 = .ok (.ireturn, 1) := by decide +kernel
theorem dX11_hasItem_0 : decode cX11_hasItem 0 = .ok (.iload_n 2, 1) := by decide +kernel
theorem dX11_hasItem_1 : decode cX11_hasItem 1 = .ok (.aload_n 0, 1) := by decide +kernel
theorem dX11_hasItem_2 : decode cX11_hasItem 2 = .ok (.getfield 32, 3) := by decide +kernel
theorem dX11_hasItem_5 : decode cX11_hasItem 5 = .ok (.iload_n 1, 1) := by decide +kernel
theorem dX11_hasItem_6 : decode cX11_hasItem 6 = .ok (.iaload, 1) := by decide +kernel
theorem dX11_hasItem_7 : decode cX11_hasItem 7 = .ok (.iconst 1, 1) := by decide +kernel
theorem dX11_hasItem_8 : decode cX11_hasItem 8 = .ok (.isub, 1) := by decide +kernel
theorem dX11_hasItem_9 : decode cX11_hasItem 9 = .ok (.invokestatic 86, 3) := by decide +kernel
theorem dX11_hasItem_12 : decode cX11_hasItem 12 = .ok (.ireturn, 1) := by decide +kernel
theorem dX11_hasItems_0 : decode cX11_hasItems 0 = .ok (.iload_n 2, 1) := by decide +kernel
theorem dX11_hasItems_1 : decode cX11_hasItems 1 = .ok (.ifCond .lt 27, 3) := by decide +kernel
theorem dX11_hasItems_4 : decode cX11_hasItems 4 = .ok (.iload_n 3, 1) := by decide +kernel
theorem dX11_hasItems_5 : decode cX11_hasItems 5 = .ok (.ifCond .lt 23, 3) := by decide +kernel
theorem dX11_hasItems_8 : decode cX11_hasItems 8 = .ok (.iload_n 2, 1) := by decide +kernel
theorem dX11_hasItems_9 : decode cX11_hasItems 9 = .ok (.i2l, 1) := by decide +kernel
theorem dX11_hasItems_10 : decode cX11_hasItems 10 = .ok (.iload_n 3, 1) := by decide +kernel
theorem dX11_hasItems_11 : decode cX11_hasItems 11 = .ok (.i2l, 1) := by decide +kernel
theorem dX11_hasItems_12 : decode cX11_hasItems 12 = .ok (.ladd, 1) := by decide +kernel
theorem dX11_hasItems_13 : decode cX11_hasItems 13 = .ok (.aload_n 0, 1) := by decide +kernel
theorem dX11_hasItems_14 : decode cX11_hasItems 14 = .ok (.getfield 32, 3) := by decide +kernel
theorem dX11_hasItems_17 : decode cX11_hasItems 17 = .ok (.iload_n 1, 1) := by decide +kernel
theorem dX11_hasItems_18 : decode cX11_hasItems 18 = .ok (.iaload, 1) := by decide +kernel
theorem dX11_hasItems_19 : decode cX11_hasItems 19 = .ok (.i2l, 1) := by decide +kernel
theorem dX11_hasItems_20 : decode cX11_hasItems 20 = .ok (.lcmp, 1) := by decide +kernel
theorem dX11_hasItems_21 : decode cX11_hasItems 21 = .ok (.ifCond .gt 7, 3) := by decide +kernel
theorem dX11_hasItems_24 : decode cX11_hasItems 24 = .ok (.iconst 1, 1) := by decide +kernel
theorem dX11_hasItems_25 : decode cX11_hasItems 25 = .ok (.goto 4, 3) := by decide +kernel
theorem dX11_hasItems_28 : decode cX11_hasItems 28 = .ok (.iconst 0, 1) := by decide +kernel
theorem dX11_hasItems_29 : decode cX11_hasItems 29 = .ok (.ireturn, 1) := by decide +kernel
theorem dX11_lowestBits_0 : decode cX11_lowestBits 0 = .ok (.iload_n 0, 1) := by decide +kernel
theorem dX11_lowestBits_1 : decode cX11_lowestBits 1 = .ok (.tableswitch 47 0 3 #[31, 36, 41, 45], 31) := by decide +kernel
theorem dX11_lowestBits_32 : decode cX11_lowestBits 32 = .ok (.lload_n 1, 1) := by decide +kernel
theorem dX11_lowestBits_33 : decode cX11_lowestBits 33 = .ok (.l2i, 1) := by decide +kernel
theorem dX11_lowestBits_34 : decode cX11_lowestBits 34 = .ok (.i2b, 1) := by decide +kernel
theorem dX11_lowestBits_35 : decode cX11_lowestBits 35 = .ok (.i2l, 1) := by decide +kernel
theorem dX11_lowestBits_36 : decode cX11_lowestBits 36 = .ok (.lreturn, 1) := by decide +kernel
theorem dX11_lowestBits_37 : decode cX11_lowestBits 37 = .ok (.lload_n 1, 1) := by decide +kernel
theorem dX11_lowestBits_38 : decode cX11_lowestBits 38 = .ok (.l2i, 1) := by decide +kernel
theorem dX11_lowestBits_39 : decode cX11_lowestBits 39 = .ok (.i2s, 1) := by decide +kernel
theorem dX11_lowestBits_40 : decode cX11_lowestBits 40 = .ok (.i2l, 1) := by decide +kernel
theorem dX11_lowestBits_41 : decode cX11_lowestBits 41 = .ok (.lreturn, 1) := by decide +kernel
theorem dX11_lowestBits_42 : decode cX11_lowestBits 42 = .ok (.lload_n 1, 1) := by decide +kernel
theorem dX11_lowestBits_43 : decode cX11_lowestBits 43 = .ok (.l2i, 1) := by decide +kernel
end
section
theorem dX11_lowestBits_44 : decode cX11_lowestBits 44 = .ok (.i2l, 1) := by decide +kernel
theorem dX11_lowestBits_45 : decode cX11_lowestBits 45 = .ok (.lreturn, 1) := by decide +kernel
theorem dX11_lowestBits_46 : decode cX11_lowestBits 46 = .ok (.lload_n 1, 1) := by decide +kernel
theorem dX11_lowestBits_47 : decode cX11_lowestBits 47 = .ok (.lreturn, 1) := by decide +kernel
theorem dX11_lowestBits_48 : decode cX11_lowestBits 48 = .ok (.lload_n 1, 1) := by decide +kernel
theorem dX11_lowestBits_49 : decode cX11_lowestBits 49 = .ok (.lconst 0, 1) := by decide +kernel
theorem dX11_lowestBits_50 : decode cX11_lowestBits 50 = .ok (.lcmp, 1) := by decide +kernel
theorem dX11_lowestBits_51 : decode cX11_lowestBits 51 = .ok (.ifCond .eq 7, 3) := by decide +kernel
theorem dX11_lowestBits_54 : decode cX11_lowestBits 54 = .ok (.lconst 1, 1) := by decide +kernel
theorem dX11_lowestBits_55 : decode cX11_lowestBits 55 = .ok (.goto 4, 3) := by decide +kernel
theorem dX11_lowestBits_58 : decode cX11_lowestBits 58 = .ok (.lconst 0, 1) := by decide +kernel
theorem dX11_lowestBits_59 : decode cX11_lowestBits 59 = .ok (.lreturn, 1) := by decide +kernel
theorem dX11_within_0 : decode cX11_within 0 = .ok (.iload_n 0, 1) := by decide +kernel
theorem dX11_within_1 : decode cX11_within 1 = .ok (.ifCond .lt 12, 3) := by decide +kernel
theorem dX11_within_4 : decode cX11_within 4 = .ok (.iload_n 0, 1) := by decide +kernel
theorem dX11_within_5 : decode cX11_within 5 = .ok (.iload_n 1, 1) := by decide +kernel
theorem dX11_within_6 : decode cX11_within 6 = .ok (.if_icmp .gt 7, 3) := by decide +kernel
theorem dX11_within_9 : decode cX11_within 9 = .ok (.iconst 1, 1) := by decide +kernel
theorem dX11_within_10 : decode cX11_within 10 = .ok (.goto 4, 3) := by decide +kernel
theorem dX11_within_13 : decode cX11_within 13 = .ok (.iconst 0, 1) := by decide +kernel
theorem dX11_within_14 : decode cX11_within 14 = .ok (.ireturn, 1) := by decide +kernel
theorem dX11_swap_0 : decode cX11_swap 0 = .ok (.aload_n 0, 1) := by decide +kernel
theorem dX11_swap_1 : decode cX11_swap 1 = .ok (.iload_n 1, 1) := by decide +kernel
theorem dX11_swap_2 : decode cX11_swap 2 = .ok (.iaload, 1) := by decide +kernel
theorem dX11_swap_3 : decode cX11_swap 3 = .ok (.istore_n 3, 1) := by decide +kernel
theorem dX11_swap_4 : decode cX11_swap 4 = .ok (.aload_n 0, 1) := by decide +kernel
theorem dX11_swap_5 : decode cX11_swap 5 = .ok (.iload_n 1, 1) := by decide +kernel
theorem dX11_swap_6 : decode cX11_swap 6 = .ok (.iload_n 2, 1) := by decide +kernel
theorem dX11_swap_7 : decode cX11_swap 7 = .ok (.iastore, 1) := by decide +kernel
theorem dX11_swap_8 : decode cX11_swap 8 = .ok (.iload_n 3, 1) := by decide +kernel
theorem dX11_swap_9 : decode cX11_swap 9 = .ok (.ireturn, 1) := by decide +kernel
end
section
theorem dX0_init_0 : decode cX0_init 0 = .ok (.aload_n 0, 1) := by decide +kernel
theorem dX0_init_1 : decode cX0_init 1 = .ok (.invokespecial 3, 3) := by decide +kernel
theorem dX0_init_4 : decode cX0_init 4 = .ok (.aload_n 0, 1) := by decide +kernel
theorem dX0_init_5 : decode cX0_init 5 = .ok (.bipush 20, 2) := by decide +kernel
theorem dX0_init_7 : decode cX0_init 7 = .ok (.newarray .int, 2) := by decide +kernel
theorem dX0_init_9 : decode cX0_init 9 = .ok (.putfield 9, 3) := by decide +kernel
theorem dX0_init_12 : decode cX0_init 12 = .ok (.return_, 1) := by decide +kernel
theorem dX0_begin_0 : decode cX0_begin 0 = .ok (.aload_n 0, 1) := by decide +kernel
theorem dX0_begin_1 : decode cX0_begin 1 = .ok (.getfield 15, 3) := by decide +kernel
theorem dX0_begin_4 : decode cX0_begin 4 = .ok (.bipush 20, 2) := by decide +kernel
theorem dX0_begin_6 : decode cX0_begin 6 = .ok (.if_icmp .ge 13, 3) := by decide +kernel
theorem dX0_begin_9 : decode cX0_begin 9 = .ok (.aload_n 0, 1) := by decide +kernel
theorem dX0_begin_10 : decode cX0_begin 10 = .ok (.getfield 9, 3) := by decide +kernel
theorem dX0_begin_13 : decode cX0_begin 13 = .ok (.aload_n 0, 1) := by decide +kernel
theorem dX0_begin_14 : decode cX0_begin 14 = .ok (.getfield 15, 3) := by decide +kernel
theorem dX0_begin_17 : decode cX0_begin 17 = .ok (.iload_n 1, 1) := by decide +kernel
theorem dX0_begin_18 : decode cX0_begin 18 = .ok (.iastore, 1) := by decide +kernel
theorem dX0_begin_19 : decode cX0_begin 19 = .ok (.aload_n 0, 1) := by decide +kernel
theorem dX0_begin_20 : decode cX0_begin 20 = .ok (.dup, 1) := by decide +kernel
theorem dX0_begin_21 : decode cX0_begin 21 = .ok (.getfield 15, 3) := by decide +kernel
theorem dX0_begin_24 : decode cX0_begin 24 = .ok (.iconst 1, 1) := by decide +kernel
theorem dX0_begin_25 : decode cX0_begin 25 = .ok (.iadd, 1) := by decide +kernel
theorem dX0_begin_26 : decode cX0_begin 26 = .ok (.putfield 15, 3) := by decide +kernel
theorem dX0_begin_29 : decode cX0_begin 29 = .ok (.return_, 1) := by decide +kernel
theorem dX1_init_0 : decode cX1_init 0 = .ok (.aload_n 0, 1) := by decide +kernel
theorem dX1_init_1 : decode cX1_init 1 = .ok (.invokespecial 3, 3) := by decide +kernel
theorem dX1_init_4 : decode cX1_init 4 = .ok (.return_, 1) := by decide +kernel
theorem dX1_brightness_0 : decode cX1_brightness 0 = .ok (.aload_n 0, 1) := by decide +kernel
theorem dX1_brightness_1 : decode cX1_brightness 1 = .ok (.aload_n 1, 1) := by decide +kernel
theorem dX1_brightness_2 : decode cX1_brightness 2 = .ok (.aload_n 2, 1) := by decide +kernel
theorem dX1_brightness_3 : decode cX1_brightness 3 = .ok (.iload_n 3, 1) := by decide +kernel
theorem dX1_brightness_4 : decode cX1_brightness 4 = .ok (.invokespecial 9, 3) := by decide +kernel
theorem dX1_brightness_7 : decode cX1_brightness 7 = .ok (.iconst 2, 1) := by decide +kernel
theorem dX1_brightness_8 : decode cX1_brightness 8 = .ok (.aload_n 1, 1) := by decide +kernel
theorem dX1_brightness_9 : decode cX1_brightness 9 = .ok (.iconst 2, 1) := by decide +kernel
theorem dX1_brightness_10 : decode cX1_brightness 10 = .ok (.invokevirtual 13, 3) := by decide +kernel
theorem dX1_brightness_13 : decode cX1_brightness 13 = .ok (.invokestatic 19, 3) := by decide +kernel
theorem dX1_brightness_16 : decode cX1_brightness 16 = .ok (.imul, 1) := by decide +kernel
theorem dX1_brightness_17 : decode cX1_brightness 17 = .ok (.iadd, 1) := by decide +kernel
theorem dX1_brightness_18 : decode cX1_brightness 18 = .ok (.ireturn, 1) := by decide +kernel
theorem dX1_hisses_0 : decode cX1_hisses 0 = .ok (.aload_n 1, 1) := by decide +kernel
theorem dX1_hisses_1 : decode cX1_hisses 1 = .ok (.bipush 50, 2) := by decide +kernel
theorem dX1_hisses_3 : decode cX1_hisses 3 = .ok (.invokevirtual 24, 3) := by decide +kernel
theorem dX1_hisses_6 : decode cX1_hisses 6 = .ok (.aload_n 0, 1) := by decide +kernel
theorem dX1_hisses_7 : decode cX1_hisses 7 = .ok (.aload_n 1, 1) := by decide +kernel
theorem dX1_hisses_8 : decode cX1_hisses 8 = .ok (.iload_n 2, 1) := by decide +kernel
theorem dX1_hisses_9 : decode cX1_hisses 9 = .ok (.invokespecial 30, 3) := by decide +kernel
theorem dX1_hisses_12 : decode cX1_hisses 12 = .ok (.ineg, 1) := by decide +kernel
theorem dX1_hisses_13 : decode cX1_hisses 13 = .ok (.ireturn, 1) := by decide +kernel
theorem dX1_climbs_0 : decode cX1_climbs 0 = .ok (.aload_n 1, 1) := by decide +kernel
theorem dX1_climbs_1 : decode cX1_climbs 1 = .ok (.bipush 51, 2) := by decide +kernel
theorem dX1_climbs_3 : decode cX1_climbs 3 = .ok (.invokevirtual 24, 3) := by decide +kernel
theorem dX1_climbs_6 : decode cX1_climbs 6 = .ok (.aload_n 0, 1) := by decide +kernel
theorem dX1_climbs_7 : decode cX1_climbs 7 = .ok (.aload_n 1, 1) := by decide +kernel
theorem dX1_climbs_8 : decode cX1_climbs 8 = .ok (.iload_n 2, 1) := by decide +kernel
theorem dX1_climbs_9 : decode cX1_climbs 9 = .ok (.iconst 1, 1) := by decide +kernel
theorem dX1_climbs_10 : decode cX1_climbs 10 = .ok (.iadd, 1) := by decide +kernel
theorem dX1_climbs_11 : decode cX1_climbs 11 = .ok (.invokespecial 34, 3) := by decide +kernel
theorem dX1_climbs_14 : decode cX1_climbs 14 = .ok (.ireturn, 1) := by decide +kernel
theorem dX2_init_0 : decode cX2_init 0 = .ok (.aload_n 0, 1) := by decide +kernel
theorem dX2_init_1 : decode cX2_init 1 = .ok (.invokespecial 3, 3) := by decide +kernel
theorem dX2_init_4 : decode cX2_init 4 = .ok (.return_, 1) := by decide +kernel
theorem dX2_brightness_0 : decode cX2_brightness 0 = .ok (.iload_n 3, 1) := by decide +kernel
theorem dX2_brightness_1 : decode cX2_brightness 1 = .ok (.aload_n 2, 1) := by decide +kernel
theorem dX2_brightness_2 : decode cX2_brightness 2 = .ok (.iconst 1, 1) := by decide +kernel
theorem dX2_brightness_3 : decode cX2_brightness 3 = .ok (.iaload, 1) := by decide +kernel
theorem dX2_brightness_4 : decode cX2_brightness 4 = .ok (.iadd, 1) := by decide +kernel
theorem dX2_brightness_5 : decode cX2_brightness 5 = .ok (.ireturn, 1) := by decide +kernel
theorem dX2_climbs_0 : decode cX2_climbs 0 = .ok (.aload_n 1, 1) := by decide +kernel
theorem dX2_climbs_1 : decode cX2_climbs 1 = .ok (.bipush 20, 2) := by decide +kernel
theorem dX2_climbs_3 : decode cX2_climbs 3 = .ok (.invokevirtual 9, 3) := by decide +kernel
theorem dX2_climbs_6 : decode cX2_climbs 6 = .ok (.aload_n 0, 1) := by decide +kernel
theorem dX2_climbs_7 : decode cX2_climbs 7 = .ok (.aload_n 1, 1) := by decide +kernel
theorem dX2_climbs_8 : decode cX2_climbs 8 = .ok (.iload_n 2, 1) := by decide +kernel
theorem dX2_climbs_9 : decode cX2_climbs 9 = .ok (.invokespecial 15, 3) := by decide +kernel
theorem dX2_climbs_12 : decode cX2_climbs 12 = .ok (.bipush 6, 2) := by decide +kernel
theorem dX2_climbs_14 : decode cX2_climbs 14 = .ok (.ixor, 1) := by decide +kernel
theorem dX2_climbs_15 : decode cX2_climbs 15 = .ok (.ireturn, 1) := by decide +kernel
theorem dX3_init_0 : decode cX3_init 0 = .ok (.aload_n 0, 1) := by decide +kernel
theorem dX3_init_1 : decode cX3_init 1 = .ok (.invokespecial 3, 3) := by decide +kernel
theorem dX3_init_4 : decode cX3_init 4 = .ok (.return_, 1) := by decide +kernel
theorem dX3_brightness_0 : decode cX3_brightness 0 = .ok (.aload_n 1, 1) := by decide +kernel
theorem dX3_brightness_1 : decode cX3_brightness 1 = .ok (.invokevirtual 9, 3) := by decide +kernel
theorem dX3_brightness_4 : decode cX3_brightness 4 = .ok (.aload_n 2, 1) := by decide +kernel
theorem dX3_brightness_5 : decode cX3_brightness 5 = .ok (.iconst 1, 1) := by decide +kernel
theorem dX3_brightness_6 : decode cX3_brightness 6 = .ok (.iaload, 1) := by decide +kernel
theorem dX3_brightness_7 : decode cX3_brightness 7 = .ok (.if_icmp .le 7, 3) := by decide +kernel
theorem dX3_brightness_10 : decode cX3_brightness 10 = .ok (.iconst 0, 1) := by decide +kernel
theorem dX3_brightness_11 : decode cX3_brightness 11 = .ok (.goto 4, 3) := by decide +kernel
theorem dX3_brightness_14 : decode cX3_brightness 14 = .ok (.iload_n 3, 1) := by decide +kernel
theorem dX3_brightness_15 : decode cX3_brightness 15 = .ok (.ireturn, 1) := by decide +kernel
theorem dX3_tells_0 : decode cX3_tells 0 = .ok (.aload_n 1, 1) := by decide +kernel
theorem dX3_tells_1 : decode cX3_tells 1 = .ok (.bipush 40, 2) := by decide +kernel
theorem dX3_tells_3 : decode cX3_tells 3 = .ok (.invokevirtual 15, 3) := by decide +kernel
theorem dX3_tells_6 : decode cX3_tells 6 = .ok (.aload_n 0, 1) := by decide +kernel
theorem dX3_tells_7 : decode cX3_tells 7 = .ok (.aload_n 1, 1) := by decide +kernel
theorem dX3_tells_8 : decode cX3_tells 8 = .ok (.iload_n 2, 1) := by decide +kernel
theorem dX3_tells_9 : decode cX3_tells 9 = .ok (.invokespecial 21, 3) := by decide +kernel
theorem dX3_tells_12 : decode cX3_tells 12 = .ok (.aload_n 0, 1) := by decide +kernel
theorem dX3_tells_13 : decode cX3_tells 13 = .ok (.aload_n 1, 1) := by decide +kernel
theorem dX3_tells_14 : decode cX3_tells 14 = .ok (.iconst 1, 1) := by decide +kernel
theorem dX3_tells_15 : decode cX3_tells 15 = .ok (.invokevirtual 25, 3) := by decide +kernel
theorem dX3_tells_18 : decode cX3_tells 18 = .ok (.iadd, 1) := by decide +kernel
theorem dX3_tells_19 : decode cX3_tells 19 = .ok (.ireturn, 1) := by decide +kernel
theorem dX4_init_0 : decode cX4_init 0 = .ok (.aload_n 0, 1) := by decide +kernel
theorem dX4_init_1 : decode cX4_init 1 = .ok (.invokespecial 3, 3) := by decide +kernel
theorem dX4_init_4 : decode cX4_init 4 = .ok (.aload_n 0, 1) := by decide +kernel
theorem dX4_init_5 : decode cX4_init 5 = .ok (.bipush 100, 2) := by decide +kernel
theorem dX4_init_7 : decode cX4_init 7 = .ok (.newarray .byte, 2) := by decide +kernel
theorem dX4_init_9 : decode cX4_init 9 = .ok (.putfield 9, 3) := by decide +kernel
theorem dX4_init_12 : decode cX4_init 12 = .ok (.aload_n 0, 1) := by decide +kernel
theorem dX4_init_13 : decode cX4_init 13 = .ok (.sipush 300, 3) := by decide +kernel
theorem dX4_init_16 : decode cX4_init 16 = .ok (.newarray .int, 2) := by decide +kernel
theorem dX4_init_18 : decode cX4_init 18 = .ok (.putfield 15, 3) := by decide +kernel
theorem dX4_init_21 : decode cX4_init 21 = .ok (.return_, 1) := by decide +kernel
theorem dX4_findFault_0 : decode cX4_findFault 0 = .ok (.aload_n 0, 1) := by decide +kernel
theorem dX4_findFault_1 : decode cX4_findFault 1 = .ok (.iconst 0, 1) := by decide +kernel
theorem dX4_findFault_2 : decode cX4_findFault 2 = .ok (.putfield 19, 3) := by decide +kernel
theorem dX4_findFault_5 : decode cX4_findFault 5 = .ok (.aload_n 0, 1) := by decide +kernel
theorem dX4_findFault_6 : decode cX4_findFault 6 = .ok (.iconst 0, 1) := by decide +kernel
theorem dX4_findFault_7 : decode cX4_findFault 7 = .ok (.putfield 23, 3) := by decide +kernel
theorem dX4_findFault_10 : decode cX4_findFault 10 = .ok (.aload_n 0, 1) := by decide +kernel
theorem dX4_findFault_11 : decode cX4_findFault 11 = .ok (.iconst 2, 1) := by decide +kernel
theorem dX4_findFault_12 : decode cX4_findFault 12 = .ok (.putfield 26, 3) := by decide +kernel
theorem dX4_findFault_15 : decode cX4_findFault 15 = .ok (.iconst 1, 1) := by decide +kernel
theorem dX4_findFault_16 : decode cX4_findFault 16 = .ok (.istore_n 1, 1) := by decide +kernel
theorem dX4_findFault_17 : decode cX4_findFault 17 = .ok (.iload_n 1, 1) := by decide +kernel
theorem dX4_findFault_18 : decode cX4_findFault 18 = .ok (.bipush 10, 2) := by decide +kernel
theorem dX4_findFault_20 : decode cX4_findFault 20 = .ok (.if_icmp .gt 54, 3) := by decide +kernel
theorem dX4_findFault_23 : decode cX4_findFault 23 = .ok (.aload_n 0, 1) := by decide +kernel
theorem dX4_findFault_24 : decode cX4_findFault 24 = .ok (.invokevirtual 29, 3) := by decide +kernel
theorem dX4_findFault_27 : decode cX4_findFault 27 = .ok (.ifCond .ne 8, 3) := by decide +kernel
theorem dX4_findFault_30 : decode cX4_findFault 30 = .ok (.aload_n 0, 1) := by decide +kernel
theorem dX4_findFault_31 : decode cX4_findFault 31 = .ok (.getfield 19, 3) := by decide +kernel
theorem dX4_findFault_34 : decode cX4_findFault 34 = .ok (.ireturn, 1) := by decide +kernel
theorem dX4_findFault_35 : decode cX4_findFault 35 = .ok (.aload_n 0, 1) := by decide +kernel
theorem dX4_findFault_36 : decode cX4_findFault 36 = .ok (.getfield 19, 3) := by decide +kernel
theorem dX4_findFault_39 : decode cX4_findFault 39 = .ok (.aload_n 0, 1) := by decide +kernel
theorem dX4_findFault_40 : decode cX4_findFault 40 = .ok (.getfield 33, 3) := by decide +kernel
theorem dX4_findFault_43 : decode cX4_findFault 43 = .ok (.if_icmp .ne 5, 3) := by decide +kernel
theorem dX4_findFault_46 : decode cX4_findFault 46 = .ok (.iconst (-1), 1) := by decide +kernel
theorem dX4_findFault_47 : decode cX4_findFault 47 = .ok (.ireturn, 1) := by decide +kernel
theorem dX4_findFault_48 : decode cX4_findFault 48 = .ok (.iload_n 1, 1) := by decide +kernel
theorem dX4_findFault_49 : decode cX4_findFault 49 = .ok (.bipush 10, 2) := by decide +kernel
theorem dX4_findFault_51 : decode cX4_findFault 51 = .ok (.if_icmp .eq 12, 3) := by decide +kernel
theorem dX4_findFault_54 : decode cX4_findFault 54 = .ok (.aload_n 0, 1) := by decide +kernel
theorem dX4_findFault_55 : decode cX4_findFault 55 = .ok (.bipush 59, 2) := by decide +kernel
theorem dX4_findFault_57 : decode cX4_findFault 57 = .ok (.invokevirtual 36, 3) := by decide +kernel
theorem dX4_findFault_60 : decode cX4_findFault 60 = .ok (.ifCond .ne 8, 3) := by decide +kernel
theorem dX4_findFault_63 : decode cX4_findFault 63 = .ok (.aload_n 0, 1) := by decide +kernel
theorem dX4_findFault_64 : decode cX4_findFault 64 = .ok (.getfield 19, 3) := by decide +kernel
theorem dX4_findFault_67 : decode cX4_findFault 67 = .ok (.ireturn, 1) := by decide +kernel
theorem dX4_findFault_68 : decode cX4_findFault 68 = .ok (.iinc 1 1, 3) := by decide +kernel
theorem dX4_findFault_71 : decode cX4_findFault 71 = .ok (.goto (-54), 3) := by decide +kernel
theorem dX4_findFault_74 : decode cX4_findFault 74 = .ok (.aload_n 0, 1) := by decide +kernel
theorem dX4_findFault_75 : decode cX4_findFault 75 = .ok (.getfield 19, 3) := by decide +kernel
theorem dX4_findFault_78 : decode cX4_findFault 78 = .ok (.ireturn, 1) := by decide +kernel
theorem dX4_makeShow_0 : decode cX4_makeShow 0 = .ok (.new 40, 3) := by decide +kernel
theorem dX4_makeShow_3 : decode cX4_makeShow 3 = .ok (.dup, 1) := by decide +kernel
theorem dX4_makeShow_4 : decode cX4_makeShow 4 = .ok (.aload_n 0, 1) := by decide +kernel
theorem dX4_makeShow_5 : decode cX4_makeShow 5 = .ok (.getfield 15, 3) := by decide +kernel
theorem dX4_makeShow_8 : decode cX4_makeShow 8 = .ok (.aload_n 0, 1) := by decide +kernel
theorem dX4_makeShow_9 : decode cX4_makeShow 9 = .ok (.getfield 23, 3) := by decide +kernel
theorem dX4_makeShow_12 : decode cX4_makeShow 12 = .ok (.invokestatic 42, 3) := by decide +kernel
theorem dX4_makeShow_15 : decode cX4_makeShow 15 = .ok (.aload_n 0, 1) := by decide +kernel
theorem dX4_makeShow_16 : decode cX4_makeShow 16 = .ok (.getfield 26, 3) := by decide +kernel
theorem dX4_makeShow_19 : decode cX4_makeShow 19 = .ok (.invokespecial 48, 3) := by decide +kernel
theorem dX4_makeShow_22 : decode cX4_makeShow 22 = .ok (.areturn, 1) := by decide +kernel
theorem dX4_takeClause_0 : decode cX4_takeClause 0 = .ok (.bipush 6, 2) := by decide +kernel
theorem dX4_takeClause_2 : decode cX4_takeClause 2 = .ok (.istore_n 1, 1) := by decide +kernel
theorem dX4_takeClause_3 : decode cX4_takeClause 3 = .ok (.aload_n 0, 1) := by decide +kernel
theorem dX4_takeClause_4 : decode cX4_takeClause 4 = .ok (.invokevirtual 51, 3) := by decide +kernel
theorem dX4_takeClause_7 : decode cX4_takeClause 7 = .ok (.bipush 98, 2) := by decide +kernel
theorem dX4_takeClause_9 : decode cX4_takeClause 9 = .ok (.if_icmp .ne 14, 3) := by decide +kernel
theorem dX4_takeClause_12 : decode cX4_takeClause 12 = .ok (.aload_n 0, 1) := by decide +kernel
theorem dX4_takeClause_13 : decode cX4_takeClause 13 = .ok (.ldc 55, 2) := by decide +kernel
theorem dX4_takeClause_15 : decode cX4_takeClause 15 = .ok (.invokevirtual 57, 3) := by decide +kernel
theorem dX4_takeClause_18 : decode cX4_takeClause 18 = .ok (.ifCond .ne 71, 3) := by decide +kernel
theorem dX4_takeClause_21 : decode cX4_takeClause 21 = .ok (.iconst 0, 1) := by decide +kernel
theorem dX4_takeClause_22 : decode cX4_takeClause 22 = .ok (.ireturn, 1) := by decide +kernel
theorem dX4_takeClause_23 : decode cX4_takeClause 23 = .ok (.aload_n 0, 1) := by decide +kernel
theorem dX4_takeClause_24 : decode cX4_takeClause 24 = .ok (.bipush 100, 2) := by decide +kernel
theorem dX4_takeClause_26 : decode cX4_takeClause 26 = .ok (.invokevirtual 36, 3) := by decide +kernel
theorem dX4_takeClause_29 : decode cX4_takeClause 29 = .ok (.ifCond .ne 5, 3) := by decide +kernel
theorem dX4_takeClause_32 : decode cX4_takeClause 32 = .ok (.iconst 0, 1) := by decide +kernel
theorem dX4_takeClause_33 : decode cX4_takeClause 33 = .ok (.ireturn, 1) := by decide +kernel
theorem dX4_takeClause_34 : decode cX4_takeClause 34 = .ok (.aload_n 0, 1) := by decide +kernel
theorem dX4_takeClause_35 : decode cX4_takeClause 35 = .ok (.invokevirtual 51, 3) := by decide +kernel
theorem dX4_takeClause_38 : decode cX4_takeClause 38 = .ok (.bipush 114, 2) := by decide +kernel
theorem dX4_takeClause_40 : decode cX4_takeClause 40 = .ok (.if_icmp .ne 35, 3) := by decide +kernel
theorem dX4_takeClause_43 : decode cX4_takeClause 43 = .ok (.aload_n 0, 1) := by decide +kernel
theorem dX4_takeClause_44 : decode cX4_takeClause 44 = .ok (.ldc 61, 2) := by decide +kernel
theorem dX4_takeClause_46 : decode cX4_takeClause 46 = .ok (.invokevirtual 57, 3) := by decide +kernel
theorem dX4_takeClause_49 : decode cX4_takeClause 49 = .ok (.ifCond .eq 14, 3) := by decide +kernel
theorem dX4_takeClause_52 : decode cX4_takeClause 52 = .ok (.aload_n 0, 1) := by decide +kernel
theorem dX4_takeClause_53 : decode cX4_takeClause 53 = .ok (.invokevirtual 63, 3) := by decide +kernel
theorem dX4_takeClause_56 : decode cX4_takeClause 56 = .ok (.ifCond .eq 7, 3) := by decide +kernel
theorem dX4_takeClause_59 : decode cX4_takeClause 59 = .ok (.iconst 1, 1) := by decide +kernel
theorem dX4_takeClause_60 : decode cX4_takeClause 60 = .ok (.goto 4, 3) := by decide +kernel
theorem dX4_takeClause_63 : decode cX4_takeClause 63 = .ok (.iconst 0, 1) := by decide +kernel
theorem dX4_takeClause_64 : decode cX4_takeClause 64 = .ok (.istore_n 2, 1) := by decide +kernel
theorem dX4_takeClause_65 : decode cX4_takeClause 65 = .ok (.aload_n 0, 1) := by decide +kernel
theorem dX4_takeClause_66 : decode cX4_takeClause 66 = .ok (.aload_n 0, 1) := by decide +kernel
theorem dX4_takeClause_67 : decode cX4_takeClause 67 = .ok (.getfield 66, 3) := by decide +kernel
theorem dX4_takeClause_70 : decode cX4_takeClause 70 = .ok (.putfield 26, 3) := by decide +kernel
theorem dX4_takeClause_73 : decode cX4_takeClause 73 = .ok (.iload_n 2, 1) := by decide +kernel
theorem dX4_takeClause_74 : decode cX4_takeClause 74 = .ok (.ireturn, 1) := by decide +kernel
theorem dX4_takeClause_75 : decode cX4_takeClause 75 = .ok (.aload_n 0, 1) := by decide +kernel
theorem dX4_takeClause_76 : decode cX4_takeClause 76 = .ok (.ldc 69, 2) := by decide +kernel
theorem dX4_takeClause_78 : decode cX4_takeClause 78 = .ok (.invokevirtual 57, 3) := by decide +kernel
theorem dX4_takeClause_81 : decode cX4_takeClause 81 = .ok (.ifCond .ne 5, 3) := by decide +kernel
theorem dX4_takeClause_84 : decode cX4_takeClause 84 = .ok (.iconst 0, 1) := by decide +kernel
theorem dX4_takeClause_85 : decode cX4_takeClause 85 = .ok (.ireturn, 1) := by decide +kernel
theorem dX4_takeClause_86 : decode cX4_takeClause 86 = .ok (.bipush 7, 2) := by decide +kernel
theorem dX4_takeClause_88 : decode cX4_takeClause 88 = .ok (.istore_n 1, 1) := by decide +kernel
theorem dX4_takeClause_89 : decode cX4_takeClause 89 = .ok (.aload_n 0, 1) := by decide +kernel
theorem dX4_takeClause_90 : decode cX4_takeClause 90 = .ok (.invokevirtual 63, 3) := by decide +kernel
theorem dX4_takeClause_93 : decode cX4_takeClause 93 = .ok (.ifCond .ne 5, 3) := by decide +kernel
theorem dX4_takeClause_96 : decode cX4_takeClause 96 = .ok (.iconst 0, 1) := by decide +kernel
theorem dX4_takeClause_97 : decode cX4_takeClause 97 = .ok (.ireturn, 1) := by decide +kernel
theorem dX4_takeClause_98 : decode cX4_takeClause 98 = .ok (.aload_n 0, 1) := by decide +kernel
theorem dX4_takeClause_99 : decode cX4_takeClause 99 = .ok (.getfield 66, 3) := by decide +kernel
theorem dX4_takeClause_102 : decode cX4_takeClause 102 = .ok (.istore_n 2, 1) := by decide +kernel
theorem dX4_takeClause_103 : decode cX4_takeClause 103 = .ok (.aload_n 0, 1) := by decide +kernel
theorem dX4_takeClause_104 : decode cX4_takeClause 104 = .ok (.bipush 32, 2) := by decide +kernel
theorem dX4_takeClause_106 : decode cX4_takeClause 106 = .ok (.invokevirtual 36, 3) := by decide +kernel
theorem dX4_takeClause_109 : decode cX4_takeClause 109 = .ok (.ifCond .eq 11, 3) := by decide +kernel
theorem dX4_takeClause_112 : decode cX4_takeClause 112 = .ok (.aload_n 0, 1) := by decide +kernel
theorem dX4_takeClause_113 : decode cX4_takeClause 113 = .ok (.iconst 0, 1) := by decide +kernel
theorem dX4_takeClause_114 : decode cX4_takeClause 114 = .ok (.invokevirtual 71, 3) := by decide +kernel
theorem dX4_takeClause_117 : decode cX4_takeClause 117 = .ok (.ifCond .ne 5, 3) := by decide +kernel
theorem dX4_takeClause_120 : decode cX4_takeClause 120 = .ok (.iconst 0, 1) := by decide +kernel
theorem dX4_takeClause_121 : decode cX4_takeClause 121 = .ok (.ireturn, 1) := by decide +kernel
theorem dX4_takeClause_122 : decode cX4_takeClause 122 = .ok (.aload_n 0, 1) := by decide +kernel
theorem dX4_takeClause_123 : decode cX4_takeClause 123 = .ok (.iload_n 1, 1) := by decide +kernel
theorem dX4_takeClause_124 : decode cX4_takeClause 124 = .ok (.iload_n 2, 1) := by decide +kernel
theorem dX4_takeClause_125 : decode cX4_takeClause 125 = .ok (.iconst 0, 1) := by decide +kernel
theorem dX4_takeClause_126 : decode cX4_takeClause 126 = .ok (.invokevirtual 74, 3) := by decide +kernel
theorem dX4_takeClause_129 : decode cX4_takeClause 129 = .ok (.iconst 1, 1) := by decide +kernel
theorem dX4_takeClause_130 : decode cX4_takeClause 130 = .ok (.ireturn, 1) := by decide +kernel
theorem dX4_takeEither_0 : decode cX4_takeEither 0 = .ok (.aload_n 0, 1) := by decide +kernel
theorem dX4_takeEither_1 : decode cX4_takeEither 1 = .ok (.iload_n 1, 1) := by decide +kernel
theorem dX4_takeEither_2 : decode cX4_takeEither 2 = .ok (.invokevirtual 78, 3) := by decide +kernel
theorem dX4_takeEither_5 : decode cX4_takeEither 5 = .ok (.ifCond .ne 5, 3) := by decide +kernel
theorem dX4_takeEither_8 : decode cX4_takeEither 8 = .ok (.iconst 0, 1) := by decide +kernel
theorem dX4_takeEither_9 : decode cX4_takeEither 9 = .ok (.ireturn, 1) := by decide +kernel
theorem dX4_takeEither_10 : decode cX4_takeEither 10 = .ok (.iconst 0, 1) := by decide +kernel
theorem dX4_takeEither_11 : decode cX4_takeEither 11 = .ok (.istore_n 2, 1) := by decide +kernel
theorem dX4_takeEither_12 : decode cX4_takeEither 12 = .ok (.iconst 0, 1) := by decide +kernel
theorem dX4_takeEither_13 : decode cX4_takeEither 13 = .ok (.istore_n 3, 1) := by decide +kernel
theorem dX4_takeEither_14 : decode cX4_takeEither 14 = .ok (.iload_n 3, 1) := by decide +kernel
theorem dX4_takeEither_15 : decode cX4_takeEither 15 = .ok (.bipush 100, 2) := by decide +kernel
theorem dX4_takeEither_17 : decode cX4_takeEither 17 = .ok (.if_icmp .ge 95, 3) := by decide +kernel
theorem dX4_takeEither_20 : decode cX4_takeEither 20 = .ok (.aload_n 0, 1) := by decide +kernel
theorem dX4_takeEither_21 : decode cX4_takeEither 21 = .ok (.invokevirtual 51, 3) := by decide +kernel
theorem dX4_takeEither_24 : decode cX4_takeEither 24 = .ok (.bipush 38, 2) := by decide +kernel
theorem dX4_takeEither_26 : decode cX4_takeEither 26 = .ok (.if_icmp .ne 7, 3) := by decide +kernel
theorem dX4_takeEither_29 : decode cX4_takeEither 29 = .ok (.iconst 1, 1) := by decide +kernel
theorem dX4_takeEither_30 : decode cX4_takeEither 30 = .ok (.goto 4, 3) := by decide +kernel
theorem dX4_takeEither_33 : decode cX4_takeEither 33 = .ok (.iconst 0, 1) := by decide +kernel
theorem dX4_takeEither_34 : decode cX4_takeEither 34 = .ok (.istore 4, 2) := by decide +kernel
theorem dX4_takeEither_36 : decode cX4_takeEither 36 = .ok (.iload 4, 2) := by decide +kernel
theorem dX4_takeEither_38 : decode cX4_takeEither 38 = .ok (.ifCond .ne 15, 3) := by decide +kernel
theorem dX4_takeEither_41 : decode cX4_takeEither 41 = .ok (.aload_n 0, 1) := by decide +kernel
theorem dX4_takeEither_42 : decode cX4_takeEither 42 = .ok (.invokevirtual 51, 3) := by decide +kernel
theorem dX4_takeEither_45 : decode cX4_takeEither 45 = .ok (.bipush 124, 2) := by decide +kernel
theorem dX4_takeEither_47 : decode cX4_takeEither 47 = .ok (.if_icmp .eq 6, 3) := by decide +kernel
theorem dX4_takeEither_50 : decode cX4_takeEither 50 = .ok (.goto 62, 3) := by decide +kernel
theorem dX4_takeEither_53 : decode cX4_takeEither 53 = .ok (.aload_n 0, 1) := by decide +kernel
theorem dX4_takeEither_54 : decode cX4_takeEither 54 = .ok (.dup, 1) := by decide +kernel
theorem dX4_takeEither_55 : decode cX4_takeEither 55 = .ok (.getfield 19, 3) := by decide +kernel
theorem dX4_takeEither_58 : decode cX4_takeEither 58 = .ok (.iconst 1, 1) := by decide +kernel
theorem dX4_takeEither_59 : decode cX4_takeEither 59 = .ok (.iadd, 1) := by decide +kernel
theorem dX4_takeEither_60 : decode cX4_takeEither 60 = .ok (.putfield 19, 3) := by decide +kernel
theorem dX4_takeEither_63 : decode cX4_takeEither 63 = .ok (.iload 4, 2) := by decide +kernel
theorem dX4_takeEither_65 : decode cX4_takeEither 65 = .ok (.ifCond .ne 14, 3) := by decide +kernel
theorem dX4_takeEither_68 : decode cX4_takeEither 68 = .ok (.iload_n 2, 1) := by decide +kernel
theorem dX4_takeEither_69 : decode cX4_takeEither 69 = .ok (.ifCond .eq 10, 3) := by decide +kernel
theorem dX4_takeEither_72 : decode cX4_takeEither 72 = .ok (.aload_n 0, 1) := by decide +kernel
theorem dX4_takeEither_73 : decode cX4_takeEither 73 = .ok (.iconst 5, 1) := by decide +kernel
theorem dX4_takeEither_74 : decode cX4_takeEither 74 = .ok (.iconst 0, 1) := by decide +kernel
theorem dX4_takeEither_75 : decode cX4_takeEither 75 = .ok (.iconst 0, 1) := by decide +kernel
theorem dX4_takeEither_76 : decode cX4_takeEither 76 = .ok (.invokevirtual 74, 3) := by decide +kernel
theorem dX4_takeEither_79 : decode cX4_takeEither 79 = .ok (.aload_n 0, 1) := by decide +kernel
theorem dX4_takeEither_80 : decode cX4_takeEither 80 = .ok (.iload_n 1, 1) := by decide +kernel
theorem dX4_takeEither_81 : decode cX4_takeEither 81 = .ok (.invokevirtual 78, 3) := by decide +kernel
theorem dX4_takeEither_84 : decode cX4_takeEither 84 = .ok (.ifCond .ne 5, 3) := by decide +kernel
theorem dX4_takeEither_87 : decode cX4_takeEither 87 = .ok (.iconst 0, 1) := by decide +kernel
theorem dX4_takeEither_88 : decode cX4_takeEither 88 = .ok (.ireturn, 1) := by decide +kernel
theorem dX4_takeEither_89 : decode cX4_takeEither 89 = .ok (.iload 4, 2) := by decide +kernel
theorem dX4_takeEither_91 : decode cX4_takeEither 91 = .ok (.ifCond .eq 13, 3) := by decide +kernel
theorem dX4_takeEither_94 : decode cX4_takeEither 94 = .ok (.aload_n 0, 1) := by decide +kernel
theorem dX4_takeEither_95 : decode cX4_takeEither 95 = .ok (.iconst 4, 1) := by decide +kernel
theorem dX4_takeEither_96 : decode cX4_takeEither 96 = .ok (.iconst 0, 1) := by decide +kernel
theorem dX4_takeEither_97 : decode cX4_takeEither 97 = .ok (.iconst 0, 1) := by decide +kernel
theorem dX4_takeEither_98 : decode cX4_takeEither 98 = .ok (.invokevirtual 74, 3) := by decide +kernel
theorem dX4_takeEither_101 : decode cX4_takeEither 101 = .ok (.goto 5, 3) := by decide +kernel
theorem dX4_takeEither_104 : decode cX4_takeEither 104 = .ok (.iconst 1, 1) := by decide +kernel
theorem dX4_takeEither_105 : decode cX4_takeEither 105 = .ok (.istore_n 2, 1) := by decide +kernel
theorem dX4_takeEither_106 : decode cX4_takeEither 106 = .ok (.iinc 3 1, 3) := by decide +kernel
theorem dX4_takeEither_109 : decode cX4_takeEither 109 = .ok (.goto (-95), 3) := by decide +kernel
theorem dX4_takeEither_112 : decode cX4_takeEither 112 = .ok (.iload_n 2, 1) := by decide +kernel
theorem dX4_takeEither_113 : decode cX4_takeEither 113 = .ok (.ifCond .eq 10, 3) := by decide +kernel
theorem dX4_takeEither_116 : decode cX4_takeEither 116 = .ok (.aload_n 0, 1) := by decide +kernel
theorem dX4_takeEither_117 : decode cX4_takeEither 117 = .ok (.iconst 5, 1) := by decide +kernel
theorem dX4_takeEither_118 : decode cX4_takeEither 118 = .ok (.iconst 0, 1) := by decide +kernel
theorem dX4_takeEither_119 : decode cX4_takeEither 119 = .ok (.iconst 0, 1) := by decide +kernel
theorem dX4_takeEither_120 : decode cX4_takeEither 120 = .ok (.invokevirtual 74, 3) := by decide +kernel
theorem dX4_takeEither_123 : decode cX4_takeEither 123 = .ok (.iconst 1, 1) := by decide +kernel
theorem dX4_takeEither_124 : decode cX4_takeEither 124 = .ok (.ireturn, 1) := by decide +kernel
theorem dX4_takeFactor_0 : decode cX4_takeFactor 0 = .ok (.iload_n 1, 1) := by decide +kernel
theorem dX4_takeFactor_1 : decode cX4_takeFactor 1 = .ok (.iconst 4, 1) := by decide +kernel
theorem dX4_takeFactor_2 : decode cX4_takeFactor 2 = .ok (.if_icmp .ge 39, 3) := by decide +kernel
theorem dX4_takeFactor_5 : decode cX4_takeFactor 5 = .ok (.aload_n 0, 1) := by decide +kernel
theorem dX4_takeFactor_6 : decode cX4_takeFactor 6 = .ok (.invokevirtual 51, 3) := by decide +kernel
theorem dX4_takeFactor_9 : decode cX4_takeFactor 9 = .ok (.bipush 33, 2) := by decide +kernel
theorem dX4_takeFactor_11 : decode cX4_takeFactor 11 = .ok (.if_icmp .ne 30, 3) := by decide +kernel
theorem dX4_takeFactor_14 : decode cX4_takeFactor 14 = .ok (.aload_n 0, 1) := by decide +kernel
theorem dX4_takeFactor_15 : decode cX4_takeFactor 15 = .ok (.dup, 1) := by decide +kernel
theorem dX4_takeFactor_16 : decode cX4_takeFactor 16 = .ok (.getfield 19, 3) := by decide +kernel
theorem dX4_takeFactor_19 : decode cX4_takeFactor 19 = .ok (.iconst 1, 1) := by decide +kernel
theorem dX4_takeFactor_20 : decode cX4_takeFactor 20 = .ok (.iadd, 1) := by decide +kernel
theorem dX4_takeFactor_21 : decode cX4_takeFactor 21 = .ok (.putfield 19, 3) := by decide +kernel
theorem dX4_takeFactor_24 : decode cX4_takeFactor 24 = .ok (.aload_n 0, 1) := by decide +kernel
theorem dX4_takeFactor_25 : decode cX4_takeFactor 25 = .ok (.iload_n 1, 1) := by decide +kernel
theorem dX4_takeFactor_26 : decode cX4_takeFactor 26 = .ok (.iconst 1, 1) := by decide +kernel
theorem dX4_takeFactor_27 : decode cX4_takeFactor 27 = .ok (.iadd, 1) := by decide +kernel
theorem dX4_takeFactor_28 : decode cX4_takeFactor 28 = .ok (.invokevirtual 78, 3) := by decide +kernel
theorem dX4_takeFactor_31 : decode cX4_takeFactor 31 = .ok (.istore_n 2, 1) := by decide +kernel
theorem dX4_takeFactor_32 : decode cX4_takeFactor 32 = .ok (.aload_n 0, 1) := by decide +kernel
theorem dX4_takeFactor_33 : decode cX4_takeFactor 33 = .ok (.iconst 3, 1) := by decide +kernel
theorem dX4_takeFactor_34 : decode cX4_takeFactor 34 = .ok (.iconst 0, 1) := by decide +kernel
theorem dX4_takeFactor_35 : decode cX4_takeFactor 35 = .ok (.iconst 0, 1) := by decide +kernel
theorem dX4_takeFactor_36 : decode cX4_takeFactor 36 = .ok (.invokevirtual 74, 3) := by decide +kernel
theorem dX4_takeFactor_39 : decode cX4_takeFactor 39 = .ok (.iload_n 2, 1) := by decide +kernel
theorem dX4_takeFactor_40 : decode cX4_takeFactor 40 = .ok (.ireturn, 1) := by decide +kernel
theorem dX4_takeFactor_41 : decode cX4_takeFactor 41 = .ok (.iload_n 1, 1) := by decide +kernel
theorem dX4_takeFactor_42 : decode cX4_takeFactor 42 = .ok (.iconst 4, 1) := by decide +kernel
theorem dX4_takeFactor_43 : decode cX4_takeFactor 43 = .ok (.if_icmp .ge 47, 3) := by decide +kernel
theorem dX4_takeFactor_46 : decode cX4_takeFactor 46 = .ok (.aload_n 0, 1) := by decide +kernel
theorem dX4_takeFactor_47 : decode cX4_takeFactor 47 = .ok (.invokevirtual 51, 3) := by decide +kernel
theorem dX4_takeFactor_50 : decode cX4_takeFactor 50 = .ok (.bipush 40, 2) := by decide +kernel
theorem dX4_takeFactor_52 : decode cX4_takeFactor 52 = .ok (.if_icmp .ne 38, 3) := by decide +kernel
theorem dX4_takeFactor_55 : decode cX4_takeFactor 55 = .ok (.aload_n 0, 1) := by decide +kernel
theorem dX4_takeFactor_56 : decode cX4_takeFactor 56 = .ok (.dup, 1) := by decide +kernel
theorem dX4_takeFactor_57 : decode cX4_takeFactor 57 = .ok (.getfield 19, 3) := by decide +kernel
theorem dX4_takeFactor_60 : decode cX4_takeFactor 60 = .ok (.iconst 1, 1) := by decide +kernel
theorem dX4_takeFactor_61 : decode cX4_takeFactor 61 = .ok (.iadd, 1) := by decide +kernel
theorem dX4_takeFactor_62 : decode cX4_takeFactor 62 = .ok (.putfield 19, 3) := by decide +kernel
theorem dX4_takeFactor_65 : decode cX4_takeFactor 65 = .ok (.aload_n 0, 1) := by decide +kernel
theorem dX4_takeFactor_66 : decode cX4_takeFactor 66 = .ok (.iload_n 1, 1) := by decide +kernel
theorem dX4_takeFactor_67 : decode cX4_takeFactor 67 = .ok (.iconst 1, 1) := by decide +kernel
theorem dX4_takeFactor_68 : decode cX4_takeFactor 68 = .ok (.iadd, 1) := by decide +kernel
theorem dX4_takeFactor_69 : decode cX4_takeFactor 69 = .ok (.invokevirtual 71, 3) := by decide +kernel
theorem dX4_takeFactor_72 : decode cX4_takeFactor 72 = .ok (.ifCond .eq 16, 3) := by decide +kernel
theorem dX4_takeFactor_75 : decode cX4_takeFactor 75 = .ok (.aload_n 0, 1) := by decide +kernel
theorem dX4_takeFactor_76 : decode cX4_takeFactor 76 = .ok (.bipush 41, 2) := by decide +kernel
theorem dX4_takeFactor_78 : decode cX4_takeFactor 78 = .ok (.invokevirtual 36, 3) := by decide +kernel
theorem dX4_takeFactor_81 : decode cX4_takeFactor 81 = .ok (.ifCond .eq 7, 3) := by decide +kernel
theorem dX4_takeFactor_84 : decode cX4_takeFactor 84 = .ok (.iconst 1, 1) := by decide +kernel
theorem dX4_takeFactor_85 : decode cX4_takeFactor 85 = .ok (.goto 4, 3) := by decide +kernel
theorem dX4_takeFactor_88 : decode cX4_takeFactor 88 = .ok (.iconst 0, 1) := by decide +kernel
theorem dX4_takeFactor_89 : decode cX4_takeFactor 89 = .ok (.ireturn, 1) := by decide +kernel
theorem dX4_takeFactor_90 : decode cX4_takeFactor 90 = .ok (.aload_n 0, 1) := by decide +kernel
theorem dX4_takeFactor_91 : decode cX4_takeFactor 91 = .ok (.invokevirtual 81, 3) := by decide +kernel
theorem dX4_takeFactor_94 : decode cX4_takeFactor 94 = .ok (.ireturn, 1) := by decide +kernel
theorem dX4_takeTest_0 : decode cX4_takeTest 0 = .ok (.aload_n 0, 1) := by decide +kernel
theorem dX4_takeTest_1 : decode cX4_takeTest 1 = .ok (.invokevirtual 51, 3) := by decide +kernel
theorem dX4_takeTest_4 : decode cX4_takeTest 4 = .ok (.istore_n 1, 1) := by decide +kernel
theorem dX4_takeTest_5 : decode cX4_takeTest 5 = .ok (.iload_n 1, 1) := by decide +kernel
theorem dX4_takeTest_6 : decode cX4_takeTest 6 = .ok (.ifCond .lt 13, 3) := by decide +kernel
theorem dX4_takeTest_9 : decode cX4_takeTest 9 = .ok (.ldc 84, 2) := by decide +kernel
theorem dX4_takeTest_11 : decode cX4_takeTest 11 = .ok (.iload_n 1, 1) := by decide +kernel
theorem dX4_takeTest_12 : decode cX4_takeTest 12 = .ok (.i2c, 1) := by decide +kernel
theorem dX4_takeTest_13 : decode cX4_takeTest 13 = .ok (.invokevirtual 86, 3) := by decide +kernel
theorem dX4_takeTest_16 : decode cX4_takeTest 16 = .ok (.ifCond .ge 5, 3) := by decide +kernel
theorem dX4_takeTest_19 : decode cX4_takeTest 19 = .ok (.iconst 0, 1) := by decide +kernel
theorem dX4_takeTest_20 : decode cX4_takeTest 20 = .ok (.ireturn, 1) := by decide +kernel
theorem dX4_takeTest_21 : decode cX4_takeTest 21 = .ok (.aload_n 0, 1) := by decide +kernel
theorem dX4_takeTest_22 : decode cX4_takeTest 22 = .ok (.dup, 1) := by decide +kernel
theorem dX4_takeTest_23 : decode cX4_takeTest 23 = .ok (.getfield 19, 3) := by decide +kernel
theorem dX4_takeTest_26 : decode cX4_takeTest 26 = .ok (.iconst 1, 1) := by decide +kernel
theorem dX4_takeTest_27 : decode cX4_takeTest 27 = .ok (.iadd, 1) := by decide +kernel
theorem dX4_takeTest_28 : decode cX4_takeTest 28 = .ok (.putfield 19, 3) := by decide +kernel
theorem dX4_takeTest_31 : decode cX4_takeTest 31 = .ok (.aload_n 0, 1) := by decide +kernel
theorem dX4_takeTest_32 : decode cX4_takeTest 32 = .ok (.invokevirtual 51, 3) := by decide +kernel
theorem dX4_takeTest_35 : decode cX4_takeTest 35 = .ok (.istore_n 2, 1) := by decide +kernel
theorem dX4_takeTest_36 : decode cX4_takeTest 36 = .ok (.iload_n 2, 1) := by decide +kernel
theorem dX4_takeTest_37 : decode cX4_takeTest 37 = .ok (.bipush 60, 2) := by decide +kernel
theorem dX4_takeTest_39 : decode cX4_takeTest 39 = .ok (.if_icmp .eq 17, 3) := by decide +kernel
theorem dX4_takeTest_42 : decode cX4_takeTest 42 = .ok (.iload_n 2, 1) := by decide +kernel
theorem dX4_takeTest_43 : decode cX4_takeTest 43 = .ok (.bipush 61, 2) := by decide +kernel
theorem dX4_takeTest_45 : decode cX4_takeTest 45 = .ok (.if_icmp .eq 11, 3) := by decide +kernel
theorem dX4_takeTest_48 : decode cX4_takeTest 48 = .ok (.iload_n 2, 1) := by decide +kernel
theorem dX4_takeTest_49 : decode cX4_takeTest 49 = .ok (.bipush 62, 2) := by decide +kernel
theorem dX4_takeTest_51 : decode cX4_takeTest 51 = .ok (.if_icmp .eq 5, 3) := by decide +kernel
theorem dX4_takeTest_54 : decode cX4_takeTest 54 = .ok (.iconst 0, 1) := by decide +kernel
theorem dX4_takeTest_55 : decode cX4_takeTest 55 = .ok (.ireturn, 1) := by decide +kernel
theorem dX4_takeTest_56 : decode cX4_takeTest 56 = .ok (.aload_n 0, 1) := by decide +kernel
theorem dX4_takeTest_57 : decode cX4_takeTest 57 = .ok (.dup, 1) := by decide +kernel
theorem dX4_takeTest_58 : decode cX4_takeTest 58 = .ok (.getfield 19, 3) := by decide +kernel
theorem dX4_takeTest_61 : decode cX4_takeTest 61 = .ok (.iconst 1, 1) := by decide +kernel
theorem dX4_takeTest_62 : decode cX4_takeTest 62 = .ok (.iadd, 1) := by decide +kernel
theorem dX4_takeTest_63 : decode cX4_takeTest 63 = .ok (.putfield 19, 3) := by decide +kernel
theorem dX4_takeTest_66 : decode cX4_takeTest 66 = .ok (.aload_n 0, 1) := by decide +kernel
theorem dX4_takeTest_67 : decode cX4_takeTest 67 = .ok (.invokevirtual 63, 3) := by decide +kernel
theorem dX4_takeTest_70 : decode cX4_takeTest 70 = .ok (.ifCond .ne 5, 3) := by decide +kernel
theorem dX4_takeTest_73 : decode cX4_takeTest 73 = .ok (.iconst 0, 1) := by decide +kernel
theorem dX4_takeTest_74 : decode cX4_takeTest 74 = .ok (.ireturn, 1) := by decide +kernel
theorem dX4_takeTest_75 : decode cX4_takeTest 75 = .ok (.aload_n 0, 1) := by decide +kernel
theorem dX4_takeTest_76 : decode cX4_takeTest 76 = .ok (.iload_n 2, 1) := by decide +kernel
theorem dX4_takeTest_77 : decode cX4_takeTest 77 = .ok (.bipush 60, 2) := by decide +kernel
theorem dX4_takeTest_79 : decode cX4_takeTest 79 = .ok (.if_icmp .ne 7, 3) := by decide +kernel
theorem dX4_takeTest_82 : decode cX4_takeTest 82 = .ok (.iconst 0, 1) := by decide +kernel
theorem dX4_takeTest_83 : decode cX4_takeTest 83 = .ok (.goto 14, 3) := by decide +kernel
theorem dX4_takeTest_86 : decode cX4_takeTest 86 = .ok (.iload_n 2, 1) := by decide +kernel
theorem dX4_takeTest_87 : decode cX4_takeTest 87 = .ok (.bipush 61, 2) := by decide +kernel
theorem dX4_takeTest_89 : decode cX4_takeTest 89 = .ok (.if_icmp .ne 7, 3) := by decide +kernel
theorem dX4_takeTest_92 : decode cX4_takeTest 92 = .ok (.iconst 1, 1) := by decide +kernel
theorem dX4_takeTest_93 : decode cX4_takeTest 93 = .ok (.goto 4, 3) := by decide +kernel
theorem dX4_takeTest_96 : decode cX4_takeTest 96 = .ok (.iconst 2, 1) := by decide +kernel
theorem dX4_takeTest_97 : decode cX4_takeTest 97 = .ok (.iload_n 1, 1) := by decide +kernel
theorem dX4_takeTest_98 : decode cX4_takeTest 98 = .ok (.aload_n 0, 1) := by decide +kernel
theorem dX4_takeTest_99 : decode cX4_takeTest 99 = .ok (.getfield 66, 3) := by decide +kernel
theorem dX4_takeTest_102 : decode cX4_takeTest 102 = .ok (.invokevirtual 74, 3) := by decide +kernel
theorem dX4_takeTest_105 : decode cX4_takeTest 105 = .ok (.iconst 1, 1) := by decide +kernel
theorem dX4_takeTest_106 : decode cX4_takeTest 106 = .ok (.ireturn, 1) := by decide +kernel
theorem dX4_takeNumber_0 : decode cX4_takeNumber 0 = .ok (.aload_n 0, 1) := by decide +kernel
theorem dX4_takeNumber_1 : decode cX4_takeNumber 1 = .ok (.iconst 0, 1) := by decide +kernel
theorem dX4_takeNumber_2 : decode cX4_takeNumber 2 = .ok (.putfield 66, 3) := by decide +kernel
theorem dX4_takeNumber_5 : decode cX4_takeNumber 5 = .ok (.iconst 0, 1) := by decide +kernel
theorem dX4_takeNumber_6 : decode cX4_takeNumber 6 = .ok (.istore_n 1, 1) := by decide +kernel
theorem dX4_takeNumber_7 : decode cX4_takeNumber 7 = .ok (.iload_n 1, 1) := by decide +kernel
theorem dX4_takeNumber_8 : decode cX4_takeNumber 8 = .ok (.iconst 2, 1) := by decide +kernel
theorem dX4_takeNumber_9 : decode cX4_takeNumber 9 = .ok (.if_icmp .ge 82, 3) := by decide +kernel
theorem dX4_takeNumber_12 : decode cX4_takeNumber 12 = .ok (.aload_n 0, 1) := by decide +kernel
theorem dX4_takeNumber_13 : decode cX4_takeNumber 13 = .ok (.getfield 19, 3) := by decide +kernel
theorem dX4_takeNumber_16 : decode cX4_takeNumber 16 = .ok (.aload_n 0, 1) := by decide +kernel
theorem dX4_takeNumber_17 : decode cX4_takeNumber 17 = .ok (.getfield 33, 3) := by decide +kernel
theorem dX4_takeNumber_20 : decode cX4_takeNumber 20 = .ok (.if_icmp .ge 71, 3) := by decide +kernel
theorem dX4_takeNumber_23 : decode cX4_takeNumber 23 = .ok (.aload_n 0, 1) := by decide +kernel
theorem dX4_takeNumber_24 : decode cX4_takeNumber 24 = .ok (.getfield 9, 3) := by decide +kernel
theorem dX4_takeNumber_27 : decode cX4_takeNumber 27 = .ok (.aload_n 0, 1) := by decide +kernel
theorem dX4_takeNumber_28 : decode cX4_takeNumber 28 = .ok (.getfield 19, 3) := by decide +kernel
theorem dX4_takeNumber_31 : decode cX4_takeNumber 31 = .ok (.baload, 1) := by decide +kernel
theorem dX4_takeNumber_32 : decode cX4_takeNumber 32 = .ok (.bipush 48, 2) := by decide +kernel
theorem dX4_takeNumber_34 : decode cX4_takeNumber 34 = .ok (.if_icmp .lt 57, 3) := by decide +kernel
theorem dX4_takeNumber_37 : decode cX4_takeNumber 37 = .ok (.aload_n 0, 1) := by decide +kernel
theorem dX4_takeNumber_38 : decode cX4_takeNumber 38 = .ok (.getfield 9, 3) := by decide +kernel
theorem dX4_takeNumber_41 : decode cX4_takeNumber 41 = .ok (.aload_n 0, 1) := by decide +kernel
theorem dX4_takeNumber_42 : decode cX4_takeNumber 42 = .ok (.getfield 19, 3) := by decide +kernel
theorem dX4_takeNumber_45 : decode cX4_takeNumber 45 = .ok (.baload, 1) := by decide +kernel
theorem dX4_takeNumber_46 : decode cX4_takeNumber 46 = .ok (.bipush 57, 2) := by decide +kernel
theorem dX4_takeNumber_48 : decode cX4_takeNumber 48 = .ok (.if_icmp .gt 43, 3) := by decide +kernel
theorem dX4_takeNumber_51 : decode cX4_takeNumber 51 = .ok (.aload_n 0, 1) := by decide +kernel
theorem dX4_takeNumber_52 : decode cX4_takeNumber 52 = .ok (.bipush 10, 2) := by decide +kernel
theorem dX4_takeNumber_54 : decode cX4_takeNumber 54 = .ok (.aload_n 0, 1) := by decide +kernel
theorem dX4_takeNumber_55 : decode cX4_takeNumber 55 = .ok (.getfield 66, 3) := by decide +kernel
theorem dX4_takeNumber_58 : decode cX4_takeNumber 58 = .ok (.imul, 1) := by decide +kernel
theorem dX4_takeNumber_59 : decode cX4_takeNumber 59 = .ok (.aload_n 0, 1) := by decide +kernel
theorem dX4_takeNumber_60 : decode cX4_takeNumber 60 = .ok (.getfield 9, 3) := by decide +kernel
theorem dX4_takeNumber_63 : decode cX4_takeNumber 63 = .ok (.aload_n 0, 1) := by decide +kernel
theorem dX4_takeNumber_64 : decode cX4_takeNumber 64 = .ok (.getfield 19, 3) := by decide +kernel
theorem dX4_takeNumber_67 : decode cX4_takeNumber 67 = .ok (.baload, 1) := by decide +kernel
theorem dX4_takeNumber_68 : decode cX4_takeNumber 68 = .ok (.iadd, 1) := by decide +kernel
theorem dX4_takeNumber_69 : decode cX4_takeNumber 69 = .ok (.bipush 48, 2) := by decide +kernel
theorem dX4_takeNumber_71 : decode cX4_takeNumber 71 = .ok (.isub, 1) := by decide +kernel
theorem dX4_takeNumber_72 : decode cX4_takeNumber 72 = .ok (.putfield 66, 3) := by decide +kernel
theorem dX4_takeNumber_75 : decode cX4_takeNumber 75 = .ok (.aload_n 0, 1) := by decide +kernel
theorem dX4_takeNumber_76 : decode cX4_takeNumber 76 = .ok (.dup, 1) := by decide +kernel
theorem dX4_takeNumber_77 : decode cX4_takeNumber 77 = .ok (.getfield 19, 3) := by decide +kernel
theorem dX4_takeNumber_80 : decode cX4_takeNumber 80 = .ok (.iconst 1, 1) := by decide +kernel
theorem dX4_takeNumber_81 : decode cX4_takeNumber 81 = .ok (.iadd, 1) := by decide +kernel
theorem dX4_takeNumber_82 : decode cX4_takeNumber 82 = .ok (.putfield 19, 3) := by decide +kernel
theorem dX4_takeNumber_85 : decode cX4_takeNumber 85 = .ok (.iinc 1 1, 3) := by decide +kernel
theorem dX4_takeNumber_88 : decode cX4_takeNumber 88 = .ok (.goto (-81), 3) := by decide +kernel
theorem dX4_takeNumber_91 : decode cX4_takeNumber 91 = .ok (.iload_n 1, 1) := by decide +kernel
theorem dX4_takeNumber_92 : decode cX4_takeNumber 92 = .ok (.ifCond .le 7, 3) := by decide +kernel
theorem dX4_takeNumber_95 : decode cX4_takeNumber 95 = .ok (.iconst 1, 1) := by decide +kernel
theorem dX4_takeNumber_96 : decode cX4_takeNumber 96 = .ok (.goto 4, 3) := by decide +kernel
theorem dX4_takeNumber_99 : decode cX4_takeNumber 99 = .ok (.iconst 0, 1) := by decide +kernel
theorem dX4_takeNumber_100 : decode cX4_takeNumber 100 = .ok (.ireturn, 1) := by decide +kernel
theorem dX4_takeAll_0 : decode cX4_takeAll 0 = .ok (.iconst 0, 1) := by decide +kernel
theorem dX4_takeAll_1 : decode cX4_takeAll 1 = .ok (.istore_n 2, 1) := by decide +kernel
theorem dX4_takeAll_2 : decode cX4_takeAll 2 = .ok (.iload_n 2, 1) := by decide +kernel
theorem dX4_takeAll_3 : decode cX4_takeAll 3 = .ok (.aload_n 1, 1) := by decide +kernel
theorem dX4_takeAll_4 : decode cX4_takeAll 4 = .ok (.invokevirtual 92, 3) := by decide +kernel
theorem dX4_takeAll_7 : decode cX4_takeAll 7 = .ok (.if_icmp .ge 23, 3) := by decide +kernel
theorem dX4_takeAll_10 : decode cX4_takeAll 10 = .ok (.aload_n 0, 1) := by decide +kernel
theorem dX4_takeAll_11 : decode cX4_takeAll 11 = .ok (.aload_n 1, 1) := by decide +kernel
theorem dX4_takeAll_12 : decode cX4_takeAll 12 = .ok (.iload_n 2, 1) := by decide +kernel
theorem dX4_takeAll_13 : decode cX4_takeAll 13 = .ok (.invokevirtual 94, 3) := by decide +kernel
theorem dX4_takeAll_16 : decode cX4_takeAll 16 = .ok (.invokevirtual 36, 3) := by decide +kernel
theorem dX4_takeAll_19 : decode cX4_takeAll 19 = .ok (.ifCond .ne 5, 3) := by decide +kernel
theorem dX4_takeAll_22 : decode cX4_takeAll 22 = .ok (.iconst 0, 1) := by decide +kernel
theorem dX4_takeAll_23 : decode cX4_takeAll 23 = .ok (.ireturn, 1) := by decide +kernel
theorem dX4_takeAll_24 : decode cX4_takeAll 24 = .ok (.iinc 2 1, 3) := by decide +kernel
theorem dX4_takeAll_27 : decode cX4_takeAll 27 = .ok (.goto (-25), 3) := by decide +kernel
theorem dX4_takeAll_30 : decode cX4_takeAll 30 = .ok (.iconst 1, 1) := by decide +kernel
theorem dX4_takeAll_31 : decode cX4_takeAll 31 = .ok (.ireturn, 1) := by decide +kernel
theorem dX4_take_0 : decode cX4_take 0 = .ok (.aload_n 0, 1) := by decide +kernel
theorem dX4_take_1 : decode cX4_take 1 = .ok (.invokevirtual 51, 3) := by decide +kernel
theorem dX4_take_4 : decode cX4_take 4 = .ok (.iload_n 1, 1) := by decide +kernel
theorem dX4_take_5 : decode cX4_take 5 = .ok (.if_icmp .eq 5, 3) := by decide +kernel
theorem dX4_take_8 : decode cX4_take 8 = .ok (.iconst 0, 1) := by decide +kernel
theorem dX4_take_9 : decode cX4_take 9 = .ok (.ireturn, 1) := by decide +kernel
theorem dX4_take_10 : decode cX4_take 10 = .ok (.aload_n 0, 1) := by decide +kernel
theorem dX4_take_11 : decode cX4_take 11 = .ok (.dup, 1) := by decide +kernel
theorem dX4_take_12 : decode cX4_take 12 = .ok (.getfield 19, 3) := by decide +kernel
theorem dX4_take_15 : decode cX4_take 15 = .ok (.iconst 1, 1) := by decide +kernel
theorem dX4_take_16 : decode cX4_take 16 = .ok (.iadd, 1) := by decide +kernel
theorem dX4_take_17 : decode cX4_take 17 = .ok (.putfield 19, 3) := by decide +kernel
theorem dX4_take_20 : decode cX4_take 20 = .ok (.iconst 1, 1) := by decide +kernel
theorem dX4_take_21 : decode cX4_take 21 = .ok (.ireturn, 1) := by decide +kernel
theorem dX4_next_0 : decode cX4_next 0 = .ok (.aload_n 0, 1) := by decide +kernel
theorem dX4_next_1 : decode cX4_next 1 = .ok (.getfield 19, 3) := by decide +kernel
theorem dX4_next_4 : decode cX4_next 4 = .ok (.aload_n 0, 1) := by decide +kernel
theorem dX4_next_5 : decode cX4_next 5 = .ok (.getfield 33, 3) := by decide +kernel
theorem dX4_next_8 : decode cX4_next 8 = .ok (.if_icmp .ge 15, 3) := by decide +kernel
theorem dX4_next_11 : decode cX4_next 11 = .ok (.aload_n 0, 1) := by decide +kernel
theorem dX4_next_12 : decode cX4_next 12 = .ok (.getfield 9, 3) := by decide +kernel
theorem dX4_next_15 : decode cX4_next 15 = .ok (.aload_n 0, 1) := by decide +kernel
theorem dX4_next_16 : decode cX4_next 16 = .ok (.getfield 19, 3) := by decide +kernel
theorem dX4_next_19 : decode cX4_next 19 = .ok (.baload, 1) := by decide +kernel
theorem dX4_next_20 : decode cX4_next 20 = .ok (.goto 4, 3) := by decide +kernel
theorem dX4_next_23 : decode cX4_next 23 = .ok (.iconst (-1), 1) := by decide +kernel
theorem dX4_next_24 : decode cX4_next 24 = .ok (.ireturn, 1) := by decide +kernel
theorem dX4_addStep_0 : decode cX4_addStep 0 = .ok (.aload_n 0, 1) := by decide +kernel
theorem dX4_addStep_1 : decode cX4_addStep 1 = .ok (.getfield 23, 3) := by decide +kernel
theorem dX4_addStep_4 : decode cX4_addStep 4 = .ok (.iconst 3, 1) := by decide +kernel
theorem dX4_addStep_5 : decode cX4_addStep 5 = .ok (.iadd, 1) := by decide +kernel
theorem dX4_addStep_6 : decode cX4_addStep 6 = .ok (.aload_n 0, 1) := by decide +kernel
theorem dX4_addStep_7 : decode cX4_addStep 7 = .ok (.getfield 15, 3) := by decide +kernel
theorem dX4_addStep_10 : decode cX4_addStep 10 = .ok (.arraylength, 1) := by decide +kernel
theorem dX4_addStep_11 : decode cX4_addStep 11 = .ok (.if_icmp .gt 47, 3) := by decide +kernel
theorem dX4_addStep_14 : decode cX4_addStep 14 = .ok (.aload_n 0, 1) := by decide +kernel
theorem dX4_addStep_15 : decode cX4_addStep 15 = .ok (.getfield 15, 3) := by decide +kernel
theorem dX4_addStep_18 : decode cX4_addStep 18 = .ok (.aload_n 0, 1) := by decide +kernel
theorem dX4_addStep_19 : decode cX4_addStep 19 = .ok (.getfield 23, 3) := by decide +kernel
theorem dX4_addStep_22 : decode cX4_addStep 22 = .ok (.iload_n 1, 1) := by decide +kernel
theorem dX4_addStep_23 : decode cX4_addStep 23 = .ok (.iastore, 1) := by decide +kernel
theorem dX4_addStep_24 : decode cX4_addStep 24 = .ok (.aload_n 0, 1) := by decide +kernel
theorem dX4_addStep_25 : decode cX4_addStep 25 = .ok (.getfield 15, 3) := by decide +kernel
theorem dX4_addStep_28 : decode cX4_addStep 28 = .ok (.aload_n 0, 1) := by decide +kernel
theorem dX4_addStep_29 : decode cX4_addStep 29 = .ok (.getfield 23, 3) := by decide +kernel
theorem dX4_addStep_32 : decode cX4_addStep 32 = .ok (.iconst 1, 1) := by decide +kernel
theorem dX4_addStep_33 : decode cX4_addStep 33 = .ok (.iadd, 1) := by decide +kernel
theorem dX4_addStep_34 : decode cX4_addStep 34 = .ok (.iload_n 2, 1) := by decide +kernel
theorem dX4_addStep_35 : decode cX4_addStep 35 = .ok (.iastore, 1) := by decide +kernel
theorem dX4_addStep_36 : decode cX4_addStep 36 = .ok (.aload_n 0, 1) := by decide +kernel
theorem dX4_addStep_37 : decode cX4_addStep 37 = .ok (.getfield 15, 3) := by decide +kernel
theorem dX4_addStep_40 : decode cX4_addStep 40 = .ok (.aload_n 0, 1) := by decide +kernel
theorem dX4_addStep_41 : decode cX4_addStep 41 = .ok (.getfield 23, 3) := by decide +kernel
theorem dX4_addStep_44 : decode cX4_addStep 44 = .ok (.iconst 2, 1) := by decide +kernel
theorem dX4_addStep_45 : decode cX4_addStep 45 = .ok (.iadd, 1) := by decide +kernel
theorem dX4_addStep_46 : decode cX4_addStep 46 = .ok (.iload_n 3, 1) := by decide +kernel
theorem dX4_addStep_47 : decode cX4_addStep 47 = .ok (.iastore, 1) := by decide +kernel
theorem dX4_addStep_48 : decode cX4_addStep 48 = .ok (.aload_n 0, 1) := by decide +kernel
theorem dX4_addStep_49 : decode cX4_addStep 49 = .ok (.dup, 1) := by decide +kernel
theorem dX4_addStep_50 : decode cX4_addStep 50 = .ok (.getfield 23, 3) := by decide +kernel
theorem dX4_addStep_53 : decode cX4_addStep 53 = .ok (.iconst 3, 1) := by decide +kernel
theorem dX4_addStep_54 : decode cX4_addStep 54 = .ok (.iadd, 1) := by decide +kernel
theorem dX4_addStep_55 : decode cX4_addStep 55 = .ok (.putfield 23, 3) := by decide +kernel
theorem dX4_addStep_58 : decode cX4_addStep 58 = .ok (.return_, 1) := by decide +kernel
theorem dX5_init_0 : decode cX5_init 0 = .ok (.aload_n 0, 1) := by decide +kernel
theorem dX5_init_1 : decode cX5_init 1 = .ok (.invokespecial 1, 3) := by decide +kernel
theorem dX5_init_4 : decode cX5_init 4 = .ok (.return_, 1) := by decide +kernel
theorem dX5_brightness_0 : decode cX5_brightness 0 = .ok (.iload_n 3, 1) := by decide +kernel
theorem dX5_brightness_1 : decode cX5_brightness 1 = .ok (.ireturn, 1) := by decide +kernel
theorem dX5_hisses_0 : decode cX5_hisses 0 = .ok (.aload_n 1, 1) := by decide +kernel
theorem dX5_hisses_1 : decode cX5_hisses 1 = .ok (.bipush 10, 2) := by decide +kernel
theorem dX5_hisses_3 : decode cX5_hisses 3 = .ok (.invokevirtual 7, 3) := by decide +kernel
theorem dX5_hisses_6 : decode cX5_hisses 6 = .ok (.iload_n 2, 1) := by decide +kernel
theorem dX5_hisses_7 : decode cX5_hisses 7 = .ok (.aload_n 1, 1) := by decide +kernel
theorem dX5_hisses_8 : decode cX5_hisses 8 = .ok (.getfield 13, 3) := by decide +kernel
theorem dX5_hisses_11 : decode cX5_hisses 11 = .ok (.iadd, 1) := by decide +kernel
theorem dX5_hisses_12 : decode cX5_hisses 12 = .ok (.ireturn, 1) := by decide +kernel
theorem dX5_climbs_0 : decode cX5_climbs 0 = .ok (.aload_n 1, 1) := by decide +kernel
theorem dX5_climbs_1 : decode cX5_climbs 1 = .ok (.bipush 11, 2) := by decide +kernel
theorem dX5_climbs_3 : decode cX5_climbs 3 = .ok (.invokevirtual 7, 3) := by decide +kernel
theorem dX5_climbs_6 : decode cX5_climbs 6 = .ok (.aload_n 0, 1) := by decide +kernel
theorem dX5_climbs_7 : decode cX5_climbs 7 = .ok (.aload_n 1, 1) := by decide +kernel
theorem dX5_climbs_8 : decode cX5_climbs 8 = .ok (.iload_n 2, 1) := by decide +kernel
theorem dX5_climbs_9 : decode cX5_climbs 9 = .ok (.invokevirtual 17, 3) := by decide +kernel
theorem dX5_climbs_12 : decode cX5_climbs 12 = .ok (.aload_n 1, 1) := by decide +kernel
theorem dX5_climbs_13 : decode cX5_climbs 13 = .ok (.getfield 23, 3) := by decide +kernel
theorem dX5_climbs_16 : decode cX5_climbs 16 = .ok (.isub, 1) := by decide +kernel
theorem dX5_climbs_17 : decode cX5_climbs 17 = .ok (.ireturn, 1) := by decide +kernel
theorem dX5_tells_0 : decode cX5_tells 0 = .ok (.aload_n 1, 1) := by decide +kernel
theorem dX5_tells_1 : decode cX5_tells 1 = .ok (.bipush 12, 2) := by decide +kernel
theorem dX5_tells_3 : decode cX5_tells 3 = .ok (.invokevirtual 7, 3) := by decide +kernel
theorem dX5_tells_6 : decode cX5_tells 6 = .ok (.aload_n 0, 1) := by decide +kernel
theorem dX5_tells_7 : decode cX5_tells 7 = .ok (.aload_n 1, 1) := by decide +kernel
theorem dX5_tells_8 : decode cX5_tells 8 = .ok (.iload_n 2, 1) := by decide +kernel
theorem dX5_tells_9 : decode cX5_tells 9 = .ok (.invokevirtual 26, 3) := by decide +kernel
theorem dX5_tells_12 : decode cX5_tells 12 = .ok (.iconst 2, 1) := by decide +kernel
theorem dX5_tells_13 : decode cX5_tells 13 = .ok (.imul, 1) := by decide +kernel
theorem dX5_tells_14 : decode cX5_tells 14 = .ok (.ireturn, 1) := by decide +kernel
theorem dX6_init_0 : decode cX6_init 0 = .ok (.aload_n 0, 1) := by decide +kernel
theorem dX6_init_1 : decode cX6_init 1 = .ok (.invokespecial 3, 3) := by decide +kernel
theorem dX6_init_4 : decode cX6_init 4 = .ok (.aload_n 0, 1) := by decide +kernel
theorem dX6_init_5 : decode cX6_init 5 = .ok (.aload_n 1, 1) := by decide +kernel
theorem dX6_init_6 : decode cX6_init 6 = .ok (.putfield 9, 3) := by decide +kernel
theorem dX6_init_9 : decode cX6_init 9 = .ok (.aload_n 0, 1) := by decide +kernel
theorem dX6_init_10 : decode cX6_init 10 = .ok (.iload_n 2, 1) := by decide +kernel
theorem dX6_init_11 : decode cX6_init 11 = .ok (.putfield 15, 3) := by decide +kernel
theorem dX6_init_14 : decode cX6_init 14 = .ok (.return_, 1) := by decide +kernel
theorem dX6_brightens_0 : decode cX6_brightens 0 = .ok (.iconst 0, 1) := by decide +kernel
theorem dX6_brightens_1 : decode cX6_brightens 1 = .ok (.istore 4, 2) := by decide +kernel
theorem dX6_brightens_3 : decode cX6_brightens 3 = .ok (.iconst 0, 1) := by decide +kernel
theorem dX6_brightens_4 : decode cX6_brightens 4 = .ok (.istore 5, 2) := by decide +kernel
theorem dX6_brightens_6 : decode cX6_brightens 6 = .ok (.iconst 0, 1) := by decide +kernel
theorem dX6_brightens_7 : decode cX6_brightens 7 = .ok (.istore 6, 2) := by decide +kernel
theorem dX6_brightens_9 : decode cX6_brightens 9 = .ok (.iload 6, 2) := by decide +kernel
theorem dX6_brightens_11 : decode cX6_brightens 11 = .ok (.iconst 3, 1) := by decide +kernel
theorem dX6_brightens_12 : decode cX6_brightens 12 = .ok (.iadd, 1) := by decide +kernel
theorem dX6_brightens_13 : decode cX6_brightens 13 = .ok (.aload_n 0, 1) := by decide +kernel
theorem dX6_brightens_14 : decode cX6_brightens 14 = .ok (.getfield 9, 3) := by decide +kernel
theorem dX6_brightens_17 : decode cX6_brightens 17 = .ok (.arraylength, 1) := by decide +kernel
theorem dX6_brightens_18 : decode cX6_brightens 18 = .ok (.if_icmp .gt 186, 3) := by decide +kernel
theorem dX6_brightens_21 : decode cX6_brightens 21 = .ok (.aload_n 0, 1) := by decide +kernel
theorem dX6_brightens_22 : decode cX6_brightens 22 = .ok (.getfield 9, 3) := by decide +kernel
theorem dX6_brightens_25 : decode cX6_brightens 25 = .ok (.iload 6, 2) := by decide +kernel
theorem dX6_brightens_27 : decode cX6_brightens 27 = .ok (.iaload, 1) := by decide +kernel
theorem dX6_brightens_28 : decode cX6_brightens 28 = .ok (.istore 7, 2) := by decide +kernel
theorem dX6_brightens_30 : decode cX6_brightens 30 = .ok (.iload 5, 2) := by decide +kernel
theorem dX6_brightens_32 : decode cX6_brightens 32 = .ok (.iconst 1, 1) := by decide +kernel
theorem dX6_brightens_33 : decode cX6_brightens 33 = .ok (.iand, 1) := by decide +kernel
theorem dX6_brightens_34 : decode cX6_brightens 34 = .ok (.istore 8, 2) := by decide +kernel
theorem dX6_brightens_36 : decode cX6_brightens 36 = .ok (.iload 7, 2) := by decide +kernel
theorem dX6_brightens_38 : decode cX6_brightens 38 = .ok (.iconst 3, 1) := by decide +kernel
theorem dX6_brightens_39 : decode cX6_brightens 39 = .ok (.if_icmp .ne 12, 3) := by decide +kernel
theorem dX6_brightens_42 : decode cX6_brightens 42 = .ok (.iload 5, 2) := by decide +kernel
theorem dX6_brightens_44 : decode cX6_brightens 44 = .ok (.iconst 1, 1) := by decide +kernel
theorem dX6_brightens_45 : decode cX6_brightens 45 = .ok (.ixor, 1) := by decide +kernel
theorem dX6_brightens_46 : decode cX6_brightens 46 = .ok (.istore 5, 2) := by decide +kernel
theorem dX6_brightens_48 : decode cX6_brightens 48 = .ok (.goto 150, 3) := by decide +kernel
theorem dX6_brightens_51 : decode cX6_brightens 51 = .ok (.iload 7, 2) := by decide +kernel
theorem dX6_brightens_53 : decode cX6_brightens 53 = .ok (.iconst 4, 1) := by decide +kernel
theorem dX6_brightens_54 : decode cX6_brightens 54 = .ok (.if_icmp .ne 18, 3) := by decide +kernel
theorem dX6_brightens_57 : decode cX6_brightens 57 = .ok (.iload 5, 2) := by decide +kernel
theorem dX6_brightens_59 : decode cX6_brightens 59 = .ok (.iconst 1, 1) := by decide +kernel
theorem dX6_brightens_60 : decode cX6_brightens 60 = .ok (.ishr, 1) := by decide +kernel
theorem dX6_brightens_61 : decode cX6_brightens 61 = .ok (.iload 8, 2) := by decide +kernel
theorem dX6_brightens_63 : decode cX6_brightens 63 = .ok (.bipush (-2), 2) := by decide +kernel
theorem dX6_brightens_65 : decode cX6_brightens 65 = .ok (.ior, 1) := by decide +kernel
theorem dX6_brightens_66 : decode cX6_brightens 66 = .ok (.iand, 1) := by decide +kernel
theorem dX6_brightens_67 : decode cX6_brightens 67 = .ok (.istore 5, 2) := by decide +kernel
theorem dX6_brightens_69 : decode cX6_brightens 69 = .ok (.goto 129, 3) := by decide +kernel
theorem dX6_brightens_72 : decode cX6_brightens 72 = .ok (.iload 7, 2) := by decide +kernel
theorem dX6_brightens_74 : decode cX6_brightens 74 = .ok (.iconst 5, 1) := by decide +kernel
theorem dX6_brightens_75 : decode cX6_brightens 75 = .ok (.if_icmp .ne 15, 3) := by decide +kernel
theorem dX6_brightens_78 : decode cX6_brightens 78 = .ok (.iload 5, 2) := by decide +kernel
theorem dX6_brightens_80 : decode cX6_brightens 80 = .ok (.iconst 1, 1) := by decide +kernel
theorem dX6_brightens_81 : decode cX6_brightens 81 = .ok (.ishr, 1) := by decide +kernel
theorem dX6_brightens_82 : decode cX6_brightens 82 = .ok (.iload 8, 2) := by decide +kernel
theorem dX6_brightens_84 : decode cX6_brightens 84 = .ok (.ior, 1) := by decide +kernel
theorem dX6_brightens_85 : decode cX6_brightens 85 = .ok (.istore 5, 2) := by decide +kernel
theorem dX6_brightens_87 : decode cX6_brightens 87 = .ok (.goto 111, 3) := by decide +kernel
theorem dX6_brightens_90 : decode cX6_brightens 90 = .ok (.iload 7, 2) := by decide +kernel
theorem dX6_brightens_92 : decode cX6_brightens 92 = .ok (.bipush 6, 2) := by decide +kernel
theorem dX6_brightens_94 : decode cX6_brightens 94 = .ok (.if_icmp .eq 10, 3) := by decide +kernel
theorem dX6_brightens_97 : decode cX6_brightens 97 = .ok (.iload 7, 2) := by decide +kernel
theorem dX6_brightens_99 : decode cX6_brightens 99 = .ok (.bipush 7, 2) := by decide +kernel
theorem dX6_brightens_101 : decode cX6_brightens 101 = .ok (.if_icmp .ne 49, 3) := by decide +kernel
theorem dX6_brightens_104 : decode cX6_brightens 104 = .ok (.iload 4, 2) := by decide +kernel
theorem dX6_brightens_106 : decode cX6_brightens 106 = .ok (.iload 8, 2) := by decide +kernel
theorem dX6_brightens_108 : decode cX6_brightens 108 = .ok (.iload 7, 2) := by decide +kernel
theorem dX6_brightens_110 : decode cX6_brightens 110 = .ok (.bipush 6, 2) := by decide +kernel
theorem dX6_brightens_112 : decode cX6_brightens 112 = .ok (.if_icmp .ne 15, 3) := by decide +kernel
theorem dX6_brightens_115 : decode cX6_brightens 115 = .ok (.aload_n 0, 1) := by decide +kernel
theorem dX6_brightens_116 : decode cX6_brightens 116 = .ok (.getfield 9, 3) := by decide +kernel
theorem dX6_brightens_119 : decode cX6_brightens 119 = .ok (.iload 6, 2) := by decide +kernel
theorem dX6_brightens_121 : decode cX6_brightens 121 = .ok (.iconst 1, 1) := by decide +kernel
theorem dX6_brightens_122 : decode cX6_brightens 122 = .ok (.iadd, 1) := by decide +kernel
theorem dX6_brightens_123 : decode cX6_brightens 123 = .ok (.iaload, 1) := by decide +kernel
theorem dX6_brightens_124 : decode cX6_brightens 124 = .ok (.goto 13, 3) := by decide +kernel
theorem dX6_brightens_127 : decode cX6_brightens 127 = .ok (.aload_n 0, 1) := by decide +kernel
theorem dX6_brightens_128 : decode cX6_brightens 128 = .ok (.getfield 9, 3) := by decide +kernel
theorem dX6_brightens_131 : decode cX6_brightens 131 = .ok (.iload 6, 2) := by decide +kernel
theorem dX6_brightens_133 : decode cX6_brightens 133 = .ok (.iconst 1, 1) := by decide +kernel
theorem dX6_brightens_134 : decode cX6_brightens 134 = .ok (.iadd, 1) := by decide +kernel
theorem dX6_brightens_135 : decode cX6_brightens 135 = .ok (.iaload, 1) := by decide +kernel
theorem dX6_brightens_136 : decode cX6_brightens 136 = .ok (.ineg, 1) := by decide +kernel
theorem dX6_brightens_137 : decode cX6_brightens 137 = .ok (.imul, 1) := by decide +kernel
theorem dX6_brightens_138 : decode cX6_brightens 138 = .ok (.iadd, 1) := by decide +kernel
theorem dX6_brightens_139 : decode cX6_brightens 139 = .ok (.istore 4, 2) := by decide +kernel
theorem dX6_brightens_141 : decode cX6_brightens 141 = .ok (.iload 5, 2) := by decide +kernel
theorem dX6_brightens_143 : decode cX6_brightens 143 = .ok (.iconst 1, 1) := by decide +kernel
theorem dX6_brightens_144 : decode cX6_brightens 144 = .ok (.ishr, 1) := by decide +kernel
theorem dX6_brightens_145 : decode cX6_brightens 145 = .ok (.istore 5, 2) := by decide +kernel
theorem dX6_brightens_147 : decode cX6_brightens 147 = .ok (.goto 51, 3) := by decide +kernel
theorem dX6_brightens_150 : decode cX6_brightens 150 = .ok (.aload_n 0, 1) := by decide +kernel
theorem dX6_brightens_151 : decode cX6_brightens 151 = .ok (.getfield 9, 3) := by decide +kernel
theorem dX6_brightens_154 : decode cX6_brightens 154 = .ok (.iload 6, 2) := by decide +kernel
theorem dX6_brightens_156 : decode cX6_brightens 156 = .ok (.iconst 1, 1) := by decide +kernel
theorem dX6_brightens_157 : decode cX6_brightens 157 = .ok (.iadd, 1) := by decide +kernel
theorem dX6_brightens_158 : decode cX6_brightens 158 = .ok (.iaload, 1) := by decide +kernel
theorem dX6_brightens_159 : decode cX6_brightens 159 = .ok (.iload_n 1, 1) := by decide +kernel
theorem dX6_brightens_160 : decode cX6_brightens 160 = .ok (.aload_n 2, 1) := by decide +kernel
theorem dX6_brightens_161 : decode cX6_brightens 161 = .ok (.iload_n 3, 1) := by decide +kernel
theorem dX6_brightens_162 : decode cX6_brightens 162 = .ok (.invokestatic 19, 3) := by decide +kernel
theorem dX6_brightens_165 : decode cX6_brightens 165 = .ok (.istore 9, 2) := by decide +kernel
theorem dX6_brightens_167 : decode cX6_brightens 167 = .ok (.iload 5, 2) := by decide +kernel
theorem dX6_brightens_169 : decode cX6_brightens 169 = .ok (.iconst 1, 1) := by decide +kernel
theorem dX6_brightens_170 : decode cX6_brightens 170 = .ok (.ishl, 1) := by decide +kernel
theorem dX6_brightens_171 : decode cX6_brightens 171 = .ok (.iload 7, 2) := by decide +kernel
theorem dX6_brightens_173 : decode cX6_brightens 173 = .ok (.iload 9, 2) := by decide +kernel
theorem dX6_brightens_175 : decode cX6_brightens 175 = .ok (.aload_n 0, 1) := by decide +kernel
theorem dX6_brightens_176 : decode cX6_brightens 176 = .ok (.getfield 9, 3) := by decide +kernel
theorem dX6_brightens_179 : decode cX6_brightens 179 = .ok (.iload 6, 2) := by decide +kernel
theorem dX6_brightens_181 : decode cX6_brightens 181 = .ok (.iconst 2, 1) := by decide +kernel
theorem dX6_brightens_182 : decode cX6_brightens 182 = .ok (.iadd, 1) := by decide +kernel
theorem dX6_brightens_183 : decode cX6_brightens 183 = .ok (.iaload, 1) := by decide +kernel
theorem dX6_brightens_184 : decode cX6_brightens 184 = .ok (.invokestatic 23, 3) := by decide +kernel
theorem dX6_brightens_187 : decode cX6_brightens 187 = .ok (.ifCond .eq 7, 3) := by decide +kernel
theorem dX6_brightens_190 : decode cX6_brightens 190 = .ok (.iconst 1, 1) := by decide +kernel
theorem dX6_brightens_191 : decode cX6_brightens 191 = .ok (.goto 4, 3) := by decide +kernel
theorem dX6_brightens_194 : decode cX6_brightens 194 = .ok (.iconst 0, 1) := by decide +kernel
theorem dX6_brightens_195 : decode cX6_brightens 195 = .ok (.ior, 1) := by decide +kernel
theorem dX6_brightens_196 : decode cX6_brightens 196 = .ok (.istore 5, 2) := by decide +kernel
theorem dX6_brightens_198 : decode cX6_brightens 198 = .ok (.iinc 6 3, 3) := by decide +kernel
theorem dX6_brightens_201 : decode cX6_brightens 201 = .ok (.goto (-192), 3) := by decide +kernel
theorem dX6_brightens_204 : decode cX6_brightens 204 = .ok (.iload 4, 2) := by decide +kernel
theorem dX6_brightens_206 : decode cX6_brightens 206 = .ok (.ireturn, 1) := by decide +kernel
theorem dX6_operand_0 : decode cX6_operand 0 = .ok (.iload_n 0, 1) := by decide +kernel
theorem dX6_operand_1 : decode cX6_operand 1 = .ok (.tableswitch 88 107 119 #[69, 88, 88, 88, 88, 67, 88, 88, 77, 88, 88, 73, 81], 67) := by decide +kernel
theorem dX6_operand_68 : decode cX6_operand 68 = .ok (.iload_n 1, 1) := by decide +kernel
theorem dX6_operand_69 : decode cX6_operand 69 = .ok (.ireturn, 1) := by decide +kernel
theorem dX6_operand_70 : decode cX6_operand 70 = .ok (.aload_n 2, 1) := by decide +kernel
theorem dX6_operand_71 : decode cX6_operand 71 = .ok (.iconst 0, 1) := by decide +kernel
theorem dX6_operand_72 : decode cX6_operand 72 = .ok (.iaload, 1) := by decide +kernel
theorem dX6_operand_73 : decode cX6_operand 73 = .ok (.ireturn, 1) := by decide +kernel
theorem dX6_operand_74 : decode cX6_operand 74 = .ok (.aload_n 2, 1) := by decide +kernel
theorem dX6_operand_75 : decode cX6_operand 75 = .ok (.iconst 1, 1) := by decide +kernel
theorem dX6_operand_76 : decode cX6_operand 76 = .ok (.iaload, 1) := by decide +kernel
theorem dX6_operand_77 : decode cX6_operand 77 = .ok (.ireturn, 1) := by decide +kernel
theorem dX6_operand_78 : decode cX6_operand 78 = .ok (.aload_n 2, 1) := by decide +kernel
theorem dX6_operand_79 : decode cX6_operand 79 = .ok (.iconst 2, 1) := by decide +kernel
theorem dX6_operand_80 : decode cX6_operand 80 = .ok (.iaload, 1) := by decide +kernel
theorem dX6_operand_81 : decode cX6_operand 81 = .ok (.ireturn, 1) := by decide +kernel
theorem dX6_operand_82 : decode cX6_operand 82 = .ok (.aload_n 2, 1) := by decide +kernel
theorem dX6_operand_83 : decode cX6_operand 83 = .ok (.iconst 4, 1) := by decide +kernel
theorem dX6_operand_84 : decode cX6_operand 84 = .ok (.iaload, 1) := by decide +kernel
theorem dX6_operand_85 : decode cX6_operand 85 = .ok (.bipush 10, 2) := by decide +kernel
theorem dX6_operand_87 : decode cX6_operand 87 = .ok (.idiv, 1) := by decide +kernel
theorem dX6_operand_88 : decode cX6_operand 88 = .ok (.ireturn, 1) := by decide +kernel
theorem dX6_operand_89 : decode cX6_operand 89 = .ok (.iload_n 3, 1) := by decide +kernel
theorem dX6_operand_90 : decode cX6_operand 90 = .ok (.bipush 10, 2) := by decide +kernel
theorem dX6_operand_92 : decode cX6_operand 92 = .ok (.irem, 1) := by decide +kernel
theorem dX6_operand_93 : decode cX6_operand 93 = .ok (.ireturn, 1) := by decide +kernel
theorem dX6_compares_0 : decode cX6_compares 0 = .ok (.iload_n 0, 1) := by decide +kernel
theorem dX6_compares_1 : decode cX6_compares 1 = .ok (.iconst 1, 1) := by decide +kernel
theorem dX6_compares_2 : decode cX6_compares 2 = .ok (.if_icmp .ne 14, 3) := by decide +kernel
theorem dX6_compares_5 : decode cX6_compares 5 = .ok (.iload_n 1, 1) := by decide +kernel
theorem dX6_compares_6 : decode cX6_compares 6 = .ok (.iload_n 2, 1) := by decide +kernel
theorem dX6_compares_7 : decode cX6_compares 7 = .ok (.if_icmp .ne 7, 3) := by decide +kernel
theorem dX6_compares_10 : decode cX6_compares 10 = .ok (.iconst 1, 1) := by decide +kernel
theorem dX6_compares_11 : decode cX6_compares 11 = .ok (.goto 4, 3) := by decide +kernel
theorem dX6_compares_14 : decode cX6_compares 14 = .ok (.iconst 0, 1) := by decide +kernel
theorem dX6_compares_15 : decode cX6_compares 15 = .ok (.ireturn, 1) := by decide +kernel
theorem dX6_compares_16 : decode cX6_compares 16 = .ok (.iload_n 0, 1) := by decide +kernel
theorem dX6_compares_17 : decode cX6_compares 17 = .ok (.ifCond .ne 16, 3) := by decide +kernel
theorem dX6_compares_20 : decode cX6_compares 20 = .ok (.iload_n 1, 1) := by decide +kernel
theorem dX6_compares_21 : decode cX6_compares 21 = .ok (.iload_n 2, 1) := by decide +kernel
theorem dX6_compares_22 : decode cX6_compares 22 = .ok (.if_icmp .ge 7, 3) := by decide +kernel
theorem dX6_compares_25 : decode cX6_compares 25 = .ok (.iconst 1, 1) := by decide +kernel
theorem dX6_compares_26 : decode cX6_compares 26 = .ok (.goto 17, 3) := by decide +kernel
theorem dX6_compares_29 : decode cX6_compares 29 = .ok (.iconst 0, 1) := by decide +kernel
theorem dX6_compares_30 : decode cX6_compares 30 = .ok (.goto 13, 3) := by decide +kernel
theorem dX6_compares_33 : decode cX6_compares 33 = .ok (.iload_n 1, 1) := by decide +kernel
theorem dX6_compares_34 : decode cX6_compares 34 = .ok (.iload_n 2, 1) := by decide +kernel
theorem dX6_compares_35 : decode cX6_compares 35 = .ok (.if_icmp .le 7, 3) := by decide +kernel
theorem dX6_compares_38 : decode cX6_compares 38 = .ok (.iconst 1, 1) := by decide +kernel
theorem dX6_compares_39 : decode cX6_compares 39 = .ok (.goto 4, 3) := by decide +kernel
theorem dX6_compares_42 : decode cX6_compares 42 = .ok (.iconst 0, 1) := by decide +kernel
theorem dX6_compares_43 : decode cX6_compares 43 = .ok (.ireturn, 1) := by decide +kernel
theorem dX7_init_0 : decode cX7_init 0 = .ok (.aload_n 0, 1) := by decide +kernel
theorem dX7_init_1 : decode cX7_init 1 = .ok (.invokespecial 3, 3) := by decide +kernel
theorem dX7_init_4 : decode cX7_init 4 = .ok (.return_, 1) := by decide +kernel
theorem dX7_brightness_0 : decode cX7_brightness 0 = .ok (.aload_n 0, 1) := by decide +kernel
theorem dX7_brightness_1 : decode cX7_brightness 1 = .ok (.aload_n 1, 1) := by decide +kernel
theorem dX7_brightness_2 : decode cX7_brightness 2 = .ok (.aload_n 2, 1) := by decide +kernel
theorem dX7_brightness_3 : decode cX7_brightness 3 = .ok (.iload_n 3, 1) := by decide +kernel
theorem dX7_brightness_4 : decode cX7_brightness 4 = .ok (.invokespecial 9, 3) := by decide +kernel
theorem dX7_brightness_7 : decode cX7_brightness 7 = .ok (.aload_n 2, 1) := by decide +kernel
theorem dX7_brightness_8 : decode cX7_brightness 8 = .ok (.bipush 6, 2) := by decide +kernel
theorem dX7_brightness_10 : decode cX7_brightness 10 = .ok (.aload_n 1, 1) := by decide +kernel
theorem dX7_brightness_11 : decode cX7_brightness 11 = .ok (.getfield 13, 3) := by decide +kernel
theorem dX7_brightness_14 : decode cX7_brightness 14 = .ok (.iconst 4, 1) := by decide +kernel
theorem dX7_brightness_15 : decode cX7_brightness 15 = .ok (.irem, 1) := by decide +kernel
theorem dX7_brightness_16 : decode cX7_brightness 16 = .ok (.iadd, 1) := by decide +kernel
theorem dX7_brightness_17 : decode cX7_brightness 17 = .ok (.iaload, 1) := by decide +kernel
theorem dX7_brightness_18 : decode cX7_brightness 18 = .ok (.iadd, 1) := by decide +kernel
theorem dX7_brightness_19 : decode cX7_brightness 19 = .ok (.ireturn, 1) := by decide +kernel
theorem dX7_climbs_0 : decode cX7_climbs 0 = .ok (.aload_n 1, 1) := by decide +kernel
theorem dX7_climbs_1 : decode cX7_climbs 1 = .ok (.bipush 70, 2) := by decide +kernel
theorem dX7_climbs_3 : decode cX7_climbs 3 = .ok (.invokevirtual 19, 3) := by decide +kernel
theorem dX7_climbs_6 : decode cX7_climbs 6 = .ok (.aload_n 0, 1) := by decide +kernel
theorem dX7_climbs_7 : decode cX7_climbs 7 = .ok (.aload_n 1, 1) := by decide +kernel
theorem dX7_climbs_8 : decode cX7_climbs 8 = .ok (.iload_n 2, 1) := by decide +kernel
theorem dX7_climbs_9 : decode cX7_climbs 9 = .ok (.invokespecial 25, 3) := by decide +kernel
theorem dX7_climbs_12 : decode cX7_climbs 12 = .ok (.aload_n 0, 1) := by decide +kernel
theorem dX7_climbs_13 : decode cX7_climbs 13 = .ok (.aload_n 1, 1) := by decide +kernel
theorem dX7_climbs_14 : decode cX7_climbs 14 = .ok (.iconst 2, 1) := by decide +kernel
theorem dX7_climbs_15 : decode cX7_climbs 15 = .ok (.invokespecial 29, 3) := by decide +kernel
theorem dX7_climbs_18 : decode cX7_climbs 18 = .ok (.iadd, 1) := by decide +kernel
theorem dX7_climbs_19 : decode cX7_climbs 19 = .ok (.ireturn, 1) := by decide +kernel
theorem dX7_hisses_0 : decode cX7_hisses 0 = .ok (.aload_n 1, 1) := by decide +kernel
theorem dX7_hisses_1 : decode cX7_hisses 1 = .ok (.bipush 71, 2) := by decide +kernel
theorem dX7_hisses_3 : decode cX7_hisses 3 = .ok (.invokevirtual 19, 3) := by decide +kernel
theorem dX7_hisses_6 : decode cX7_hisses 6 = .ok (.aload_n 0, 1) := by decide +kernel
theorem dX7_hisses_7 : decode cX7_hisses 7 = .ok (.aload_n 1, 1) := by decide +kernel
theorem dX7_hisses_8 : decode cX7_hisses 8 = .ok (.iload_n 2, 1) := by decide +kernel
theorem dX7_hisses_9 : decode cX7_hisses 9 = .ok (.invokespecial 29, 3) := by decide +kernel
theorem dX7_hisses_12 : decode cX7_hisses 12 = .ok (.aload_n 1, 1) := by decide +kernel
theorem dX7_hisses_13 : decode cX7_hisses 13 = .ok (.getfield 32, 3) := by decide +kernel
theorem dX7_hisses_16 : decode cX7_hisses 16 = .ok (.ixor, 1) := by decide +kernel
theorem dX7_hisses_17 : decode cX7_hisses 17 = .ok (.ireturn, 1) := by decide +kernel
theorem dX8_init_0 : decode cX8_init 0 = .ok (.aload_n 0, 1) := by decide +kernel
theorem dX8_init_1 : decode cX8_init 1 = .ok (.invokespecial 1, 3) := by decide +kernel
theorem dX8_init_4 : decode cX8_init 4 = .ok (.return_, 1) := by decide +kernel
theorem dX8_brightness_0 : decode cX8_brightness 0 = .ok (.aload_n 0, 1) := by decide +kernel
theorem dX8_brightness_1 : decode cX8_brightness 1 = .ok (.aload_n 1, 1) := by decide +kernel
theorem dX8_brightness_2 : decode cX8_brightness 2 = .ok (.aload_n 2, 1) := by decide +kernel
theorem dX8_brightness_3 : decode cX8_brightness 3 = .ok (.iload_n 3, 1) := by decide +kernel
theorem dX8_brightness_4 : decode cX8_brightness 4 = .ok (.invokespecial 7, 3) := by decide +kernel
theorem dX8_brightness_7 : decode cX8_brightness 7 = .ok (.istore 4, 2) := by decide +kernel
theorem dX8_brightness_9 : decode cX8_brightness 9 = .ok (.aload_n 1, 1) := by decide +kernel
theorem dX8_brightness_10 : decode cX8_brightness 10 = .ok (.getfield 11, 3) := by decide +kernel
theorem dX8_brightness_13 : decode cX8_brightness 13 = .ok (.iconst 3, 1) := by decide +kernel
theorem dX8_brightness_14 : decode cX8_brightness 14 = .ok (.irem, 1) := by decide +kernel
theorem dX8_brightness_15 : decode cX8_brightness 15 = .ok (.ifCond .ne 10, 3) := by decide +kernel
theorem dX8_brightness_18 : decode cX8_brightness 18 = .ok (.iconst 2, 1) := by decide +kernel
theorem dX8_brightness_19 : decode cX8_brightness 19 = .ok (.iload 4, 2) := by decide +kernel
theorem dX8_brightness_21 : decode cX8_brightness 21 = .ok (.imul, 1) := by decide +kernel
theorem dX8_brightness_22 : decode cX8_brightness 22 = .ok (.goto 5, 3) := by decide +kernel
theorem dX8_brightness_25 : decode cX8_brightness 25 = .ok (.iload 4, 2) := by decide +kernel
theorem dX8_brightness_27 : decode cX8_brightness 27 = .ok (.ireturn, 1) := by decide +kernel
theorem dX8_tells_0 : decode cX8_tells 0 = .ok (.aload_n 1, 1) := by decide +kernel
theorem dX8_tells_1 : decode cX8_tells 1 = .ok (.bipush 60, 2) := by decide +kernel
theorem dX8_tells_3 : decode cX8_tells 3 = .ok (.invokevirtual 17, 3) := by decide +kernel
theorem dX8_tells_6 : decode cX8_tells 6 = .ok (.aload_n 0, 1) := by decide +kernel
theorem dX8_tells_7 : decode cX8_tells 7 = .ok (.aload_n 1, 1) := by decide +kernel
theorem dX8_tells_8 : decode cX8_tells 8 = .ok (.iload_n 2, 1) := by decide +kernel
theorem dX8_tells_9 : decode cX8_tells 9 = .ok (.aload_n 1, 1) := by decide +kernel
theorem dX8_tells_10 : decode cX8_tells 10 = .ok (.getfield 23, 3) := by decide +kernel
theorem dX8_tells_13 : decode cX8_tells 13 = .ok (.isub, 1) := by decide +kernel
theorem dX8_tells_14 : decode cX8_tells 14 = .ok (.invokespecial 26, 3) := by decide +kernel
theorem dX8_tells_17 : decode cX8_tells 17 = .ok (.ireturn, 1) := by decide +kernel
theorem dX9_init_0 : decode cX9_init 0 = .ok (.aload_n 0, 1) := by decide +kernel
theorem dX9_init_1 : decode cX9_init 1 = .ok (.invokespecial 1, 3) := by decide +kernel
theorem dX9_init_4 : decode cX9_init 4 = .ok (.return_, 1) := by decide +kernel
theorem dX9_brightness_0 : decode cX9_brightness 0 = .ok (.iload_n 3, 1) := by decide +kernel
theorem dX9_brightness_1 : decode cX9_brightness 1 = .ok (.iconst 2, 1) := by decide +kernel
theorem dX9_brightness_2 : decode cX9_brightness 2 = .ok (.idiv, 1) := by decide +kernel
theorem dX9_brightness_3 : decode cX9_brightness 3 = .ok (.ireturn, 1) := by decide +kernel
theorem dX9_hisses_0 : decode cX9_hisses 0 = .ok (.aload_n 1, 1) := by decide +kernel
theorem dX9_hisses_1 : decode cX9_hisses 1 = .ok (.bipush 30, 2) := by decide +kernel
theorem dX9_hisses_3 : decode cX9_hisses 3 = .ok (.invokevirtual 7, 3) := by decide +kernel
theorem dX9_hisses_6 : decode cX9_hisses 6 = .ok (.aload_n 0, 1) := by decide +kernel
theorem dX9_hisses_7 : decode cX9_hisses 7 = .ok (.aload_n 1, 1) := by decide +kernel
theorem dX9_hisses_8 : decode cX9_hisses 8 = .ok (.iload_n 2, 1) := by decide +kernel
theorem dX9_hisses_9 : decode cX9_hisses 9 = .ok (.iconst 3, 1) := by decide +kernel
theorem dX9_hisses_10 : decode cX9_hisses 10 = .ok (.imul, 1) := by decide +kernel
theorem dX9_hisses_11 : decode cX9_hisses 11 = .ok (.invokespecial 13, 3) := by decide +kernel
theorem dX9_hisses_14 : decode cX9_hisses 14 = .ok (.ireturn, 1) := by decide +kernel
theorem dX10_init_0 : decode cX10_init 0 = .ok (.aload_n 0, 1) := by decide +kernel
theorem dX10_init_1 : decode cX10_init 1 = .ok (.invokespecial 3, 3) := by decide +kernel
theorem dX10_init_4 : decode cX10_init 4 = .ok (.aload_n 0, 1) := by decide +kernel
theorem dX10_init_5 : decode cX10_init 5 = .ok (.bipush 6, 2) := by decide +kernel
theorem dX10_init_7 : decode cX10_init 7 = .ok (.bipush 10, 2) := by decide +kernel
theorem dX10_init_9 : decode cX10_init 9 = .ok (.multianewarray 9 2, 4) := by decide +kernel
theorem dX10_init_13 : decode cX10_init 13 = .ok (.putfield 11, 3) := by decide +kernel
theorem dX10_init_16 : decode cX10_init 16 = .ok (.aload_n 0, 1) := by decide +kernel
theorem dX10_init_17 : decode cX10_init 17 = .ok (.iconst 4, 1) := by decide +kernel
theorem dX10_init_18 : decode cX10_init 18 = .ok (.newarray .int, 2) := by decide +kernel
theorem dX10_init_20 : decode cX10_init 20 = .ok (.putfield 16, 3) := by decide +kernel
theorem dX10_init_23 : decode cX10_init 23 = .ok (.aload_n 0, 1) := by decide +kernel
theorem dX10_init_24 : decode cX10_init 24 = .ok (.iconst 4, 1) := by decide +kernel
theorem dX10_init_25 : decode cX10_init 25 = .ok (.newarray .int, 2) := by decide +kernel
theorem dX10_init_27 : decode cX10_init 27 = .ok (.putfield 20, 3) := by decide +kernel
theorem dX10_init_30 : decode cX10_init 30 = .ok (.aload_n 0, 1) := by decide +kernel
theorem dX10_init_31 : decode cX10_init 31 = .ok (.iconst 5, 1) := by decide +kernel
theorem dX10_init_32 : decode cX10_init 32 = .ok (.newarray .int, 2) := by decide +kernel
theorem dX10_init_34 : decode cX10_init 34 = .ok (.putfield 23, 3) := by decide +kernel
theorem dX10_init_37 : decode cX10_init 37 = .ok (.aload_n 0, 1) := by decide +kernel
theorem dX10_init_38 : decode cX10_init 38 = .ok (.iconst 5, 1) := by decide +kernel
theorem dX10_init_39 : decode cX10_init 39 = .ok (.newarray .int, 2) := by decide +kernel
theorem dX10_init_41 : decode cX10_init 41 = .ok (.putfield 26, 3) := by decide +kernel
theorem dX10_init_44 : decode cX10_init 44 = .ok (.aload_n 0, 1) := by decide +kernel
theorem dX10_init_45 : decode cX10_init 45 = .ok (.iconst 5, 1) := by decide +kernel
theorem dX10_init_46 : decode cX10_init 46 = .ok (.newarray .int, 2) := by decide +kernel
theorem dX10_init_48 : decode cX10_init 48 = .ok (.putfield 29, 3) := by decide +kernel
theorem dX10_init_51 : decode cX10_init 51 = .ok (.aload_n 0, 1) := by decide +kernel
theorem dX10_init_52 : decode cX10_init 52 = .ok (.bipush 10, 2) := by decide +kernel
theorem dX10_init_54 : decode cX10_init 54 = .ok (.newarray .int, 2) := by decide +kernel
theorem dX10_init_56 : decode cX10_init 56 = .ok (.putfield 32, 3) := by decide +kernel
theorem dX10_init_59 : decode cX10_init 59 = .ok (.aload_n 0, 1) := by decide +kernel
theorem dX10_init_60 : decode cX10_init 60 = .ok (.bipush 10, 2) := by decide +kernel
theorem dX10_init_62 : decode cX10_init 62 = .ok (.newarray .int, 2) := by decide +kernel
theorem dX10_init_64 : decode cX10_init 64 = .ok (.putfield 35, 3) := by decide +kernel
theorem dX10_init_67 : decode cX10_init 67 = .ok (.aload_n 0, 1) := by decide +kernel
theorem dX10_init_68 : decode cX10_init 68 = .ok (.bipush 8, 2) := by decide +kernel
theorem dX10_init_70 : decode cX10_init 70 = .ok (.newarray .int, 2) := by decide +kernel
theorem dX10_init_72 : decode cX10_init 72 = .ok (.putfield 38, 3) := by decide +kernel
theorem dX10_init_75 : decode cX10_init 75 = .ok (.aload_n 0, 1) := by decide +kernel
theorem dX10_init_76 : decode cX10_init 76 = .ok (.bipush 8, 2) := by decide +kernel
theorem dX10_init_78 : decode cX10_init 78 = .ok (.newarray .int, 2) := by decide +kernel
theorem dX10_init_80 : decode cX10_init 80 = .ok (.putfield 41, 3) := by decide +kernel
theorem dX10_init_83 : decode cX10_init 83 = .ok (.aload_n 0, 1) := by decide +kernel
theorem dX10_init_84 : decode cX10_init 84 = .ok (.aload_n 1, 1) := by decide +kernel
theorem dX10_init_85 : decode cX10_init 85 = .ok (.putfield 44, 3) := by decide +kernel
theorem dX10_init_88 : decode cX10_init 88 = .ok (.return_, 1) := by decide +kernel
theorem dX10_goOnFrom_0 : decode cX10_goOnFrom 0 = .ok (.iconst 0, 1) := by decide +kernel
theorem dX10_goOnFrom_1 : decode cX10_goOnFrom 1 = .ok (.istore_n 2, 1) := by decide +kernel
theorem dX10_goOnFrom_2 : decode cX10_goOnFrom 2 = .ok (.iload_n 2, 1) := by decide +kernel
theorem dX10_goOnFrom_3 : decode cX10_goOnFrom 3 = .ok (.aload_n 1, 1) := by decide +kernel
theorem dX10_goOnFrom_4 : decode cX10_goOnFrom 4 = .ok (.getfield 48, 3) := by decide +kernel
theorem dX10_goOnFrom_7 : decode cX10_goOnFrom 7 = .ok (.if_icmp .ge 28, 3) := by decide +kernel
theorem dX10_goOnFrom_10 : decode cX10_goOnFrom 10 = .ok (.aload_n 1, 1) := by decide +kernel
theorem dX10_goOnFrom_11 : decode cX10_goOnFrom 11 = .ok (.getfield 11, 3) := by decide +kernel
theorem dX10_goOnFrom_14 : decode cX10_goOnFrom 14 = .ok (.iload_n 2, 1) := by decide +kernel
theorem dX10_goOnFrom_15 : decode cX10_goOnFrom 15 = .ok (.aaload, 1) := by decide +kernel
theorem dX10_goOnFrom_16 : decode cX10_goOnFrom 16 = .ok (.iconst 0, 1) := by decide +kernel
theorem dX10_goOnFrom_17 : decode cX10_goOnFrom 17 = .ok (.aload_n 0, 1) := by decide +kernel
theorem dX10_goOnFrom_18 : decode cX10_goOnFrom 18 = .ok (.getfield 11, 3) := by decide +kernel
theorem dX10_goOnFrom_21 : decode cX10_goOnFrom 21 = .ok (.iload_n 2, 1) := by decide +kernel
theorem dX10_goOnFrom_22 : decode cX10_goOnFrom 22 = .ok (.aaload, 1) := by decide +kernel
theorem dX10_goOnFrom_23 : decode cX10_goOnFrom 23 = .ok (.iconst 0, 1) := by decide +kernel
theorem dX10_goOnFrom_24 : decode cX10_goOnFrom 24 = .ok (.bipush 10, 2) := by decide +kernel
theorem dX10_goOnFrom_26 : decode cX10_goOnFrom 26 = .ok (.invokestatic 52, 3) := by decide +kernel
theorem dX10_goOnFrom_29 : decode cX10_goOnFrom 29 = .ok (.iinc 2 1, 3) := by decide +kernel
theorem dX10_goOnFrom_32 : decode cX10_goOnFrom 32 = .ok (.goto (-30), 3) := by decide +kernel
theorem dX10_goOnFrom_35 : decode cX10_goOnFrom 35 = .ok (.aload_n 1, 1) := by decide +kernel
theorem dX10_goOnFrom_36 : decode cX10_goOnFrom 36 = .ok (.getfield 16, 3) := by decide +kernel
theorem dX10_goOnFrom_39 : decode cX10_goOnFrom 39 = .ok (.iconst 0, 1) := by decide +kernel
theorem dX10_goOnFrom_40 : decode cX10_goOnFrom 40 = .ok (.aload_n 0, 1) := by decide +kernel
theorem dX10_goOnFrom_41 : decode cX10_goOnFrom 41 = .ok (.getfield 16, 3) := by decide +kernel
theorem dX10_goOnFrom_44 : decode cX10_goOnFrom 44 = .ok (.iconst 0, 1) := by decide +kernel
theorem dX10_goOnFrom_45 : decode cX10_goOnFrom 45 = .ok (.iconst 4, 1) := by decide +kernel
theorem dX10_goOnFrom_46 : decode cX10_goOnFrom 46 = .ok (.invokestatic 52, 3) := by decide +kernel
theorem dX10_goOnFrom_49 : decode cX10_goOnFrom 49 = .ok (.aload_n 1, 1) := by decide +kernel
theorem dX10_goOnFrom_50 : decode cX10_goOnFrom 50 = .ok (.getfield 20, 3) := by decide +kernel
theorem dX10_goOnFrom_53 : decode cX10_goOnFrom 53 = .ok (.iconst 0, 1) := by decide +kernel
theorem dX10_goOnFrom_54 : decode cX10_goOnFrom 54 = .ok (.aload_n 0, 1) := by decide +kernel
theorem dX10_goOnFrom_55 : decode cX10_goOnFrom 55 = .ok (.getfield 20, 3) := by decide +kernel
theorem dX10_goOnFrom_58 : decode cX10_goOnFrom 58 = .ok (.iconst 0, 1) := by decide +kernel
theorem dX10_goOnFrom_59 : decode cX10_goOnFrom 59 = .ok (.iconst 4, 1) := by decide +kernel
theorem dX10_goOnFrom_60 : decode cX10_goOnFrom 60 = .ok (.invokestatic 52, 3) := by decide +kernel
end
section
theorem dX10_goOnFrom_63 : decode cX10_goOnFrom 63 = .ok (.aload_n 0, 1) := by decide +kernel
theorem dX10_goOnFrom_64 : decode cX10_goOnFrom 64 = .ok (.aload_n 1, 1) := by decide +kernel
theorem dX10_goOnFrom_65 : decode cX10_goOnFrom 65 = .ok (.getfield 48, 3) := by decide +kernel
theorem dX10_goOnFrom_68 : decode cX10_goOnFrom 68 = .ok (.putfield 48, 3) := by decide +kernel
theorem dX10_goOnFrom_71 : decode cX10_goOnFrom 71 = .ok (.aload_n 0, 1) := by decide +kernel
theorem dX10_goOnFrom_72 : decode cX10_goOnFrom 72 = .ok (.aload_n 1, 1) := by decide +kernel
theorem dX10_goOnFrom_73 : decode cX10_goOnFrom 73 = .ok (.getfield 58, 3) := by decide +kernel
theorem dX10_goOnFrom_76 : decode cX10_goOnFrom 76 = .ok (.putfield 58, 3) := by decide +kernel
theorem dX10_goOnFrom_79 : decode cX10_goOnFrom 79 = .ok (.aload_n 0, 1) := by decide +kernel
theorem dX10_goOnFrom_80 : decode cX10_goOnFrom 80 = .ok (.aload_n 1, 1) := by decide +kernel
theorem dX10_goOnFrom_81 : decode cX10_goOnFrom 81 = .ok (.getfield 61, 3) := by decide +kernel
theorem dX10_goOnFrom_84 : decode cX10_goOnFrom 84 = .ok (.putfield 61, 3) := by decide +kernel
theorem dX10_goOnFrom_87 : decode cX10_goOnFrom 87 = .ok (.return_, 1) := by decide +kernel
theorem dX10_copyRowsOf_0 : decode cX10_copyRowsOf 0 = .ok (.aload_n 1, 1) := by decide +kernel
theorem dX10_copyRowsOf_1 : decode cX10_copyRowsOf 1 = .ok (.getfield 23, 3) := by decide +kernel
theorem dX10_copyRowsOf_4 : decode cX10_copyRowsOf 4 = .ok (.iconst 0, 1) := by decide +kernel
theorem dX10_copyRowsOf_5 : decode cX10_copyRowsOf 5 = .ok (.aload_n 0, 1) := by decide +kernel
theorem dX10_copyRowsOf_6 : decode cX10_copyRowsOf 6 = .ok (.getfield 23, 3) := by decide +kernel
theorem dX10_copyRowsOf_9 : decode cX10_copyRowsOf 9 = .ok (.iconst 0, 1) := by decide +kernel
theorem dX10_copyRowsOf_10 : decode cX10_copyRowsOf 10 = .ok (.iconst 5, 1) := by decide +kernel
theorem dX10_copyRowsOf_11 : decode cX10_copyRowsOf 11 = .ok (.invokestatic 52, 3) := by decide +kernel
theorem dX10_copyRowsOf_14 : decode cX10_copyRowsOf 14 = .ok (.aload_n 1, 1) := by decide +kernel
theorem dX10_copyRowsOf_15 : decode cX10_copyRowsOf 15 = .ok (.getfield 26, 3) := by decide +kernel
theorem dX10_copyRowsOf_18 : decode cX10_copyRowsOf 18 = .ok (.iconst 0, 1) := by decide +kernel
theorem dX10_copyRowsOf_19 : decode cX10_copyRowsOf 19 = .ok (.aload_n 0, 1) := by decide +kernel
theorem dX10_copyRowsOf_20 : decode cX10_copyRowsOf 20 = .ok (.getfield 26, 3) := by decide +kernel
theorem dX10_copyRowsOf_23 : decode cX10_copyRowsOf 23 = .ok (.iconst 0, 1) := by decide +kernel
theorem dX10_copyRowsOf_24 : decode cX10_copyRowsOf 24 = .ok (.iconst 5, 1) := by decide +kernel
theorem dX10_copyRowsOf_25 : decode cX10_copyRowsOf 25 = .ok (.invokestatic 52, 3) := by decide +kernel
theorem dX10_copyRowsOf_28 : decode cX10_copyRowsOf 28 = .ok (.aload_n 1, 1) := by decide +kernel
theorem dX10_copyRowsOf_29 : decode cX10_copyRowsOf 29 = .ok (.getfield 29, 3) := by decide +kernel
theorem dX10_copyRowsOf_32 : decode cX10_copyRowsOf 32 = .ok (.iconst 0, 1) := by decide +kernel
theorem dX10_copyRowsOf_33 : decode cX10_copyRowsOf 33 = .ok (.aload_n 0, 1) := by decide +kernel
theorem dX10_copyRowsOf_34 : decode cX10_copyRowsOf 34 = .ok (.getfield 29, 3) := by decide +kernel
theorem dX10_copyRowsOf_37 : decode cX10_copyRowsOf 37 = .ok (.iconst 0, 1) := by decide +kernel
theorem dX10_copyRowsOf_38 : decode cX10_copyRowsOf 38 = .ok (.iconst 5, 1) := by decide +kernel
theorem dX10_copyRowsOf_39 : decode cX10_copyRowsOf 39 = .ok (.invokestatic 52, 3) := by decide +kernel
theorem dX10_copyRowsOf_42 : decode cX10_copyRowsOf 42 = .ok (.aload_n 1, 1) := by decide +kernel
theorem dX10_copyRowsOf_43 : decode cX10_copyRowsOf 43 = .ok (.getfield 32, 3) := by decide +kernel
theorem dX10_copyRowsOf_46 : decode cX10_copyRowsOf 46 = .ok (.iconst 0, 1) := by decide +kernel
theorem dX10_copyRowsOf_47 : decode cX10_copyRowsOf 47 = .ok (.aload_n 0, 1) := by decide +kernel
theorem dX10_copyRowsOf_48 : decode cX10_copyRowsOf 48 = .ok (.getfield 32, 3) := by decide +kernel
theorem dX10_copyRowsOf_51 : decode cX10_copyRowsOf 51 = .ok (.iconst 0, 1) := by decide +kernel
theorem dX10_copyRowsOf_52 : decode cX10_copyRowsOf 52 = .ok (.bipush 10, 2) := by decide +kernel
theorem dX10_copyRowsOf_54 : decode cX10_copyRowsOf 54 = .ok (.invokestatic 52, 3) := by decide +kernel
theorem dX10_copyRowsOf_57 : decode cX10_copyRowsOf 57 = .ok (.aload_n 1, 1) := by decide +kernel
theorem dX10_copyRowsOf_58 : decode cX10_copyRowsOf 58 = .ok (.getfield 35, 3) := by decide +kernel
theorem dX10_copyRowsOf_61 : decode cX10_copyRowsOf 61 = .ok (.iconst 0, 1) := by decide +kernel
theorem dX10_copyRowsOf_62 : decode cX10_copyRowsOf 62 = .ok (.aload_n 0, 1) := by decide +kernel
theorem dX10_copyRowsOf_63 : decode cX10_copyRowsOf 63 = .ok (.getfield 35, 3) := by decide +kernel
theorem dX10_copyRowsOf_66 : decode cX10_copyRowsOf 66 = .ok (.iconst 0, 1) := by decide +kernel
theorem dX10_copyRowsOf_67 : decode cX10_copyRowsOf 67 = .ok (.bipush 10, 2) := by decide +kernel
theorem dX10_copyRowsOf_69 : decode cX10_copyRowsOf 69 = .ok (.invokestatic 52, 3) := by decide +kernel
theorem dX10_copyRowsOf_72 : decode cX10_copyRowsOf 72 = .ok (.aload_n 1, 1) := by decide +kernel
theorem dX10_copyRowsOf_73 : decode cX10_copyRowsOf 73 = .ok (.getfield 38, 3) := by decide +kernel
theorem dX10_copyRowsOf_76 : decode cX10_copyRowsOf 76 = .ok (.iconst 0, 1) := by decide +kernel
theorem dX10_copyRowsOf_77 : decode cX10_copyRowsOf 77 = .ok (.aload_n 0, 1) := by decide +kernel
theorem dX10_copyRowsOf_78 : decode cX10_copyRowsOf 78 = .ok (.getfield 38, 3) := by decide +kernel
theorem dX10_copyRowsOf_81 : decode cX10_copyRowsOf 81 = .ok (.iconst 0, 1) := by decide +kernel
theorem dX10_copyRowsOf_82 : decode cX10_copyRowsOf 82 = .ok (.bipush 8, 2) := by decide +kernel
theorem dX10_copyRowsOf_84 : decode cX10_copyRowsOf 84 = .ok (.invokestatic 52, 3) := by decide +kernel
theorem dX10_copyRowsOf_87 : decode cX10_copyRowsOf 87 = .ok (.aload_n 1, 1) := by decide +kernel
theorem dX10_copyRowsOf_88 : decode cX10_copyRowsOf 88 = .ok (.getfield 41, 3) := by decide +kernel
theorem dX10_copyRowsOf_91 : decode cX10_copyRowsOf 91 = .ok (.iconst 0, 1) := by decide +kernel
theorem dX10_copyRowsOf_92 : decode cX10_copyRowsOf 92 = .ok (.aload_n 0, 1) := by decide +kernel
theorem dX10_copyRowsOf_93 : decode cX10_copyRowsOf 93 = .ok (.getfield 41, 3) := by decide +kernel
theorem dX10_copyRowsOf_96 : decode cX10_copyRowsOf 96 = .ok (.iconst 0, 1) := by decide +kernel
theorem dX10_copyRowsOf_97 : decode cX10_copyRowsOf 97 = .ok (.bipush 8, 2) := by decide +kernel
theorem dX10_copyRowsOf_99 : decode cX10_copyRowsOf 99 = .ok (.invokestatic 52, 3) := by decide +kernel
theorem dX10_copyRowsOf_102 : decode cX10_copyRowsOf 102 = .ok (.aload_n 0, 1) := by decide +kernel
theorem dX10_copyRowsOf_103 : decode cX10_copyRowsOf 103 = .ok (.aload_n 1, 1) := by decide +kernel
theorem dX10_copyRowsOf_104 : decode cX10_copyRowsOf 104 = .ok (.getfield 65, 3) := by decide +kernel
theorem dX10_copyRowsOf_107 : decode cX10_copyRowsOf 107 = .ok (.putfield 65, 3) := by decide +kernel
theorem dX10_copyRowsOf_110 : decode cX10_copyRowsOf 110 = .ok (.aload_n 0, 1) := by decide +kernel
theorem dX10_copyRowsOf_111 : decode cX10_copyRowsOf 111 = .ok (.aload_n 1, 1) := by decide +kernel
theorem dX10_copyRowsOf_112 : decode cX10_copyRowsOf 112 = .ok (.getfield 68, 3) := by decide +kernel
theorem dX10_copyRowsOf_115 : decode cX10_copyRowsOf 115 = .ok (.putfield 68, 3) := by decide +kernel
theorem dX10_copyRowsOf_118 : decode cX10_copyRowsOf 118 = .ok (.aload_n 0, 1) := by decide +kernel
theorem dX10_copyRowsOf_119 : decode cX10_copyRowsOf 119 = .ok (.aload_n 1, 1) := by decide +kernel
theorem dX10_copyRowsOf_120 : decode cX10_copyRowsOf 120 = .ok (.getfield 71, 3) := by decide +kernel
theorem dX10_copyRowsOf_123 : decode cX10_copyRowsOf 123 = .ok (.putfield 71, 3) := by decide +kernel
theorem dX10_copyRowsOf_126 : decode cX10_copyRowsOf 126 = .ok (.return_, 1) := by decide +kernel
theorem dX10_addRocket_0 : decode cX10_addRocket 0 = .ok (.aload_n 0, 1) := by decide +kernel
theorem dX10_addRocket_1 : decode cX10_addRocket 1 = .ok (.getfield 11, 3) := by decide +kernel
theorem dX10_addRocket_4 : decode cX10_addRocket 4 = .ok (.aload_n 0, 1) := by decide +kernel
theorem dX10_addRocket_5 : decode cX10_addRocket 5 = .ok (.getfield 48, 3) := by decide +kernel
theorem dX10_addRocket_8 : decode cX10_addRocket 8 = .ok (.aaload, 1) := by decide +kernel
theorem dX10_addRocket_9 : decode cX10_addRocket 9 = .ok (.astore 5, 2) := by decide +kernel
theorem dX10_addRocket_11 : decode cX10_addRocket 11 = .ok (.aload 5, 2) := by decide +kernel
theorem dX10_addRocket_13 : decode cX10_addRocket 13 = .ok (.iconst 0, 1) := by decide +kernel
theorem dX10_addRocket_14 : decode cX10_addRocket 14 = .ok (.invokestatic 74, 3) := by decide +kernel
theorem dX10_addRocket_17 : decode cX10_addRocket 17 = .ok (.aload 5, 2) := by decide +kernel
theorem dX10_addRocket_19 : decode cX10_addRocket 19 = .ok (.iconst 0, 1) := by decide +kernel
theorem dX10_addRocket_20 : decode cX10_addRocket 20 = .ok (.iload_n 1, 1) := by decide +kernel
theorem dX10_addRocket_21 : decode cX10_addRocket 21 = .ok (.iastore, 1) := by decide +kernel
theorem dX10_addRocket_22 : decode cX10_addRocket 22 = .ok (.aload 5, 2) := by decide +kernel
theorem dX10_addRocket_24 : decode cX10_addRocket 24 = .ok (.iconst 1, 1) := by decide +kernel
theorem dX10_addRocket_25 : decode cX10_addRocket 25 = .ok (.iload_n 2, 1) := by decide +kernel
theorem dX10_addRocket_26 : decode cX10_addRocket 26 = .ok (.iastore, 1) := by decide +kernel
theorem dX10_addRocket_27 : decode cX10_addRocket 27 = .ok (.aload 5, 2) := by decide +kernel
theorem dX10_addRocket_29 : decode cX10_addRocket 29 = .ok (.iconst 2, 1) := by decide +kernel
theorem dX10_addRocket_30 : decode cX10_addRocket 30 = .ok (.iload_n 3, 1) := by decide +kernel
theorem dX10_addRocket_31 : decode cX10_addRocket 31 = .ok (.iastore, 1) := by decide +kernel
theorem dX10_addRocket_32 : decode cX10_addRocket 32 = .ok (.aload 5, 2) := by decide +kernel
theorem dX10_addRocket_34 : decode cX10_addRocket 34 = .ok (.iconst 3, 1) := by decide +kernel
theorem dX10_addRocket_35 : decode cX10_addRocket 35 = .ok (.iload 4, 2) := by decide +kernel
theorem dX10_addRocket_37 : decode cX10_addRocket 37 = .ok (.iastore, 1) := by decide +kernel
theorem dX10_addRocket_38 : decode cX10_addRocket 38 = .ok (.aload_n 0, 1) := by decide +kernel
theorem dX10_addRocket_39 : decode cX10_addRocket 39 = .ok (.dup, 1) := by decide +kernel
theorem dX10_addRocket_40 : decode cX10_addRocket 40 = .ok (.getfield 48, 3) := by decide +kernel
theorem dX10_addRocket_43 : decode cX10_addRocket 43 = .ok (.iconst 1, 1) := by decide +kernel
theorem dX10_addRocket_44 : decode cX10_addRocket 44 = .ok (.iadd, 1) := by decide +kernel
theorem dX10_addRocket_45 : decode cX10_addRocket 45 = .ok (.putfield 48, 3) := by decide +kernel
theorem dX10_addRocket_48 : decode cX10_addRocket 48 = .ok (.aload_n 0, 1) := by decide +kernel
theorem dX10_addRocket_49 : decode cX10_addRocket 49 = .ok (.getfield 48, 3) := by decide +kernel
theorem dX10_addRocket_52 : decode cX10_addRocket 52 = .ok (.iconst 1, 1) := by decide +kernel
theorem dX10_addRocket_53 : decode cX10_addRocket 53 = .ok (.isub, 1) := by decide +kernel
theorem dX10_addRocket_54 : decode cX10_addRocket 54 = .ok (.ireturn, 1) := by decide +kernel
theorem dX10_has_0 : decode cX10_has 0 = .ok (.iload_n 1, 1) := by decide +kernel
theorem dX10_has_1 : decode cX10_has 1 = .ok (.aload_n 0, 1) := by decide +kernel
theorem dX10_has_2 : decode cX10_has 2 = .ok (.getfield 48, 3) := by decide +kernel
theorem dX10_has_5 : decode cX10_has 5 = .ok (.iconst 1, 1) := by decide +kernel
theorem dX10_has_6 : decode cX10_has 6 = .ok (.isub, 1) := by decide +kernel
theorem dX10_has_7 : decode cX10_has 7 = .ok (.invokestatic 80, 3) := by decide +kernel
theorem dX10_has_10 : decode cX10_has 10 = .ok (.ireturn, 1) := by decide +kernel
theorem dX10_isUnlit_0 : decode cX10_isUnlit 0 = .ok (.aload_n 0, 1) := by decide +kernel
theorem dX10_isUnlit_1 : decode cX10_isUnlit 1 = .ok (.getfield 11, 3) := by decide +kernel
theorem dX10_isUnlit_4 : decode cX10_isUnlit 4 = .ok (.iload_n 1, 1) := by decide +kernel
theorem dX10_isUnlit_5 : decode cX10_isUnlit 5 = .ok (.aaload, 1) := by decide +kernel
theorem dX10_isUnlit_6 : decode cX10_isUnlit 6 = .ok (.iconst 5, 1) := by decide +kernel
theorem dX10_isUnlit_7 : decode cX10_isUnlit 7 = .ok (.iaload, 1) := by decide +kernel
theorem dX10_isUnlit_8 : decode cX10_isUnlit 8 = .ok (.ifCond .ne 7, 3) := by decide +kernel
theorem dX10_isUnlit_11 : decode cX10_isUnlit 11 = .ok (.iconst 1, 1) := by decide +kernel
theorem dX10_isUnlit_12 : decode cX10_isUnlit 12 = .ok (.goto 4, 3) := by decide +kernel
theorem dX10_isUnlit_15 : decode cX10_isUnlit 15 = .ok (.iconst 0, 1) := by decide +kernel
theorem dX10_isUnlit_16 : decode cX10_isUnlit 16 = .ok (.ireturn, 1) := by decide +kernel
theorem dX10_rainNow_0 : decode cX10_rainNow 0 = .ok (.aload_n 0, 1) := by decide +kernel
theorem dX10_rainNow_1 : decode cX10_rainNow 1 = .ok (.getfield 20, 3) := by decide +kernel
theorem dX10_rainNow_4 : decode cX10_rainNow 4 = .ok (.aload_n 0, 1) := by decide +kernel
theorem dX10_rainNow_5 : decode cX10_rainNow 5 = .ok (.getfield 58, 3) := by decide +kernel
theorem dX10_rainNow_8 : decode cX10_rainNow 8 = .ok (.iconst 4, 1) := by decide +kernel
theorem dX10_rainNow_9 : decode cX10_rainNow 9 = .ok (.irem, 1) := by decide +kernel
theorem dX10_rainNow_10 : decode cX10_rainNow 10 = .ok (.iaload, 1) := by decide +kernel
theorem dX10_rainNow_11 : decode cX10_rainNow 11 = .ok (.ireturn, 1) := by decide +kernel
theorem dX10_dryness_0 : decode cX10_dryness 0 = .ok (.aload_n 0, 1) := by decide +kernel
theorem dX10_dryness_1 : decode cX10_dryness 1 = .ok (.getfield 61, 3) := by decide +kernel
theorem dX10_dryness_4 : decode cX10_dryness 4 = .ok (.ifnonnull 7, 3) := by decide +kernel
theorem dX10_dryness_7 : decode cX10_dryness 7 = .ok (.iconst 2, 1) := by decide +kernel
theorem dX10_dryness_8 : decode cX10_dryness 8 = .ok (.goto 10, 3) := by decide +kernel
theorem dX10_dryness_11 : decode cX10_dryness 11 = .ok (.aload_n 0, 1) := by decide +kernel
theorem dX10_dryness_12 : decode cX10_dryness 12 = .ok (.getfield 61, 3) := by decide +kernel
theorem dX10_dryness_15 : decode cX10_dryness 15 = .ok (.getfield 84, 3) := by decide +kernel
theorem dX10_dryness_18 : decode cX10_dryness 18 = .ok (.ireturn, 1) := by decide +kernel
theorem dX10_brightness_0 : decode cX10_brightness 0 = .ok (.aload_n 0, 1) := by decide +kernel
theorem dX10_brightness_1 : decode cX10_brightness 1 = .ok (.getfield 11, 3) := by decide +kernel
theorem dX10_brightness_4 : decode cX10_brightness 4 = .ok (.iload_n 1, 1) := by decide +kernel
theorem dX10_brightness_5 : decode cX10_brightness 5 = .ok (.aaload, 1) := by decide +kernel
theorem dX10_brightness_6 : decode cX10_brightness 6 = .ok (.astore_n 2, 1) := by decide +kernel
theorem dX10_brightness_7 : decode cX10_brightness 7 = .ok (.iconst 2, 1) := by decide +kernel
theorem dX10_brightness_8 : decode cX10_brightness 8 = .ok (.aload_n 2, 1) := by decide +kernel
theorem dX10_brightness_9 : decode cX10_brightness 9 = .ok (.iconst 2, 1) := by decide +kernel
theorem dX10_brightness_10 : decode cX10_brightness 10 = .ok (.iaload, 1) := by decide +kernel
theorem dX10_brightness_11 : decode cX10_brightness 11 = .ok (.imul, 1) := by decide +kernel
theorem dX10_brightness_12 : decode cX10_brightness 12 = .ok (.aload_n 2, 1) := by decide +kernel
theorem dX10_brightness_13 : decode cX10_brightness 13 = .ok (.iconst 4, 1) := by decide +kernel
theorem dX10_brightness_14 : decode cX10_brightness 14 = .ok (.iaload, 1) := by decide +kernel
theorem dX10_brightness_15 : decode cX10_brightness 15 = .ok (.bipush 10, 2) := by decide +kernel
theorem dX10_brightness_17 : decode cX10_brightness 17 = .ok (.idiv, 1) := by decide +kernel
theorem dX10_brightness_18 : decode cX10_brightness 18 = .ok (.isub, 1) := by decide +kernel
theorem dX10_brightness_19 : decode cX10_brightness 19 = .ok (.istore_n 3, 1) := by decide +kernel
theorem dX10_brightness_20 : decode cX10_brightness 20 = .ok (.aload_n 0, 1) := by decide +kernel
theorem dX10_brightness_21 : decode cX10_brightness 21 = .ok (.getfield 61, 3) := by decide +kernel
theorem dX10_brightness_24 : decode cX10_brightness 24 = .ok (.ifnull 19, 3) := by decide +kernel
theorem dX10_brightness_27 : decode cX10_brightness 27 = .ok (.iload_n 3, 1) := by decide +kernel
theorem dX10_brightness_28 : decode cX10_brightness 28 = .ok (.aload_n 0, 1) := by decide +kernel
theorem dX10_brightness_29 : decode cX10_brightness 29 = .ok (.getfield 61, 3) := by decide +kernel
theorem dX10_brightness_32 : decode cX10_brightness 32 = .ok (.iload_n 1, 1) := by decide +kernel
theorem dX10_brightness_33 : decode cX10_brightness 33 = .ok (.aload_n 2, 1) := by decide +kernel
theorem dX10_brightness_34 : decode cX10_brightness 34 = .ok (.aload_n 0, 1) := by decide +kernel
theorem dX10_brightness_35 : decode cX10_brightness 35 = .ok (.getfield 58, 3) := by decide +kernel
theorem dX10_brightness_38 : decode cX10_brightness 38 = .ok (.invokevirtual 89, 3) := by decide +kernel
theorem dX10_brightness_41 : decode cX10_brightness 41 = .ok (.iadd, 1) := by decide +kernel
theorem dX10_brightness_42 : decode cX10_brightness 42 = .ok (.istore_n 3, 1) := by decide +kernel
theorem dX10_brightness_43 : decode cX10_brightness 43 = .ok (.aload_n 0, 1) := by decide +kernel
theorem dX10_brightness_44 : decode cX10_brightness 44 = .ok (.getfield 44, 3) := by decide +kernel
theorem dX10_brightness_47 : decode cX10_brightness 47 = .ok (.aload_n 2, 1) := by decide +kernel
theorem dX10_brightness_48 : decode cX10_brightness 48 = .ok (.iconst 0, 1) := by decide +kernel
theorem dX10_brightness_49 : decode cX10_brightness 49 = .ok (.iaload, 1) := by decide +kernel
theorem dX10_brightness_50 : decode cX10_brightness 50 = .ok (.aaload, 1) := by decide +kernel
theorem dX10_brightness_51 : decode cX10_brightness 51 = .ok (.aload_n 0, 1) := by decide +kernel
theorem dX10_brightness_52 : decode cX10_brightness 52 = .ok (.aload_n 2, 1) := by decide +kernel
theorem dX10_brightness_53 : decode cX10_brightness 53 = .ok (.iload_n 3, 1) := by decide +kernel
theorem dX10_brightness_54 : decode cX10_brightness 54 = .ok (.invokevirtual 93, 3) := by decide +kernel
theorem dX10_brightness_57 : decode cX10_brightness 57 = .ok (.ireturn, 1) := by decide +kernel
theorem dX10_ignite_0 : decode cX10_ignite 0 = .ok (.aload_n 0, 1) := by decide +kernel
theorem dX10_ignite_1 : decode cX10_ignite 1 = .ok (.getfield 11, 3) := by decide +kernel
theorem dX10_ignite_4 : decode cX10_ignite 4 = .ok (.iload_n 1, 1) := by decide +kernel
theorem dX10_ignite_5 : decode cX10_ignite 5 = .ok (.aaload, 1) := by decide +kernel
theorem dX10_ignite_6 : decode cX10_ignite 6 = .ok (.astore_n 2, 1) := by decide +kernel
theorem dX10_ignite_7 : decode cX10_ignite 7 = .ok (.aload_n 0, 1) := by decide +kernel
theorem dX10_ignite_8 : decode cX10_ignite 8 = .ok (.iload_n 1, 1) := by decide +kernel
theorem dX10_ignite_9 : decode cX10_ignite 9 = .ok (.invokevirtual 99, 3) := by decide +kernel
theorem dX10_ignite_12 : decode cX10_ignite 12 = .ok (.istore_n 3, 1) := by decide +kernel
theorem dX10_ignite_13 : decode cX10_ignite 13 = .ok (.iload_n 3, 1) := by decide +kernel
theorem dX10_ignite_14 : decode cX10_ignite 14 = .ok (.ifCond .le 28, 3) := by decide +kernel
theorem dX10_ignite_17 : decode cX10_ignite 17 = .ok (.aload_n 2, 1) := by decide +kernel
theorem dX10_ignite_18 : decode cX10_ignite 18 = .ok (.iconst 3, 1) := by decide +kernel
theorem dX10_ignite_19 : decode cX10_ignite 19 = .ok (.iaload, 1) := by decide +kernel
theorem dX10_ignite_20 : decode cX10_ignite 20 = .ok (.istore 4, 2) := by decide +kernel
theorem dX10_ignite_22 : decode cX10_ignite 22 = .ok (.aload_n 0, 1) := by decide +kernel
theorem dX10_ignite_23 : decode cX10_ignite 23 = .ok (.getfield 16, 3) := by decide +kernel
theorem dX10_ignite_26 : decode cX10_ignite 26 = .ok (.iload 4, 2) := by decide +kernel
theorem dX10_ignite_28 : decode cX10_ignite 28 = .ok (.iconst 0, 1) := by decide +kernel
theorem dX10_ignite_29 : decode cX10_ignite 29 = .ok (.aload_n 0, 1) := by decide +kernel
theorem dX10_ignite_30 : decode cX10_ignite 30 = .ok (.getfield 16, 3) := by decide +kernel
theorem dX10_ignite_33 : decode cX10_ignite 33 = .ok (.iload 4, 2) := by decide +kernel
theorem dX10_ignite_35 : decode cX10_ignite 35 = .ok (.iaload, 1) := by decide +kernel
theorem dX10_ignite_36 : decode cX10_ignite 36 = .ok (.iload_n 3, 1) := by decide +kernel
theorem dX10_ignite_37 : decode cX10_ignite 37 = .ok (.isub, 1) := by decide +kernel
theorem dX10_ignite_38 : decode cX10_ignite 38 = .ok (.invokestatic 102, 3) := by decide +kernel
theorem dX10_ignite_41 : decode cX10_ignite 41 = .ok (.iastore, 1) := by decide +kernel
theorem dX10_ignite_42 : decode cX10_ignite 42 = .ok (.aload_n 2, 1) := by decide +kernel
theorem dX10_ignite_43 : decode cX10_ignite 43 = .ok (.iconst 5, 1) := by decide +kernel
theorem dX10_ignite_44 : decode cX10_ignite 44 = .ok (.iload_n 3, 1) := by decide +kernel
theorem dX10_ignite_45 : decode cX10_ignite 45 = .ok (.ifCond .le 7, 3) := by decide +kernel
theorem dX10_ignite_48 : decode cX10_ignite 48 = .ok (.iconst 2, 1) := by decide +kernel
theorem dX10_ignite_49 : decode cX10_ignite 49 = .ok (.goto 4, 3) := by decide +kernel
theorem dX10_ignite_52 : decode cX10_ignite 52 = .ok (.iconst 1, 1) := by decide +kernel
theorem dX10_ignite_53 : decode cX10_ignite 53 = .ok (.iastore, 1) := by decide +kernel
theorem dX10_ignite_54 : decode cX10_ignite 54 = .ok (.aload_n 2, 1) := by decide +kernel
theorem dX10_ignite_55 : decode cX10_ignite 55 = .ok (.iconst 5, 1) := by decide +kernel
theorem dX10_ignite_56 : decode cX10_ignite 56 = .ok (.iaload, 1) := by decide +kernel
theorem dX10_ignite_57 : decode cX10_ignite 57 = .ok (.ireturn, 1) := by decide +kernel
theorem dX10_igniteAll_0 : decode cX10_igniteAll 0 = .ok (.iconst 0, 1) := by decide +kernel
theorem dX10_igniteAll_1 : decode cX10_igniteAll 1 = .ok (.istore_n 2, 1) := by decide +kernel
theorem dX10_igniteAll_2 : decode cX10_igniteAll 2 = .ok (.iload_n 2, 1) := by decide +kernel
theorem dX10_igniteAll_3 : decode cX10_igniteAll 3 = .ok (.aload_n 0, 1) := by decide +kernel
theorem dX10_igniteAll_4 : decode cX10_igniteAll 4 = .ok (.getfield 48, 3) := by decide +kernel
theorem dX10_igniteAll_7 : decode cX10_igniteAll 7 = .ok (.if_icmp .ge 23, 3) := by decide +kernel
theorem dX10_igniteAll_10 : decode cX10_igniteAll 10 = .ok (.iload_n 1, 1) := by decide +kernel
theorem dX10_igniteAll_11 : decode cX10_igniteAll 11 = .ok (.iload_n 2, 1) := by decide +kernel
theorem dX10_igniteAll_12 : decode cX10_igniteAll 12 = .ok (.ishr, 1) := by decide +kernel
theorem dX10_igniteAll_13 : decode cX10_igniteAll 13 = .ok (.iconst 1, 1) := by decide +kernel
theorem dX10_igniteAll_14 : decode cX10_igniteAll 14 = .ok (.iand, 1) := by decide +kernel
theorem dX10_igniteAll_15 : decode cX10_igniteAll 15 = .ok (.ifCond .eq 9, 3) := by decide +kernel
theorem dX10_igniteAll_18 : decode cX10_igniteAll 18 = .ok (.aload_n 0, 1) := by decide +kernel
theorem dX10_igniteAll_19 : decode cX10_igniteAll 19 = .ok (.iload_n 2, 1) := by decide +kernel
theorem dX10_igniteAll_20 : decode cX10_igniteAll 20 = .ok (.invokevirtual 108, 3) := by decide +kernel
theorem dX10_igniteAll_23 : decode cX10_igniteAll 23 = .ok (.pop, 1) := by decide +kernel
theorem dX10_igniteAll_24 : decode cX10_igniteAll 24 = .ok (.iinc 2 1, 3) := by decide +kernel
theorem dX10_igniteAll_27 : decode cX10_igniteAll 27 = .ok (.goto (-25), 3) := by decide +kernel
theorem dX10_igniteAll_30 : decode cX10_igniteAll 30 = .ok (.return_, 1) := by decide +kernel
theorem dX10_minutesGo_0 : decode cX10_minutesGo 0 = .ok (.iconst 0, 1) := by decide +kernel
theorem dX10_minutesGo_1 : decode cX10_minutesGo 1 = .ok (.istore_n 2, 1) := by decide +kernel
theorem dX10_minutesGo_2 : decode cX10_minutesGo 2 = .ok (.iload_n 2, 1) := by decide +kernel
theorem dX10_minutesGo_3 : decode cX10_minutesGo 3 = .ok (.iload_n 1, 1) := by decide +kernel
theorem dX10_minutesGo_4 : decode cX10_minutesGo 4 = .ok (.if_icmp .ge 91, 3) := by decide +kernel
theorem dX10_minutesGo_7 : decode cX10_minutesGo 7 = .ok (.iconst 3, 1) := by decide +kernel
theorem dX10_minutesGo_8 : decode cX10_minutesGo 8 = .ok (.aload_n 0, 1) := by decide +kernel
theorem dX10_minutesGo_9 : decode cX10_minutesGo 9 = .ok (.invokevirtual 111, 3) := by decide +kernel
theorem dX10_minutesGo_12 : decode cX10_minutesGo 12 = .ok (.imul, 1) := by decide +kernel
theorem dX10_minutesGo_13 : decode cX10_minutesGo 13 = .ok (.aload_n 0, 1) := by decide +kernel
theorem dX10_minutesGo_14 : decode cX10_minutesGo 14 = .ok (.invokevirtual 115, 3) := by decide +kernel
theorem dX10_minutesGo_17 : decode cX10_minutesGo 17 = .ok (.isub, 1) := by decide +kernel
theorem dX10_minutesGo_18 : decode cX10_minutesGo 18 = .ok (.istore_n 3, 1) := by decide +kernel
theorem dX10_minutesGo_19 : decode cX10_minutesGo 19 = .ok (.iconst 0, 1) := by decide +kernel
theorem dX10_minutesGo_20 : decode cX10_minutesGo 20 = .ok (.istore 4, 2) := by decide +kernel
theorem dX10_minutesGo_22 : decode cX10_minutesGo 22 = .ok (.iload 4, 2) := by decide +kernel
theorem dX10_minutesGo_24 : decode cX10_minutesGo 24 = .ok (.aload_n 0, 1) := by decide +kernel
theorem dX10_minutesGo_25 : decode cX10_minutesGo 25 = .ok (.getfield 48, 3) := by decide +kernel
theorem dX10_minutesGo_28 : decode cX10_minutesGo 28 = .ok (.if_icmp .ge 51, 3) := by decide +kernel
theorem dX10_minutesGo_31 : decode cX10_minutesGo 31 = .ok (.aload_n 0, 1) := by decide +kernel
theorem dX10_minutesGo_32 : decode cX10_minutesGo 32 = .ok (.iload 4, 2) := by decide +kernel
theorem dX10_minutesGo_34 : decode cX10_minutesGo 34 = .ok (.invokevirtual 118, 3) := by decide +kernel
theorem dX10_minutesGo_37 : decode cX10_minutesGo 37 = .ok (.ifCond .eq 36, 3) := by decide +kernel
theorem dX10_minutesGo_40 : decode cX10_minutesGo 40 = .ok (.aload_n 0, 1) := by decide +kernel
theorem dX10_minutesGo_41 : decode cX10_minutesGo 41 = .ok (.getfield 11, 3) := by decide +kernel
theorem dX10_minutesGo_44 : decode cX10_minutesGo 44 = .ok (.iload 4, 2) := by decide +kernel
theorem dX10_minutesGo_46 : decode cX10_minutesGo 46 = .ok (.aaload, 1) := by decide +kernel
theorem dX10_minutesGo_47 : decode cX10_minutesGo 47 = .ok (.iconst 4, 1) := by decide +kernel
theorem dX10_minutesGo_48 : decode cX10_minutesGo 48 = .ok (.iaload, 1) := by decide +kernel
theorem dX10_minutesGo_49 : decode cX10_minutesGo 49 = .ok (.iload_n 3, 1) := by decide +kernel
theorem dX10_minutesGo_50 : decode cX10_minutesGo 50 = .ok (.iadd, 1) := by decide +kernel
theorem dX10_minutesGo_51 : decode cX10_minutesGo 51 = .ok (.istore 5, 2) := by decide +kernel
theorem dX10_minutesGo_53 : decode cX10_minutesGo 53 = .ok (.aload_n 0, 1) := by decide +kernel
theorem dX10_minutesGo_54 : decode cX10_minutesGo 54 = .ok (.getfield 11, 3) := by decide +kernel
theorem dX10_minutesGo_57 : decode cX10_minutesGo 57 = .ok (.iload 4, 2) := by decide +kernel
theorem dX10_minutesGo_59 : decode cX10_minutesGo 59 = .ok (.aaload, 1) := by decide +kernel
theorem dX10_minutesGo_60 : decode cX10_minutesGo 60 = .ok (.iconst 4, 1) := by decide +kernel
theorem dX10_minutesGo_61 : decode cX10_minutesGo 61 = .ok (.iconst 0, 1) := by decide +kernel
theorem dX10_minutesGo_62 : decode cX10_minutesGo 62 = .ok (.bipush 99, 2) := by decide +kernel
theorem dX10_minutesGo_64 : decode cX10_minutesGo 64 = .ok (.iload 5, 2) := by decide +kernel
theorem dX10_minutesGo_66 : decode cX10_minutesGo 66 = .ok (.invokestatic 122, 3) := by decide +kernel
theorem dX10_minutesGo_69 : decode cX10_minutesGo 69 = .ok (.invokestatic 102, 3) := by decide +kernel
theorem dX10_minutesGo_72 : decode cX10_minutesGo 72 = .ok (.iastore, 1) := by decide +kernel
theorem dX10_minutesGo_73 : decode cX10_minutesGo 73 = .ok (.iinc 4 1, 3) := by decide +kernel
theorem dX10_minutesGo_76 : decode cX10_minutesGo 76 = .ok (.goto (-54), 3) := by decide +kernel
theorem dX10_minutesGo_79 : decode cX10_minutesGo 79 = .ok (.aload_n 0, 1) := by decide +kernel
theorem dX10_minutesGo_80 : decode cX10_minutesGo 80 = .ok (.dup, 1) := by decide +kernel
theorem dX10_minutesGo_81 : decode cX10_minutesGo 81 = .ok (.getfield 58, 3) := by decide +kernel
theorem dX10_minutesGo_84 : decode cX10_minutesGo 84 = .ok (.iconst 1, 1) := by decide +kernel
theorem dX10_minutesGo_85 : decode cX10_minutesGo 85 = .ok (.iadd, 1) := by decide +kernel
theorem dX10_minutesGo_86 : decode cX10_minutesGo 86 = .ok (.putfield 58, 3) := by decide +kernel
theorem dX10_minutesGo_89 : decode cX10_minutesGo 89 = .ok (.iinc 2 1, 3) := by decide +kernel
theorem dX10_minutesGo_92 : decode cX10_minutesGo 92 = .ok (.goto (-90), 3) := by decide +kernel
theorem dX10_minutesGo_95 : decode cX10_minutesGo 95 = .ok (.return_, 1) := by decide +kernel
theorem dX10_rocketsIn_0 : decode cX10_rocketsIn 0 = .ok (.iconst 0, 1) := by decide +kernel
theorem dX10_rocketsIn_1 : decode cX10_rocketsIn 1 = .ok (.istore_n 2, 1) := by decide +kernel
theorem dX10_rocketsIn_2 : decode cX10_rocketsIn 2 = .ok (.iconst 0, 1) := by decide +kernel
theorem dX10_rocketsIn_3 : decode cX10_rocketsIn 3 = .ok (.istore_n 3, 1) := by decide +kernel
theorem dX10_rocketsIn_4 : decode cX10_rocketsIn 4 = .ok (.iload_n 3, 1) := by decide +kernel
theorem dX10_rocketsIn_5 : decode cX10_rocketsIn 5 = .ok (.aload_n 0, 1) := by decide +kernel
theorem dX10_rocketsIn_6 : decode cX10_rocketsIn 6 = .ok (.getfield 48, 3) := by decide +kernel
theorem dX10_rocketsIn_9 : decode cX10_rocketsIn 9 = .ok (.if_icmp .ge 27, 3) := by decide +kernel
theorem dX10_rocketsIn_12 : decode cX10_rocketsIn 12 = .ok (.aload_n 0, 1) := by decide +kernel
theorem dX10_rocketsIn_13 : decode cX10_rocketsIn 13 = .ok (.getfield 11, 3) := by decide +kernel
theorem dX10_rocketsIn_16 : decode cX10_rocketsIn 16 = .ok (.iload_n 3, 1) := by decide +kernel
theorem dX10_rocketsIn_17 : decode cX10_rocketsIn 17 = .ok (.aaload, 1) := by decide +kernel
theorem dX10_rocketsIn_18 : decode cX10_rocketsIn 18 = .ok (.iconst 5, 1) := by decide +kernel
theorem dX10_rocketsIn_19 : decode cX10_rocketsIn 19 = .ok (.iaload, 1) := by decide +kernel
theorem dX10_rocketsIn_20 : decode cX10_rocketsIn 20 = .ok (.iload_n 1, 1) := by decide +kernel
theorem dX10_rocketsIn_21 : decode cX10_rocketsIn 21 = .ok (.if_icmp .ne 9, 3) := by decide +kernel
theorem dX10_rocketsIn_24 : decode cX10_rocketsIn 24 = .ok (.iload_n 2, 1) := by decide +kernel
theorem dX10_rocketsIn_25 : decode cX10_rocketsIn 25 = .ok (.iconst 1, 1) := by decide +kernel
theorem dX10_rocketsIn_26 : decode cX10_rocketsIn 26 = .ok (.iload_n 3, 1) := by decide +kernel
theorem dX10_rocketsIn_27 : decode cX10_rocketsIn 27 = .ok (.ishl, 1) := by decide +kernel
theorem dX10_rocketsIn_28 : decode cX10_rocketsIn 28 = .ok (.ior, 1) := by decide +kernel
theorem dX10_rocketsIn_29 : decode cX10_rocketsIn 29 = .ok (.istore_n 2, 1) := by decide +kernel
theorem dX10_rocketsIn_30 : decode cX10_rocketsIn 30 = .ok (.iinc 3 1, 3) := by decide +kernel
theorem dX10_rocketsIn_33 : decode cX10_rocketsIn 33 = .ok (.goto (-29), 3) := by decide +kernel
theorem dX10_rocketsIn_36 : decode cX10_rocketsIn 36 = .ok (.iload_n 2, 1) := by decide +kernel
theorem dX10_rocketsIn_37 : decode cX10_rocketsIn 37 = .ok (.ireturn, 1) := by decide +kernel
theorem dX10_evenPeople_0 : decode cX10_evenPeople 0 = .ok (.iconst 0, 1) := by decide +kernel
theorem dX10_evenPeople_1 : decode cX10_evenPeople 1 = .ok (.istore_n 1, 1) := by decide +kernel
theorem dX10_evenPeople_2 : decode cX10_evenPeople 2 = .ok (.iconst 0, 1) := by decide +kernel
theorem dX10_evenPeople_3 : decode cX10_evenPeople 3 = .ok (.istore_n 2, 1) := by decide +kernel
theorem dX10_evenPeople_4 : decode cX10_evenPeople 4 = .ok (.iload_n 2, 1) := by decide +kernel
theorem dX10_evenPeople_5 : decode cX10_evenPeople 5 = .ok (.iconst 4, 1) := by decide +kernel
theorem dX10_evenPeople_6 : decode cX10_evenPeople 6 = .ok (.if_icmp .ge 24, 3) := by decide +kernel
theorem dX10_evenPeople_9 : decode cX10_evenPeople 9 = .ok (.aload_n 0, 1) := by decide +kernel
theorem dX10_evenPeople_10 : decode cX10_evenPeople 10 = .ok (.getfield 16, 3) := by decide +kernel
theorem dX10_evenPeople_13 : decode cX10_evenPeople 13 = .ok (.iload_n 2, 1) := by decide +kernel
theorem dX10_evenPeople_14 : decode cX10_evenPeople 14 = .ok (.iaload, 1) := by decide +kernel
theorem dX10_evenPeople_15 : decode cX10_evenPeople 15 = .ok (.ifCond .ne 9, 3) := by decide +kernel
theorem dX10_evenPeople_18 : decode cX10_evenPeople 18 = .ok (.iload_n 1, 1) := by decide +kernel
theorem dX10_evenPeople_19 : decode cX10_evenPeople 19 = .ok (.iconst 1, 1) := by decide +kernel
theorem dX10_evenPeople_20 : decode cX10_evenPeople 20 = .ok (.iload_n 2, 1) := by decide +kernel
theorem dX10_evenPeople_21 : decode cX10_evenPeople 21 = .ok (.ishl, 1) := by decide +kernel
theorem dX10_evenPeople_22 : decode cX10_evenPeople 22 = .ok (.ior, 1) := by decide +kernel
theorem dX10_evenPeople_23 : decode cX10_evenPeople 23 = .ok (.istore_n 1, 1) := by decide +kernel
theorem dX10_evenPeople_24 : decode cX10_evenPeople 24 = .ok (.iinc 2 1, 3) := by decide +kernel
theorem dX10_evenPeople_27 : decode cX10_evenPeople 27 = .ok (.goto (-23), 3) := by decide +kernel
theorem dX10_evenPeople_30 : decode cX10_evenPeople 30 = .ok (.iload_n 1, 1) := by decide +kernel
theorem dX10_evenPeople_31 : decode cX10_evenPeople 31 = .ok (.ireturn, 1) := by decide +kernel
theorem dX10_griefOfAll_0 : decode cX10_griefOfAll 0 = .ok (.iconst 0, 1) := by decide +kernel
theorem dX10_griefOfAll_1 : decode cX10_griefOfAll 1 = .ok (.istore_n 1, 1) := by decide +kernel
theorem dX10_griefOfAll_2 : decode cX10_griefOfAll 2 = .ok (.aload_n 0, 1) := by decide +kernel
theorem dX10_griefOfAll_3 : decode cX10_griefOfAll 3 = .ok (.getfield 16, 3) := by decide +kernel
theorem dX10_griefOfAll_6 : decode cX10_griefOfAll 6 = .ok (.astore_n 2, 1) := by decide +kernel
theorem dX10_griefOfAll_7 : decode cX10_griefOfAll 7 = .ok (.aload_n 2, 1) := by decide +kernel
theorem dX10_griefOfAll_8 : decode cX10_griefOfAll 8 = .ok (.arraylength, 1) := by decide +kernel
theorem dX10_griefOfAll_9 : decode cX10_griefOfAll 9 = .ok (.istore_n 3, 1) := by decide +kernel
theorem dX10_griefOfAll_10 : decode cX10_griefOfAll 10 = .ok (.iconst 0, 1) := by decide +kernel
theorem dX10_griefOfAll_11 : decode cX10_griefOfAll 11 = .ok (.istore 4, 2) := by decide +kernel
theorem dX10_griefOfAll_13 : decode cX10_griefOfAll 13 = .ok (.iload 4, 2) := by decide +kernel
theorem dX10_griefOfAll_15 : decode cX10_griefOfAll 15 = .ok (.iload_n 3, 1) := by decide +kernel
theorem dX10_griefOfAll_16 : decode cX10_griefOfAll 16 = .ok (.if_icmp .ge 20, 3) := by decide +kernel
theorem dX10_griefOfAll_19 : decode cX10_griefOfAll 19 = .ok (.aload_n 2, 1) := by decide +kernel
theorem dX10_griefOfAll_20 : decode cX10_griefOfAll 20 = .ok (.iload 4, 2) := by decide +kernel
theorem dX10_griefOfAll_22 : decode cX10_griefOfAll 22 = .ok (.iaload, 1) := by decide +kernel
theorem dX10_griefOfAll_23 : decode cX10_griefOfAll 23 = .ok (.istore 5, 2) := by decide +kernel
theorem dX10_griefOfAll_25 : decode cX10_griefOfAll 25 = .ok (.iload_n 1, 1) := by decide +kernel
theorem dX10_griefOfAll_26 : decode cX10_griefOfAll 26 = .ok (.iload 5, 2) := by decide +kernel
theorem dX10_griefOfAll_28 : decode cX10_griefOfAll 28 = .ok (.iadd, 1) := by decide +kernel
theorem dX10_griefOfAll_29 : decode cX10_griefOfAll 29 = .ok (.istore_n 1, 1) := by decide +kernel
theorem dX10_griefOfAll_30 : decode cX10_griefOfAll 30 = .ok (.iinc 4 1, 3) := by decide +kernel
theorem dX10_griefOfAll_33 : decode cX10_griefOfAll 33 = .ok (.goto (-20), 3) := by decide +kernel
theorem dX10_griefOfAll_36 : decode cX10_griefOfAll 36 = .ok (.iload_n 1, 1) := by decide +kernel
theorem dX10_griefOfAll_37 : decode cX10_griefOfAll 37 = .ok (.ireturn, 1) := by decide +kernel
theorem dX10_score_0 : decode cX10_score 0 = .ok (.sipush 10000, 3) := by decide +kernel
theorem dX10_score_3 : decode cX10_score 3 = .ok (.aload_n 0, 1) := by decide +kernel
theorem dX10_score_4 : decode cX10_score 4 = .ok (.invokevirtual 125, 3) := by decide +kernel
theorem dX10_score_7 : decode cX10_score 7 = .ok (.invokestatic 128, 3) := by decide +kernel
theorem dX10_score_10 : decode cX10_score 10 = .ok (.imul, 1) := by decide +kernel
theorem dX10_score_11 : decode cX10_score 11 = .ok (.aload_n 0, 1) := by decide +kernel
theorem dX10_score_12 : decode cX10_score 12 = .ok (.invokevirtual 133, 3) := by decide +kernel
theorem dX10_score_15 : decode cX10_score 15 = .ok (.isub, 1) := by decide +kernel
theorem dX10_score_16 : decode cX10_score 16 = .ok (.ireturn, 1) := by decide +kernel
theorem dJ11_isValidCodePoint_9a6ad_0 : decode cJ11_isValidCodePoint_9a6ad 0 = .ok (.iload_n 0, 1) := by decide +kernel
theorem dJ11_isValidCodePoint_9a6ad_1 : decode cJ11_isValidCodePoint_9a6ad 1 = .ok (.bipush 16, 2) := by decide +kernel
theorem dJ11_isValidCodePoint_9a6ad_3 : decode cJ11_isValidCodePoint_9a6ad 3 = .ok (.iushr, 1) := by decide +kernel
theorem dJ11_isValidCodePoint_9a6ad_4 : decode cJ11_isValidCodePoint_9a6ad 4 = .ok (.istore_n 1, 1) := by decide +kernel
theorem dJ11_isValidCodePoint_9a6ad_5 : decode cJ11_isValidCodePoint_9a6ad 5 = .ok (.iload_n 1, 1) := by decide +kernel
theorem dJ11_isValidCodePoint_9a6ad_6 : decode cJ11_isValidCodePoint_9a6ad 6 = .ok (.bipush 17, 2) := by decide +kernel
theorem dJ11_isValidCodePoint_9a6ad_8 : decode cJ11_isValidCodePoint_9a6ad 8 = .ok (.if_icmp .ge 7, 3) := by decide +kernel
theorem dJ11_isValidCodePoint_9a6ad_11 : decode cJ11_isValidCodePoint_9a6ad 11 = .ok (.iconst 1, 1) := by decide +kernel
theorem dJ11_isValidCodePoint_9a6ad_12 : decode cJ11_isValidCodePoint_9a6ad 12 = .ok (.goto 4, 3) := by decide +kernel
theorem dJ11_isValidCodePoint_9a6ad_15 : decode cJ11_isValidCodePoint_9a6ad 15 = .ok (.iconst 0, 1) := by decide +kernel
theorem dJ11_isValidCodePoint_9a6ad_16 : decode cJ11_isValidCodePoint_9a6ad 16 = .ok (.ireturn, 1) := by decide +kernel
theorem dJ11_highSurrogate_5068e_0 : decode cJ11_highSurrogate_5068e 0 = .ok (.iload_n 0, 1) := by decide +kernel
theorem dJ11_highSurrogate_5068e_1 : decode cJ11_highSurrogate_5068e 1 = .ok (.bipush 10, 2) := by decide +kernel
theorem dJ11_highSurrogate_5068e_3 : decode cJ11_highSurrogate_5068e 3 = .ok (.iushr, 1) := by decide +kernel
theorem dJ11_highSurrogate_5068e_4 : decode cJ11_highSurrogate_5068e 4 = .ok (.ldc 110, 2) := by decide +kernel
theorem dJ11_highSurrogate_5068e_6 : decode cJ11_highSurrogate_5068e 6 = .ok (.iadd, 1) := by decide +kernel
theorem dJ11_highSurrogate_5068e_7 : decode cJ11_highSurrogate_5068e 7 = .ok (.i2c, 1) := by decide +kernel
theorem dJ11_highSurrogate_5068e_8 : decode cJ11_highSurrogate_5068e 8 = .ok (.ireturn, 1) := by decide +kernel
theorem dJ11_lowSurrogate_5068e_0 : decode cJ11_lowSurrogate_5068e 0 = .ok (.iload_n 0, 1) := by decide +kernel
theorem dJ11_lowSurrogate_5068e_1 : decode cJ11_lowSurrogate_5068e 1 = .ok (.sipush 1023, 3) := by decide +kernel
theorem dJ11_lowSurrogate_5068e_4 : decode cJ11_lowSurrogate_5068e 4 = .ok (.iand, 1) := by decide +kernel
theorem dJ11_lowSurrogate_5068e_5 : decode cJ11_lowSurrogate_5068e 5 = .ok (.ldc 76, 2) := by decide +kernel
theorem dJ11_lowSurrogate_5068e_7 : decode cJ11_lowSurrogate_5068e 7 = .ok (.iadd, 1) := by decide +kernel
theorem dJ11_lowSurrogate_5068e_8 : decode cJ11_lowSurrogate_5068e 8 = .ok (.i2c, 1) := by decide +kernel
theorem dJ11_lowSurrogate_5068e_9 : decode cJ11_lowSurrogate_5068e 9 = .ok (.ireturn, 1) := by decide +kernel
theorem dJ6_numberOfTrailingZeros_0f7a4_0 : decode cJ6_numberOfTrailingZeros_0f7a4 0 = .ok (.iload_n 0, 1) := by decide +kernel
theorem dJ6_numberOfTrailingZeros_0f7a4_1 : decode cJ6_numberOfTrailingZeros_0f7a4 1 = .ok (.iconst (-1), 1) := by decide +kernel
theorem dJ6_numberOfTrailingZeros_0f7a4_2 : decode cJ6_numberOfTrailingZeros_0f7a4 2 = .ok (.ixor, 1) := by decide +kernel
theorem dJ6_numberOfTrailingZeros_0f7a4_3 : decode cJ6_numberOfTrailingZeros_0f7a4 3 = .ok (.iload_n 0, 1) := by decide +kernel
theorem dJ6_numberOfTrailingZeros_0f7a4_4 : decode cJ6_numberOfTrailingZeros_0f7a4 4 = .ok (.iconst 1, 1) := by decide +kernel
theorem dJ6_numberOfTrailingZeros_0f7a4_5 : decode cJ6_numberOfTrailingZeros_0f7a4 5 = .ok (.isub, 1) := by decide +kernel
theorem dJ6_numberOfTrailingZeros_0f7a4_6 : decode cJ6_numberOfTrailingZeros_0f7a4 6 = .ok (.iand, 1) := by decide +kernel
theorem dJ6_numberOfTrailingZeros_0f7a4_7 : decode cJ6_numberOfTrailingZeros_0f7a4 7 = .ok (.istore_n 0, 1) := by decide +kernel
theorem dJ6_numberOfTrailingZeros_0f7a4_8 : decode cJ6_numberOfTrailingZeros_0f7a4 8 = .ok (.iload_n 0, 1) := by decide +kernel
theorem dJ6_numberOfTrailingZeros_0f7a4_9 : decode cJ6_numberOfTrailingZeros_0f7a4 9 = .ok (.ifCond .gt 8, 3) := by decide +kernel
theorem dJ6_numberOfTrailingZeros_0f7a4_12 : decode cJ6_numberOfTrailingZeros_0f7a4 12 = .ok (.iload_n 0, 1) := by decide +kernel
theorem dJ6_numberOfTrailingZeros_0f7a4_13 : decode cJ6_numberOfTrailingZeros_0f7a4 13 = .ok (.bipush 32, 2) := by decide +kernel
theorem dJ6_numberOfTrailingZeros_0f7a4_15 : decode cJ6_numberOfTrailingZeros_0f7a4 15 = .ok (.iand, 1) := by decide +kernel
theorem dJ6_numberOfTrailingZeros_0f7a4_16 : decode cJ6_numberOfTrailingZeros_0f7a4 16 = .ok (.ireturn, 1) := by decide +kernel
theorem dJ6_numberOfTrailingZeros_0f7a4_17 : decode cJ6_numberOfTrailingZeros_0f7a4 17 = .ok (.iconst 1, 1) := by decide +kernel
theorem dJ6_numberOfTrailingZeros_0f7a4_18 : decode cJ6_numberOfTrailingZeros_0f7a4 18 = .ok (.istore_n 1, 1) := by decide +kernel
theorem dJ6_numberOfTrailingZeros_0f7a4_19 : decode cJ6_numberOfTrailingZeros_0f7a4 19 = .ok (.iload_n 0, 1) := by decide +kernel
theorem dJ6_numberOfTrailingZeros_0f7a4_20 : decode cJ6_numberOfTrailingZeros_0f7a4 20 = .ok (.ldc_w 264, 3) := by decide +kernel
theorem dJ6_numberOfTrailingZeros_0f7a4_23 : decode cJ6_numberOfTrailingZeros_0f7a4 23 = .ok (.if_icmp .le 11, 3) := by decide +kernel
theorem dJ6_numberOfTrailingZeros_0f7a4_26 : decode cJ6_numberOfTrailingZeros_0f7a4 26 = .ok (.iinc 1 16, 3) := by decide +kernel
theorem dJ6_numberOfTrailingZeros_0f7a4_29 : decode cJ6_numberOfTrailingZeros_0f7a4 29 = .ok (.iload_n 0, 1) := by decide +kernel
theorem dJ6_numberOfTrailingZeros_0f7a4_30 : decode cJ6_numberOfTrailingZeros_0f7a4 30 = .ok (.bipush 16, 2) := by decide +kernel
theorem dJ6_numberOfTrailingZeros_0f7a4_32 : decode cJ6_numberOfTrailingZeros_0f7a4 32 = .ok (.iushr, 1) := by decide +kernel
theorem dJ6_numberOfTrailingZeros_0f7a4_33 : decode cJ6_numberOfTrailingZeros_0f7a4 33 = .ok (.istore_n 0, 1) := by decide +kernel
theorem dJ6_numberOfTrailingZeros_0f7a4_34 : decode cJ6_numberOfTrailingZeros_0f7a4 34 = .ok (.iload_n 0, 1) := by decide +kernel
theorem dJ6_numberOfTrailingZeros_0f7a4_35 : decode cJ6_numberOfTrailingZeros_0f7a4 35 = .ok (.sipush 256, 3) := by decide +kernel
theorem dJ6_numberOfTrailingZeros_0f7a4_38 : decode cJ6_numberOfTrailingZeros_0f7a4 38 = .ok (.if_icmp .le 11, 3) := by decide +kernel
theorem dJ6_numberOfTrailingZeros_0f7a4_41 : decode cJ6_numberOfTrailingZeros_0f7a4 41 = .ok (.iinc 1 8, 3) := by decide +kernel
theorem dJ6_numberOfTrailingZeros_0f7a4_44 : decode cJ6_numberOfTrailingZeros_0f7a4 44 = .ok (.iload_n 0, 1) := by decide +kernel
theorem dJ6_numberOfTrailingZeros_0f7a4_45 : decode cJ6_numberOfTrailingZeros_0f7a4 45 = .ok (.bipush 8, 2) := by decide +kernel
theorem dJ6_numberOfTrailingZeros_0f7a4_47 : decode cJ6_numberOfTrailingZeros_0f7a4 47 = .ok (.iushr, 1) := by decide +kernel
theorem dJ6_numberOfTrailingZeros_0f7a4_48 : decode cJ6_numberOfTrailingZeros_0f7a4 48 = .ok (.istore_n 0, 1) := by decide +kernel
theorem dJ6_numberOfTrailingZeros_0f7a4_49 : decode cJ6_numberOfTrailingZeros_0f7a4 49 = .ok (.iload_n 0, 1) := by decide +kernel
theorem dJ6_numberOfTrailingZeros_0f7a4_50 : decode cJ6_numberOfTrailingZeros_0f7a4 50 = .ok (.bipush 16, 2) := by decide +kernel
theorem dJ6_numberOfTrailingZeros_0f7a4_52 : decode cJ6_numberOfTrailingZeros_0f7a4 52 = .ok (.if_icmp .le 10, 3) := by decide +kernel
theorem dJ6_numberOfTrailingZeros_0f7a4_55 : decode cJ6_numberOfTrailingZeros_0f7a4 55 = .ok (.iinc 1 4, 3) := by decide +kernel
theorem dJ6_numberOfTrailingZeros_0f7a4_58 : decode cJ6_numberOfTrailingZeros_0f7a4 58 = .ok (.iload_n 0, 1) := by decide +kernel
theorem dJ6_numberOfTrailingZeros_0f7a4_59 : decode cJ6_numberOfTrailingZeros_0f7a4 59 = .ok (.iconst 4, 1) := by decide +kernel
theorem dJ6_numberOfTrailingZeros_0f7a4_60 : decode cJ6_numberOfTrailingZeros_0f7a4 60 = .ok (.iushr, 1) := by decide +kernel
theorem dJ6_numberOfTrailingZeros_0f7a4_61 : decode cJ6_numberOfTrailingZeros_0f7a4 61 = .ok (.istore_n 0, 1) := by decide +kernel
theorem dJ6_numberOfTrailingZeros_0f7a4_62 : decode cJ6_numberOfTrailingZeros_0f7a4 62 = .ok (.iload_n 0, 1) := by decide +kernel
theorem dJ6_numberOfTrailingZeros_0f7a4_63 : decode cJ6_numberOfTrailingZeros_0f7a4 63 = .ok (.iconst 4, 1) := by decide +kernel
theorem dJ6_numberOfTrailingZeros_0f7a4_64 : decode cJ6_numberOfTrailingZeros_0f7a4 64 = .ok (.if_icmp .le 10, 3) := by decide +kernel
theorem dJ6_numberOfTrailingZeros_0f7a4_67 : decode cJ6_numberOfTrailingZeros_0f7a4 67 = .ok (.iinc 1 2, 3) := by decide +kernel
theorem dJ6_numberOfTrailingZeros_0f7a4_70 : decode cJ6_numberOfTrailingZeros_0f7a4 70 = .ok (.iload_n 0, 1) := by decide +kernel
theorem dJ6_numberOfTrailingZeros_0f7a4_71 : decode cJ6_numberOfTrailingZeros_0f7a4 71 = .ok (.iconst 2, 1) := by decide +kernel
theorem dJ6_numberOfTrailingZeros_0f7a4_72 : decode cJ6_numberOfTrailingZeros_0f7a4 72 = .ok (.iushr, 1) := by decide +kernel
theorem dJ6_numberOfTrailingZeros_0f7a4_73 : decode cJ6_numberOfTrailingZeros_0f7a4 73 = .ok (.istore_n 0, 1) := by decide +kernel
theorem dJ6_numberOfTrailingZeros_0f7a4_74 : decode cJ6_numberOfTrailingZeros_0f7a4 74 = .ok (.iload_n 1, 1) := by decide +kernel
theorem dJ6_numberOfTrailingZeros_0f7a4_75 : decode cJ6_numberOfTrailingZeros_0f7a4 75 = .ok (.iload_n 0, 1) := by decide +kernel
theorem dJ6_numberOfTrailingZeros_0f7a4_76 : decode cJ6_numberOfTrailingZeros_0f7a4 76 = .ok (.iconst 1, 1) := by decide +kernel
theorem dJ6_numberOfTrailingZeros_0f7a4_77 : decode cJ6_numberOfTrailingZeros_0f7a4 77 = .ok (.iushr, 1) := by decide +kernel
theorem dJ6_numberOfTrailingZeros_0f7a4_78 : decode cJ6_numberOfTrailingZeros_0f7a4 78 = .ok (.iadd, 1) := by decide +kernel
theorem dJ6_numberOfTrailingZeros_0f7a4_79 : decode cJ6_numberOfTrailingZeros_0f7a4 79 = .ok (.ireturn, 1) := by decide +kernel
theorem dJ6_bitCount_0f7a4_0 : decode cJ6_bitCount_0f7a4 0 = .ok (.iload_n 0, 1) := by decide +kernel
theorem dJ6_bitCount_0f7a4_1 : decode cJ6_bitCount_0f7a4 1 = .ok (.iload_n 0, 1) := by decide +kernel
theorem dJ6_bitCount_0f7a4_2 : decode cJ6_bitCount_0f7a4 2 = .ok (.iconst 1, 1) := by decide +kernel
theorem dJ6_bitCount_0f7a4_3 : decode cJ6_bitCount_0f7a4 3 = .ok (.iushr, 1) := by decide +kernel
theorem dJ6_bitCount_0f7a4_4 : decode cJ6_bitCount_0f7a4 4 = .ok (.ldc_w 265, 3) := by decide +kernel
theorem dJ6_bitCount_0f7a4_7 : decode cJ6_bitCount_0f7a4 7 = .ok (.iand, 1) := by decide +kernel
theorem dJ6_bitCount_0f7a4_8 : decode cJ6_bitCount_0f7a4 8 = .ok (.isub, 1) := by decide +kernel
theorem dJ6_bitCount_0f7a4_9 : decode cJ6_bitCount_0f7a4 9 = .ok (.istore_n 0, 1) := by decide +kernel
theorem dJ6_bitCount_0f7a4_10 : decode cJ6_bitCount_0f7a4 10 = .ok (.iload_n 0, 1) := by decide +kernel
theorem dJ6_bitCount_0f7a4_11 : decode cJ6_bitCount_0f7a4 11 = .ok (.ldc_w 266, 3) := by decide +kernel
theorem dJ6_bitCount_0f7a4_14 : decode cJ6_bitCount_0f7a4 14 = .ok (.iand, 1) := by decide +kernel
theorem dJ6_bitCount_0f7a4_15 : decode cJ6_bitCount_0f7a4 15 = .ok (.iload_n 0, 1) := by decide +kernel
theorem dJ6_bitCount_0f7a4_16 : decode cJ6_bitCount_0f7a4 16 = .ok (.iconst 2, 1) := by decide +kernel
theorem dJ6_bitCount_0f7a4_17 : decode cJ6_bitCount_0f7a4 17 = .ok (.iushr, 1) := by decide +kernel
theorem dJ6_bitCount_0f7a4_18 : decode cJ6_bitCount_0f7a4 18 = .ok (.ldc_w 266, 3) := by decide +kernel
theorem dJ6_bitCount_0f7a4_21 : decode cJ6_bitCount_0f7a4 21 = .ok (.iand, 1) := by decide +kernel
theorem dJ6_bitCount_0f7a4_22 : decode cJ6_bitCount_0f7a4 22 = .ok (.iadd, 1) := by decide +kernel
theorem dJ6_bitCount_0f7a4_23 : decode cJ6_bitCount_0f7a4 23 = .ok (.istore_n 0, 1) := by decide +kernel
theorem dJ6_bitCount_0f7a4_24 : decode cJ6_bitCount_0f7a4 24 = .ok (.iload_n 0, 1) := by decide +kernel
theorem dJ6_bitCount_0f7a4_25 : decode cJ6_bitCount_0f7a4 25 = .ok (.iload_n 0, 1) := by decide +kernel
theorem dJ6_bitCount_0f7a4_26 : decode cJ6_bitCount_0f7a4 26 = .ok (.iconst 4, 1) := by decide +kernel
theorem dJ6_bitCount_0f7a4_27 : decode cJ6_bitCount_0f7a4 27 = .ok (.iushr, 1) := by decide +kernel
theorem dJ6_bitCount_0f7a4_28 : decode cJ6_bitCount_0f7a4 28 = .ok (.iadd, 1) := by decide +kernel
theorem dJ6_bitCount_0f7a4_29 : decode cJ6_bitCount_0f7a4 29 = .ok (.ldc_w 267, 3) := by decide +kernel
theorem dJ6_bitCount_0f7a4_32 : decode cJ6_bitCount_0f7a4 32 = .ok (.iand, 1) := by decide +kernel
theorem dJ6_bitCount_0f7a4_33 : decode cJ6_bitCount_0f7a4 33 = .ok (.istore_n 0, 1) := by decide +kernel
theorem dJ6_bitCount_0f7a4_34 : decode cJ6_bitCount_0f7a4 34 = .ok (.iload_n 0, 1) := by decide +kernel
theorem dJ6_bitCount_0f7a4_35 : decode cJ6_bitCount_0f7a4 35 = .ok (.iload_n 0, 1) := by decide +kernel
theorem dJ6_bitCount_0f7a4_36 : decode cJ6_bitCount_0f7a4 36 = .ok (.bipush 8, 2) := by decide +kernel
theorem dJ6_bitCount_0f7a4_38 : decode cJ6_bitCount_0f7a4 38 = .ok (.iushr, 1) := by decide +kernel
theorem dJ6_bitCount_0f7a4_39 : decode cJ6_bitCount_0f7a4 39 = .ok (.iadd, 1) := by decide +kernel
theorem dJ6_bitCount_0f7a4_40 : decode cJ6_bitCount_0f7a4 40 = .ok (.istore_n 0, 1) := by decide +kernel
theorem dJ6_bitCount_0f7a4_41 : decode cJ6_bitCount_0f7a4 41 = .ok (.iload_n 0, 1) := by decide +kernel
theorem dJ6_bitCount_0f7a4_42 : decode cJ6_bitCount_0f7a4 42 = .ok (.iload_n 0, 1) := by decide +kernel
theorem dJ6_bitCount_0f7a4_43 : decode cJ6_bitCount_0f7a4 43 = .ok (.bipush 16, 2) := by decide +kernel
theorem dJ6_bitCount_0f7a4_45 : decode cJ6_bitCount_0f7a4 45 = .ok (.iushr, 1) := by decide +kernel
theorem dJ6_bitCount_0f7a4_46 : decode cJ6_bitCount_0f7a4 46 = .ok (.iadd, 1) := by decide +kernel
theorem dJ6_bitCount_0f7a4_47 : decode cJ6_bitCount_0f7a4 47 = .ok (.istore_n 0, 1) := by decide +kernel
theorem dJ6_bitCount_0f7a4_48 : decode cJ6_bitCount_0f7a4 48 = .ok (.iload_n 0, 1) := by decide +kernel
theorem dJ6_bitCount_0f7a4_49 : decode cJ6_bitCount_0f7a4 49 = .ok (.bipush 63, 2) := by decide +kernel
theorem dJ6_bitCount_0f7a4_51 : decode cJ6_bitCount_0f7a4 51 = .ok (.iand, 1) := by decide +kernel
theorem dJ6_bitCount_0f7a4_52 : decode cJ6_bitCount_0f7a4 52 = .ok (.ireturn, 1) := by decide +kernel
theorem dJ9_floorDiv_7cf53_0 : decode cJ9_floorDiv_7cf53 0 = .ok (.iload_n 0, 1) := by decide +kernel
theorem dJ9_floorDiv_7cf53_1 : decode cJ9_floorDiv_7cf53 1 = .ok (.iload_n 1, 1) := by decide +kernel
theorem dJ9_floorDiv_7cf53_2 : decode cJ9_floorDiv_7cf53 2 = .ok (.idiv, 1) := by decide +kernel
theorem dJ9_floorDiv_7cf53_3 : decode cJ9_floorDiv_7cf53 3 = .ok (.istore_n 2, 1) := by decide +kernel
theorem dJ9_floorDiv_7cf53_4 : decode cJ9_floorDiv_7cf53 4 = .ok (.iload_n 0, 1) := by decide +kernel
theorem dJ9_floorDiv_7cf53_5 : decode cJ9_floorDiv_7cf53 5 = .ok (.iload_n 1, 1) := by decide +kernel
theorem dJ9_floorDiv_7cf53_6 : decode cJ9_floorDiv_7cf53 6 = .ok (.ixor, 1) := by decide +kernel
theorem dJ9_floorDiv_7cf53_7 : decode cJ9_floorDiv_7cf53 7 = .ok (.ifCond .ge 14, 3) := by decide +kernel
theorem dJ9_floorDiv_7cf53_10 : decode cJ9_floorDiv_7cf53 10 = .ok (.iload_n 2, 1) := by decide +kernel
theorem dJ9_floorDiv_7cf53_11 : decode cJ9_floorDiv_7cf53 11 = .ok (.iload_n 1, 1) := by decide +kernel
theorem dJ9_floorDiv_7cf53_12 : decode cJ9_floorDiv_7cf53 12 = .ok (.imul, 1) := by decide +kernel
theorem dJ9_floorDiv_7cf53_13 : decode cJ9_floorDiv_7cf53 13 = .ok (.iload_n 0, 1) := by decide +kernel
theorem dJ9_floorDiv_7cf53_14 : decode cJ9_floorDiv_7cf53 14 = .ok (.if_icmp .eq 7, 3) := by decide +kernel
theorem dJ9_floorDiv_7cf53_17 : decode cJ9_floorDiv_7cf53 17 = .ok (.iload_n 2, 1) := by decide +kernel
theorem dJ9_floorDiv_7cf53_18 : decode cJ9_floorDiv_7cf53 18 = .ok (.iconst 1, 1) := by decide +kernel
theorem dJ9_floorDiv_7cf53_19 : decode cJ9_floorDiv_7cf53 19 = .ok (.isub, 1) := by decide +kernel
theorem dJ9_floorDiv_7cf53_20 : decode cJ9_floorDiv_7cf53 20 = .ok (.ireturn, 1) := by decide +kernel
theorem dJ9_floorDiv_7cf53_21 : decode cJ9_floorDiv_7cf53 21 = .ok (.iload_n 2, 1) := by decide +kernel
theorem dJ9_floorDiv_7cf53_22 : decode cJ9_floorDiv_7cf53 22 = .ok (.ireturn, 1) := by decide +kernel
theorem dJ9_floorMod_7cf53_0 : decode cJ9_floorMod_7cf53 0 = .ok (.iload_n 0, 1) := by decide +kernel
theorem dJ9_floorMod_7cf53_1 : decode cJ9_floorMod_7cf53 1 = .ok (.iload_n 1, 1) := by decide +kernel
theorem dJ9_floorMod_7cf53_2 : decode cJ9_floorMod_7cf53 2 = .ok (.irem, 1) := by decide +kernel
theorem dJ9_floorMod_7cf53_3 : decode cJ9_floorMod_7cf53 3 = .ok (.istore_n 2, 1) := by decide +kernel
theorem dJ9_floorMod_7cf53_4 : decode cJ9_floorMod_7cf53 4 = .ok (.iload_n 0, 1) := by decide +kernel
theorem dJ9_floorMod_7cf53_5 : decode cJ9_floorMod_7cf53 5 = .ok (.iload_n 1, 1) := by decide +kernel
theorem dJ9_floorMod_7cf53_6 : decode cJ9_floorMod_7cf53 6 = .ok (.ixor, 1) := by decide +kernel
theorem dJ9_floorMod_7cf53_7 : decode cJ9_floorMod_7cf53 7 = .ok (.ifCond .ge 11, 3) := by decide +kernel
theorem dJ9_floorMod_7cf53_10 : decode cJ9_floorMod_7cf53 10 = .ok (.iload_n 2, 1) := by decide +kernel
theorem dJ9_floorMod_7cf53_11 : decode cJ9_floorMod_7cf53 11 = .ok (.ifCond .eq 7, 3) := by decide +kernel
theorem dJ9_floorMod_7cf53_14 : decode cJ9_floorMod_7cf53 14 = .ok (.iload_n 2, 1) := by decide +kernel
theorem dJ9_floorMod_7cf53_15 : decode cJ9_floorMod_7cf53 15 = .ok (.iload_n 1, 1) := by decide +kernel
theorem dJ9_floorMod_7cf53_16 : decode cJ9_floorMod_7cf53 16 = .ok (.iadd, 1) := by decide +kernel
theorem dJ9_floorMod_7cf53_17 : decode cJ9_floorMod_7cf53 17 = .ok (.ireturn, 1) := by decide +kernel
theorem dJ9_floorMod_7cf53_18 : decode cJ9_floorMod_7cf53 18 = .ok (.iload_n 2, 1) := by decide +kernel
theorem dJ9_floorMod_7cf53_19 : decode cJ9_floorMod_7cf53 19 = .ok (.ireturn, 1) := by decide +kernel
theorem dJ9_max_7cf53_0 : decode cJ9_max_7cf53 0 = .ok (.iload_n 0, 1) := by decide +kernel
theorem dJ9_max_7cf53_1 : decode cJ9_max_7cf53 1 = .ok (.iload_n 1, 1) := by decide +kernel
theorem dJ9_max_7cf53_2 : decode cJ9_max_7cf53 2 = .ok (.if_icmp .lt 7, 3) := by decide +kernel
theorem dJ9_max_7cf53_5 : decode cJ9_max_7cf53 5 = .ok (.iload_n 0, 1) := by decide +kernel
theorem dJ9_max_7cf53_6 : decode cJ9_max_7cf53 6 = .ok (.goto 4, 3) := by decide +kernel
theorem dJ9_max_7cf53_9 : decode cJ9_max_7cf53 9 = .ok (.iload_n 1, 1) := by decide +kernel
theorem dJ9_max_7cf53_10 : decode cJ9_max_7cf53 10 = .ok (.ireturn, 1) := by decide +kernel
theorem dJ9_min_7cf53_0 : decode cJ9_min_7cf53 0 = .ok (.iload_n 0, 1) := by decide +kernel
theorem dJ9_min_7cf53_1 : decode cJ9_min_7cf53 1 = .ok (.iload_n 1, 1) := by decide +kernel
theorem dJ9_min_7cf53_2 : decode cJ9_min_7cf53 2 = .ok (.if_icmp .gt 7, 3) := by decide +kernel
theorem dJ9_min_7cf53_5 : decode cJ9_min_7cf53 5 = .ok (.iload_n 0, 1) := by decide +kernel
theorem dJ9_min_7cf53_6 : decode cJ9_min_7cf53 6 = .ok (.goto 4, 3) := by decide +kernel
theorem dJ9_min_7cf53_9 : decode cJ9_min_7cf53 9 = .ok (.iload_n 1, 1) := by decide +kernel
theorem dJ9_min_7cf53_10 : decode cJ9_min_7cf53 10 = .ok (.ireturn, 1) := by decide +kernel
theorem dJ0_length_8abf5_0 : decode cJ0_length_8abf5 0 = .ok (.aload_n 0, 1) := by decide +kernel
theorem dJ0_length_8abf5_1 : decode cJ0_length_8abf5 1 = .ok (.getfield 9, 3) := by decide +kernel
theorem dJ0_length_8abf5_4 : decode cJ0_length_8abf5 4 = .ok (.arraylength, 1) := by decide +kernel
theorem dJ0_length_8abf5_5 : decode cJ0_length_8abf5 5 = .ok (.aload_n 0, 1) := by decide +kernel
theorem dJ0_length_8abf5_6 : decode cJ0_length_8abf5 6 = .ok (.invokevirtual 335, 3) := by decide +kernel
theorem dJ0_length_8abf5_9 : decode cJ0_length_8abf5 9 = .ok (.ishr, 1) := by decide +kernel
theorem dJ0_length_8abf5_10 : decode cJ0_length_8abf5 10 = .ok (.ireturn, 1) := by decide +kernel
theorem dJ0_charAt_5068e_0 : decode cJ0_charAt_5068e 0 = .ok (.aload_n 0, 1) := by decide +kernel
theorem dJ0_charAt_5068e_1 : decode cJ0_charAt_5068e 1 = .ok (.invokevirtual 492, 3) := by decide +kernel
theorem dJ0_charAt_5068e_4 : decode cJ0_charAt_5068e 4 = .ok (.ifCond .eq 12, 3) := by decide +kernel
theorem dJ0_charAt_5068e_7 : decode cJ0_charAt_5068e 7 = .ok (.aload_n 0, 1) := by decide +kernel
theorem dJ0_charAt_5068e_8 : decode cJ0_charAt_5068e 8 = .ok (.getfield 9, 3) := by decide +kernel
theorem dJ0_charAt_5068e_11 : decode cJ0_charAt_5068e 11 = .ok (.iload_n 1, 1) := by decide +kernel
theorem dJ0_charAt_5068e_12 : decode cJ0_charAt_5068e 12 = .ok (.invokestatic 495, 3) := by decide +kernel
theorem dJ0_charAt_5068e_15 : decode cJ0_charAt_5068e 15 = .ok (.ireturn, 1) := by decide +kernel
theorem dJ0_charAt_5068e_16 : decode cJ0_charAt_5068e 16 = .ok (.aload_n 0, 1) := by decide +kernel
theorem dJ0_charAt_5068e_17 : decode cJ0_charAt_5068e 17 = .ok (.getfield 9, 3) := by decide +kernel
theorem dJ0_charAt_5068e_20 : decode cJ0_charAt_5068e 20 = .ok (.iload_n 1, 1) := by decide +kernel
theorem dJ0_charAt_5068e_21 : decode cJ0_charAt_5068e 21 = .ok (.invokestatic 498, 3) := by decide +kernel
theorem dJ0_charAt_5068e_24 : decode cJ0_charAt_5068e 24 = .ok (.ireturn, 1) := by decide +kernel
theorem dJ0_indexOf_0f7a4_0 : decode cJ0_indexOf_0f7a4 0 = .ok (.aload_n 0, 1) := by decide +kernel
theorem dJ0_indexOf_0f7a4_1 : decode cJ0_indexOf_0f7a4 1 = .ok (.iload_n 1, 1) := by decide +kernel
theorem dJ0_indexOf_0f7a4_2 : decode cJ0_indexOf_0f7a4 2 = .ok (.iconst 0, 1) := by decide +kernel
theorem dJ0_indexOf_0f7a4_3 : decode cJ0_indexOf_0f7a4 3 = .ok (.invokevirtual 633, 3) := by decide +kernel
theorem dJ0_indexOf_0f7a4_6 : decode cJ0_indexOf_0f7a4 6 = .ok (.ireturn, 1) := by decide +kernel
theorem dJ0_indexOf_7cf53_0 : decode cJ0_indexOf_7cf53 0 = .ok (.aload_n 0, 1) := by decide +kernel
theorem dJ0_indexOf_7cf53_1 : decode cJ0_indexOf_7cf53 1 = .ok (.invokevirtual 492, 3) := by decide +kernel
theorem dJ0_indexOf_7cf53_4 : decode cJ0_indexOf_7cf53 4 = .ok (.ifCond .eq 19, 3) := by decide +kernel
theorem dJ0_indexOf_7cf53_7 : decode cJ0_indexOf_7cf53 7 = .ok (.aload_n 0, 1) := by decide +kernel
theorem dJ0_indexOf_7cf53_8 : decode cJ0_indexOf_7cf53 8 = .ok (.getfield 9, 3) := by decide +kernel
theorem dJ0_indexOf_7cf53_11 : decode cJ0_indexOf_7cf53 11 = .ok (.iload_n 1, 1) := by decide +kernel
theorem dJ0_indexOf_7cf53_12 : decode cJ0_indexOf_7cf53 12 = .ok (.iload_n 2, 1) := by decide +kernel
theorem dJ0_indexOf_7cf53_13 : decode cJ0_indexOf_7cf53 13 = .ok (.aload_n 0, 1) := by decide +kernel
theorem dJ0_indexOf_7cf53_14 : decode cJ0_indexOf_7cf53 14 = .ok (.invokevirtual 505, 3) := by decide +kernel
theorem dJ0_indexOf_7cf53_17 : decode cJ0_indexOf_7cf53 17 = .ok (.invokestatic 637, 3) := by decide +kernel
theorem dJ0_indexOf_7cf53_20 : decode cJ0_indexOf_7cf53 20 = .ok (.goto 16, 3) := by decide +kernel
theorem dJ0_indexOf_7cf53_23 : decode cJ0_indexOf_7cf53 23 = .ok (.aload_n 0, 1) := by decide +kernel
theorem dJ0_indexOf_7cf53_24 : decode cJ0_indexOf_7cf53 24 = .ok (.getfield 9, 3) := by decide +kernel
theorem dJ0_indexOf_7cf53_27 : decode cJ0_indexOf_7cf53 27 = .ok (.iload_n 1, 1) := by decide +kernel
theorem dJ0_indexOf_7cf53_28 : decode cJ0_indexOf_7cf53 28 = .ok (.iload_n 2, 1) := by decide +kernel
theorem dJ0_indexOf_7cf53_29 : decode cJ0_indexOf_7cf53 29 = .ok (.aload_n 0, 1) := by decide +kernel
theorem dJ0_indexOf_7cf53_30 : decode cJ0_indexOf_7cf53 30 = .ok (.invokevirtual 505, 3) := by decide +kernel
theorem dJ0_indexOf_7cf53_33 : decode cJ0_indexOf_7cf53 33 = .ok (.invokestatic 640, 3) := by decide +kernel
theorem dJ0_indexOf_7cf53_36 : decode cJ0_indexOf_7cf53 36 = .ok (.ireturn, 1) := by decide +kernel
theorem dJ0_coder_7d493_0 : decode cJ0_coder_7d493 0 = .ok (.getstatic 38, 3) := by decide +kernel
theorem dJ0_coder_7d493_3 : decode cJ0_coder_7d493 3 = .ok (.ifCond .eq 10, 3) := by decide +kernel
theorem dJ0_coder_7d493_6 : decode cJ0_coder_7d493 6 = .ok (.aload_n 0, 1) := by decide +kernel
theorem dJ0_coder_7d493_7 : decode cJ0_coder_7d493 7 = .ok (.getfield 15, 3) := by decide +kernel
theorem dJ0_coder_7d493_10 : decode cJ0_coder_7d493 10 = .ok (.goto 4, 3) := by decide +kernel
theorem dJ0_coder_7d493_13 : decode cJ0_coder_7d493 13 = .ok (.iconst 1, 1) := by decide +kernel
theorem dJ0_coder_7d493_14 : decode cJ0_coder_7d493 14 = .ok (.ireturn, 1) := by decide +kernel
theorem dJ0_isLatin1_aae02_0 : decode cJ0_isLatin1_aae02 0 = .ok (.getstatic 38, 3) := by decide +kernel
theorem dJ0_isLatin1_aae02_3 : decode cJ0_isLatin1_aae02 3 = .ok (.ifCond .eq 14, 3) := by decide +kernel
theorem dJ0_isLatin1_aae02_6 : decode cJ0_isLatin1_aae02 6 = .ok (.aload_n 0, 1) := by decide +kernel
theorem dJ0_isLatin1_aae02_7 : decode cJ0_isLatin1_aae02 7 = .ok (.getfield 15, 3) := by decide +kernel
theorem dJ0_isLatin1_aae02_10 : decode cJ0_isLatin1_aae02 10 = .ok (.ifCond .ne 7, 3) := by decide +kernel
theorem dJ0_isLatin1_aae02_13 : decode cJ0_isLatin1_aae02 13 = .ok (.iconst 1, 1) := by decide +kernel
theorem dJ0_isLatin1_aae02_14 : decode cJ0_isLatin1_aae02 14 = .ok (.goto 4, 3) := by decide +kernel
theorem dJ0_isLatin1_aae02_17 : decode cJ0_isLatin1_aae02 17 = .ok (.iconst 0, 1) := by decide +kernel
theorem dJ0_isLatin1_aae02_18 : decode cJ0_isLatin1_aae02 18 = .ok (.ireturn, 1) := by decide +kernel
theorem dJ0_checkIndex_df160_0 : decode cJ0_checkIndex_df160 0 = .ok (.iload_n 0, 1) := by decide +kernel
theorem dJ0_checkIndex_df160_1 : decode cJ0_checkIndex_df160 1 = .ok (.iload_n 1, 1) := by decide +kernel
theorem dJ0_checkIndex_df160_2 : decode cJ0_checkIndex_df160 2 = .ok (.getstatic 1053, 3) := by decide +kernel
theorem dJ0_checkIndex_df160_5 : decode cJ0_checkIndex_df160 5 = .ok (.invokestatic 1059, 3) := by decide +kernel
theorem dJ0_checkIndex_df160_8 : decode cJ0_checkIndex_df160 8 = .ok (.pop, 1) := by decide +kernel
theorem dJ0_checkIndex_df160_9 : decode cJ0_checkIndex_df160 9 = .ok (.return_, 1) := by decide +kernel
theorem dJ0_checkBoundsBeginEnd_23922_0 : decode cJ0_checkBoundsBeginEnd_23922 0 = .ok (.iload_n 0, 1) := by decide +kernel
theorem dJ0_checkBoundsBeginEnd_23922_1 : decode cJ0_checkBoundsBeginEnd_23922 1 = .ok (.iload_n 1, 1) := by decide +kernel
theorem dJ0_checkBoundsBeginEnd_23922_2 : decode cJ0_checkBoundsBeginEnd_23922 2 = .ok (.iload_n 2, 1) := by decide +kernel
theorem dJ0_checkBoundsBeginEnd_23922_3 : decode cJ0_checkBoundsBeginEnd_23922 3 = .ok (.getstatic 1053, 3) := by decide +kernel
theorem dJ0_checkBoundsBeginEnd_23922_6 : decode cJ0_checkBoundsBeginEnd_23922 6 = .ok (.invokestatic 1062, 3) := by decide +kernel
theorem dJ0_checkBoundsBeginEnd_23922_9 : decode cJ0_checkBoundsBeginEnd_23922 9 = .ok (.pop, 1) := by decide +kernel
theorem dJ0_checkBoundsBeginEnd_23922_10 : decode cJ0_checkBoundsBeginEnd_23922 10 = .ok (.return_, 1) := by decide +kernel
theorem dJ1_charAt_3b067_0 : decode cJ1_charAt_3b067 0 = .ok (.iload_n 1, 1) := by decide +kernel
theorem dJ1_charAt_3b067_1 : decode cJ1_charAt_3b067 1 = .ok (.aload_n 0, 1) := by decide +kernel
theorem dJ1_charAt_3b067_2 : decode cJ1_charAt_3b067 2 = .ok (.arraylength, 1) := by decide +kernel
theorem dJ1_charAt_3b067_3 : decode cJ1_charAt_3b067 3 = .ok (.invokestatic 9, 3) := by decide +kernel
theorem dJ1_charAt_3b067_6 : decode cJ1_charAt_3b067 6 = .ok (.aload_n 0, 1) := by decide +kernel
theorem dJ1_charAt_3b067_7 : decode cJ1_charAt_3b067 7 = .ok (.iload_n 1, 1) := by decide +kernel
theorem dJ1_charAt_3b067_8 : decode cJ1_charAt_3b067 8 = .ok (.baload, 1) := by decide +kernel
theorem dJ1_charAt_3b067_9 : decode cJ1_charAt_3b067 9 = .ok (.sipush 255, 3) := by decide +kernel
theorem dJ1_charAt_3b067_12 : decode cJ1_charAt_3b067 12 = .ok (.iand, 1) := by decide +kernel
theorem dJ1_charAt_3b067_13 : decode cJ1_charAt_3b067 13 = .ok (.i2c, 1) := by decide +kernel
theorem dJ1_charAt_3b067_14 : decode cJ1_charAt_3b067 14 = .ok (.ireturn, 1) := by decide +kernel
theorem dJ1_canEncode_9a6ad_0 : decode cJ1_canEncode_9a6ad 0 = .ok (.iload_n 0, 1) := by decide +kernel
theorem dJ1_canEncode_9a6ad_1 : decode cJ1_canEncode_9a6ad 1 = .ok (.ifCond .lt 14, 3) := by decide +kernel
theorem dJ1_canEncode_9a6ad_4 : decode cJ1_canEncode_9a6ad 4 = .ok (.iload_n 0, 1) := by decide +kernel
theorem dJ1_canEncode_9a6ad_5 : decode cJ1_canEncode_9a6ad 5 = .ok (.sipush 255, 3) := by decide +kernel
theorem dJ1_canEncode_9a6ad_8 : decode cJ1_canEncode_9a6ad 8 = .ok (.if_icmp .gt 7, 3) := by decide +kernel
theorem dJ1_canEncode_9a6ad_11 : decode cJ1_canEncode_9a6ad 11 = .ok (.iconst 1, 1) := by decide +kernel
theorem dJ1_canEncode_9a6ad_12 : decode cJ1_canEncode_9a6ad 12 = .ok (.goto 4, 3) := by decide +kernel
theorem dJ1_canEncode_9a6ad_15 : decode cJ1_canEncode_9a6ad 15 = .ok (.iconst 0, 1) := by decide +kernel
theorem dJ1_canEncode_9a6ad_16 : decode cJ1_canEncode_9a6ad 16 = .ok (.ireturn, 1) := by decide +kernel
theorem dJ1_indexOf_4cfef_0 : decode cJ1_indexOf_4cfef 0 = .ok (.iload_n 1, 1) := by decide +kernel
theorem dJ1_indexOf_4cfef_1 : decode cJ1_indexOf_4cfef 1 = .ok (.invokestatic 88, 3) := by decide +kernel
theorem dJ1_indexOf_4cfef_4 : decode cJ1_indexOf_4cfef 4 = .ok (.ifCond .ne 5, 3) := by decide +kernel
theorem dJ1_indexOf_4cfef_7 : decode cJ1_indexOf_4cfef 7 = .ok (.iconst (-1), 1) := by decide +kernel
theorem dJ1_indexOf_4cfef_8 : decode cJ1_indexOf_4cfef 8 = .ok (.ireturn, 1) := by decide +kernel
theorem dJ1_indexOf_4cfef_9 : decode cJ1_indexOf_4cfef 9 = .ok (.iload_n 2, 1) := by decide +kernel
theorem dJ1_indexOf_4cfef_10 : decode cJ1_indexOf_4cfef 10 = .ok (.iconst 0, 1) := by decide +kernel
theorem dJ1_indexOf_4cfef_11 : decode cJ1_indexOf_4cfef 11 = .ok (.invokestatic 92, 3) := by decide +kernel
theorem dJ1_indexOf_4cfef_14 : decode cJ1_indexOf_4cfef 14 = .ok (.istore_n 2, 1) := by decide +kernel
theorem dJ1_indexOf_4cfef_15 : decode cJ1_indexOf_4cfef 15 = .ok (.iload_n 3, 1) := by decide +kernel
theorem dJ1_indexOf_4cfef_16 : decode cJ1_indexOf_4cfef 16 = .ok (.aload_n 0, 1) := by decide +kernel
theorem dJ1_indexOf_4cfef_17 : decode cJ1_indexOf_4cfef 17 = .ok (.arraylength, 1) := by decide +kernel
theorem dJ1_indexOf_4cfef_18 : decode cJ1_indexOf_4cfef 18 = .ok (.invokestatic 38, 3) := by decide +kernel
theorem dJ1_indexOf_4cfef_21 : decode cJ1_indexOf_4cfef 21 = .ok (.istore_n 3, 1) := by decide +kernel
theorem dJ1_indexOf_4cfef_22 : decode cJ1_indexOf_4cfef 22 = .ok (.iload_n 2, 1) := by decide +kernel
theorem dJ1_indexOf_4cfef_23 : decode cJ1_indexOf_4cfef 23 = .ok (.iload_n 3, 1) := by decide +kernel
theorem dJ1_indexOf_4cfef_24 : decode cJ1_indexOf_4cfef 24 = .ok (.if_icmp .lt 5, 3) := by decide +kernel
theorem dJ1_indexOf_4cfef_27 : decode cJ1_indexOf_4cfef 27 = .ok (.iconst (-1), 1) := by decide +kernel
theorem dJ1_indexOf_4cfef_28 : decode cJ1_indexOf_4cfef 28 = .ok (.ireturn, 1) := by decide +kernel
theorem dJ1_indexOf_4cfef_29 : decode cJ1_indexOf_4cfef 29 = .ok (.aload_n 0, 1) := by decide +kernel
theorem dJ1_indexOf_4cfef_30 : decode cJ1_indexOf_4cfef 30 = .ok (.iload_n 1, 1) := by decide +kernel
theorem dJ1_indexOf_4cfef_31 : decode cJ1_indexOf_4cfef 31 = .ok (.iload_n 2, 1) := by decide +kernel
theorem dJ1_indexOf_4cfef_32 : decode cJ1_indexOf_4cfef 32 = .ok (.iload_n 3, 1) := by decide +kernel
theorem dJ1_indexOf_4cfef_33 : decode cJ1_indexOf_4cfef 33 = .ok (.invokestatic 95, 3) := by decide +kernel
theorem dJ1_indexOf_4cfef_36 : decode cJ1_indexOf_4cfef 36 = .ok (.ireturn, 1) := by decide +kernel
theorem dJ1_indexOfChar_4cfef_0 : decode cJ1_indexOfChar_4cfef 0 = .ok (.iload_n 1, 1) := by decide +kernel
theorem dJ1_indexOfChar_4cfef_1 : decode cJ1_indexOfChar_4cfef 1 = .ok (.i2b, 1) := by decide +kernel
theorem dJ1_indexOfChar_4cfef_2 : decode cJ1_indexOfChar_4cfef 2 = .ok (.istore 4, 2) := by decide +kernel
theorem dJ1_indexOfChar_4cfef_4 : decode cJ1_indexOfChar_4cfef 4 = .ok (.iload_n 2, 1) := by decide +kernel
theorem dJ1_indexOfChar_4cfef_5 : decode cJ1_indexOfChar_4cfef 5 = .ok (.istore 5, 2) := by decide +kernel
theorem dJ1_indexOfChar_4cfef_7 : decode cJ1_indexOfChar_4cfef 7 = .ok (.iload 5, 2) := by decide +kernel
theorem dJ1_indexOfChar_4cfef_9 : decode cJ1_indexOfChar_4cfef 9 = .ok (.iload_n 3, 1) := by decide +kernel
theorem dJ1_indexOfChar_4cfef_10 : decode cJ1_indexOfChar_4cfef 10 = .ok (.if_icmp .ge 21, 3) := by decide +kernel
theorem dJ1_indexOfChar_4cfef_13 : decode cJ1_indexOfChar_4cfef 13 = .ok (.aload_n 0, 1) := by decide +kernel
theorem dJ1_indexOfChar_4cfef_14 : decode cJ1_indexOfChar_4cfef 14 = .ok (.iload 5, 2) := by decide +kernel
theorem dJ1_indexOfChar_4cfef_16 : decode cJ1_indexOfChar_4cfef 16 = .ok (.baload, 1) := by decide +kernel
theorem dJ1_indexOfChar_4cfef_17 : decode cJ1_indexOfChar_4cfef 17 = .ok (.iload 4, 2) := by decide +kernel
theorem dJ1_indexOfChar_4cfef_19 : decode cJ1_indexOfChar_4cfef 19 = .ok (.if_icmp .ne 6, 3) := by decide +kernel
theorem dJ1_indexOfChar_4cfef_22 : decode cJ1_indexOfChar_4cfef 22 = .ok (.iload 5, 2) := by decide +kernel
theorem dJ1_indexOfChar_4cfef_24 : decode cJ1_indexOfChar_4cfef 24 = .ok (.ireturn, 1) := by decide +kernel
theorem dJ1_indexOfChar_4cfef_25 : decode cJ1_indexOfChar_4cfef 25 = .ok (.iinc 5 1, 3) := by decide +kernel
theorem dJ1_indexOfChar_4cfef_28 : decode cJ1_indexOfChar_4cfef 28 = .ok (.goto (-21), 3) := by decide +kernel
theorem dJ1_indexOfChar_4cfef_31 : decode cJ1_indexOfChar_4cfef 31 = .ok (.iconst (-1), 1) := by decide +kernel
theorem dJ1_indexOfChar_4cfef_32 : decode cJ1_indexOfChar_4cfef 32 = .ok (.ireturn, 1) := by decide +kernel
theorem dJ2_getChar_3b067_0 : decode cJ2_getChar_3b067 0 = .ok (.getstatic 44, 3) := by decide +kernel
theorem dJ2_getChar_3b067_3 : decode cJ2_getChar_3b067 3 = .ok (.ifCond .ne 25, 3) := by decide +kernel
theorem dJ2_getChar_3b067_6 : decode cJ2_getChar_3b067 6 = .ok (.iload_n 1, 1) := by decide +kernel
theorem dJ2_getChar_3b067_7 : decode cJ2_getChar_3b067 7 = .ok (.ifCond .lt 11, 3) := by decide +kernel
theorem dJ2_getChar_3b067_10 : decode cJ2_getChar_3b067 10 = .ok (.iload_n 1, 1) := by decide +kernel
theorem dJ2_getChar_3b067_11 : decode cJ2_getChar_3b067 11 = .ok (.aload_n 0, 1) := by decide +kernel
theorem dJ2_getChar_3b067_12 : decode cJ2_getChar_3b067 12 = .ok (.invokestatic 48, 3) := by decide +kernel
theorem dJ2_getChar_3b067_15 : decode cJ2_getChar_3b067 15 = .ok (.if_icmp .lt 13, 3) := by decide +kernel
theorem dJ2_getChar_3b067_18 : decode cJ2_getChar_3b067 18 = .ok (.new 52, 3) := by decide +kernel
theorem dJ2_getChar_3b067_21 : decode cJ2_getChar_3b067 21 = .ok (.dup, 1) := by decide +kernel
theorem dJ2_getChar_3b067_22 : decode cJ2_getChar_3b067 22 = .ok (.ldc 54, 2) := by decide +kernel
theorem dJ2_getChar_3b067_24 : decode cJ2_getChar_3b067 24 = .ok (.invokespecial 56, 3) := by decide +kernel
theorem dJ2_getChar_3b067_27 : decode cJ2_getChar_3b067 27 = .ok (.athrow, 1) := by decide +kernel
theorem dJ2_getChar_3b067_28 : decode cJ2_getChar_3b067 28 = .ok (.iload_n 1, 1) := by decide +kernel
theorem dJ2_getChar_3b067_29 : decode cJ2_getChar_3b067 29 = .ok (.iconst 1, 1) := by decide +kernel
theorem dJ2_getChar_3b067_30 : decode cJ2_getChar_3b067 30 = .ok (.ishl, 1) := by decide +kernel
theorem dJ2_getChar_3b067_31 : decode cJ2_getChar_3b067 31 = .ok (.istore_n 1, 1) := by decide +kernel
theorem dJ2_getChar_3b067_32 : decode cJ2_getChar_3b067 32 = .ok (.aload_n 0, 1) := by decide +kernel
theorem dJ2_getChar_3b067_33 : decode cJ2_getChar_3b067 33 = .ok (.iload_n 1, 1) := by decide +kernel
theorem dJ2_getChar_3b067_34 : decode cJ2_getChar_3b067 34 = .ok (.iinc 1 1, 3) := by decide +kernel
theorem dJ2_getChar_3b067_37 : decode cJ2_getChar_3b067 37 = .ok (.baload, 1) := by decide +kernel
theorem dJ2_getChar_3b067_38 : decode cJ2_getChar_3b067 38 = .ok (.sipush 255, 3) := by decide +kernel
theorem dJ2_getChar_3b067_41 : decode cJ2_getChar_3b067 41 = .ok (.iand, 1) := by decide +kernel
theorem dJ2_getChar_3b067_42 : decode cJ2_getChar_3b067 42 = .ok (.getstatic 59, 3) := by decide +kernel
theorem dJ2_getChar_3b067_45 : decode cJ2_getChar_3b067 45 = .ok (.ishl, 1) := by decide +kernel
theorem dJ2_getChar_3b067_46 : decode cJ2_getChar_3b067 46 = .ok (.aload_n 0, 1) := by decide +kernel
theorem dJ2_getChar_3b067_47 : decode cJ2_getChar_3b067 47 = .ok (.iload_n 1, 1) := by decide +kernel
theorem dJ2_getChar_3b067_48 : decode cJ2_getChar_3b067 48 = .ok (.baload, 1) := by decide +kernel
theorem dJ2_getChar_3b067_49 : decode cJ2_getChar_3b067 49 = .ok (.sipush 255, 3) := by decide +kernel
theorem dJ2_getChar_3b067_52 : decode cJ2_getChar_3b067 52 = .ok (.iand, 1) := by decide +kernel
theorem dJ2_getChar_3b067_53 : decode cJ2_getChar_3b067 53 = .ok (.getstatic 63, 3) := by decide +kernel
theorem dJ2_getChar_3b067_56 : decode cJ2_getChar_3b067 56 = .ok (.ishl, 1) := by decide +kernel
theorem dJ2_getChar_3b067_57 : decode cJ2_getChar_3b067 57 = .ok (.ior, 1) := by decide +kernel
theorem dJ2_getChar_3b067_58 : decode cJ2_getChar_3b067 58 = .ok (.i2c, 1) := by decide +kernel
theorem dJ2_getChar_3b067_59 : decode cJ2_getChar_3b067 59 = .ok (.ireturn, 1) := by decide +kernel
theorem dJ2_length_9d52b_0 : decode cJ2_length_9d52b 0 = .ok (.aload_n 0, 1) := by decide +kernel
theorem dJ2_length_9d52b_1 : decode cJ2_length_9d52b 1 = .ok (.arraylength, 1) := by decide +kernel
theorem dJ2_length_9d52b_2 : decode cJ2_length_9d52b 2 = .ok (.iconst 1, 1) := by decide +kernel
theorem dJ2_length_9d52b_3 : decode cJ2_length_9d52b 3 = .ok (.ishr, 1) := by decide +kernel
theorem dJ2_length_9d52b_4 : decode cJ2_length_9d52b 4 = .ok (.ireturn, 1) := by decide +kernel
theorem dJ2_indexOf_4cfef_0 : decode cJ2_indexOf_4cfef 0 = .ok (.iload_n 2, 1) := by decide +kernel
theorem dJ2_indexOf_4cfef_1 : decode cJ2_indexOf_4cfef 1 = .ok (.iconst 0, 1) := by decide +kernel
theorem dJ2_indexOf_4cfef_2 : decode cJ2_indexOf_4cfef 2 = .ok (.invokestatic 224, 3) := by decide +kernel
theorem dJ2_indexOf_4cfef_5 : decode cJ2_indexOf_4cfef 5 = .ok (.istore_n 2, 1) := by decide +kernel
theorem dJ2_indexOf_4cfef_6 : decode cJ2_indexOf_4cfef 6 = .ok (.iload_n 3, 1) := by decide +kernel
theorem dJ2_indexOf_4cfef_7 : decode cJ2_indexOf_4cfef 7 = .ok (.aload_n 0, 1) := by decide +kernel
theorem dJ2_indexOf_4cfef_8 : decode cJ2_indexOf_4cfef 8 = .ok (.arraylength, 1) := by decide +kernel
theorem dJ2_indexOf_4cfef_9 : decode cJ2_indexOf_4cfef 9 = .ok (.iconst 1, 1) := by decide +kernel
theorem dJ2_indexOf_4cfef_10 : decode cJ2_indexOf_4cfef 10 = .ok (.ishr, 1) := by decide +kernel
theorem dJ2_indexOf_4cfef_11 : decode cJ2_indexOf_4cfef 11 = .ok (.invokestatic 183, 3) := by decide +kernel
theorem dJ2_indexOf_4cfef_14 : decode cJ2_indexOf_4cfef 14 = .ok (.istore_n 3, 1) := by decide +kernel
theorem dJ2_indexOf_4cfef_15 : decode cJ2_indexOf_4cfef 15 = .ok (.iload_n 2, 1) := by decide +kernel
theorem dJ2_indexOf_4cfef_16 : decode cJ2_indexOf_4cfef 16 = .ok (.iload_n 3, 1) := by decide +kernel
theorem dJ2_indexOf_4cfef_17 : decode cJ2_indexOf_4cfef 17 = .ok (.if_icmp .lt 5, 3) := by decide +kernel
theorem dJ2_indexOf_4cfef_20 : decode cJ2_indexOf_4cfef 20 = .ok (.iconst (-1), 1) := by decide +kernel
theorem dJ2_indexOf_4cfef_21 : decode cJ2_indexOf_4cfef 21 = .ok (.ireturn, 1) := by decide +kernel
theorem dJ2_indexOf_4cfef_22 : decode cJ2_indexOf_4cfef 22 = .ok (.iload_n 1, 1) := by decide +kernel
theorem dJ2_indexOf_4cfef_23 : decode cJ2_indexOf_4cfef 23 = .ok (.ldc 227, 2) := by decide +kernel
theorem dJ2_indexOf_4cfef_25 : decode cJ2_indexOf_4cfef 25 = .ok (.if_icmp .ge 11, 3) := by decide +kernel
theorem dJ2_indexOf_4cfef_28 : decode cJ2_indexOf_4cfef 28 = .ok (.aload_n 0, 1) := by decide +kernel
theorem dJ2_indexOf_4cfef_29 : decode cJ2_indexOf_4cfef 29 = .ok (.iload_n 1, 1) := by decide +kernel
theorem dJ2_indexOf_4cfef_30 : decode cJ2_indexOf_4cfef 30 = .ok (.iload_n 2, 1) := by decide +kernel
theorem dJ2_indexOf_4cfef_31 : decode cJ2_indexOf_4cfef 31 = .ok (.iload_n 3, 1) := by decide +kernel
theorem dJ2_indexOf_4cfef_32 : decode cJ2_indexOf_4cfef 32 = .ok (.invokestatic 228, 3) := by decide +kernel
theorem dJ2_indexOf_4cfef_35 : decode cJ2_indexOf_4cfef 35 = .ok (.ireturn, 1) := by decide +kernel
theorem dJ2_indexOf_4cfef_36 : decode cJ2_indexOf_4cfef 36 = .ok (.aload_n 0, 1) := by decide +kernel
theorem dJ2_indexOf_4cfef_37 : decode cJ2_indexOf_4cfef 37 = .ok (.iload_n 1, 1) := by decide +kernel
theorem dJ2_indexOf_4cfef_38 : decode cJ2_indexOf_4cfef 38 = .ok (.iload_n 2, 1) := by decide +kernel
theorem dJ2_indexOf_4cfef_39 : decode cJ2_indexOf_4cfef 39 = .ok (.iload_n 3, 1) := by decide +kernel
theorem dJ2_indexOf_4cfef_40 : decode cJ2_indexOf_4cfef 40 = .ok (.invokestatic 232, 3) := by decide +kernel
theorem dJ2_indexOf_4cfef_43 : decode cJ2_indexOf_4cfef 43 = .ok (.ireturn, 1) := by decide +kernel
theorem dJ2_indexOfChar_4cfef_0 : decode cJ2_indexOfChar_4cfef 0 = .ok (.iload_n 2, 1) := by decide +kernel
theorem dJ2_indexOfChar_4cfef_1 : decode cJ2_indexOfChar_4cfef 1 = .ok (.iload_n 3, 1) := by decide +kernel
theorem dJ2_indexOfChar_4cfef_2 : decode cJ2_indexOfChar_4cfef 2 = .ok (.aload_n 0, 1) := by decide +kernel
theorem dJ2_indexOfChar_4cfef_3 : decode cJ2_indexOfChar_4cfef 3 = .ok (.invokestatic 96, 3) := by decide +kernel
theorem dJ2_indexOfChar_4cfef_6 : decode cJ2_indexOfChar_4cfef 6 = .ok (.aload_n 0, 1) := by decide +kernel
theorem dJ2_indexOfChar_4cfef_7 : decode cJ2_indexOfChar_4cfef 7 = .ok (.iload_n 1, 1) := by decide +kernel
theorem dJ2_indexOfChar_4cfef_8 : decode cJ2_indexOfChar_4cfef 8 = .ok (.iload_n 2, 1) := by decide +kernel
theorem dJ2_indexOfChar_4cfef_9 : decode cJ2_indexOfChar_4cfef 9 = .ok (.iload_n 3, 1) := by decide +kernel
theorem dJ2_indexOfChar_4cfef_10 : decode cJ2_indexOfChar_4cfef 10 = .ok (.invokestatic 244, 3) := by decide +kernel
theorem dJ2_indexOfChar_4cfef_13 : decode cJ2_indexOfChar_4cfef 13 = .ok (.ireturn, 1) := by decide +kernel
theorem dJ2_indexOfCharUnsafe_4cfef_0 : decode cJ2_indexOfCharUnsafe_4cfef 0 = .ok (.iload_n 2, 1) := by decide +kernel
theorem dJ2_indexOfCharUnsafe_4cfef_1 : decode cJ2_indexOfCharUnsafe_4cfef 1 = .ok (.istore 4, 2) := by decide +kernel
theorem dJ2_indexOfCharUnsafe_4cfef_3 : decode cJ2_indexOfCharUnsafe_4cfef 3 = .ok (.iload 4, 2) := by decide +kernel
theorem dJ2_indexOfCharUnsafe_4cfef_5 : decode cJ2_indexOfCharUnsafe_4cfef 5 = .ok (.iload_n 3, 1) := by decide +kernel
theorem dJ2_indexOfCharUnsafe_4cfef_6 : decode cJ2_indexOfCharUnsafe_4cfef 6 = .ok (.if_icmp .ge 22, 3) := by decide +kernel
theorem dJ2_indexOfCharUnsafe_4cfef_9 : decode cJ2_indexOfCharUnsafe_4cfef 9 = .ok (.aload_n 0, 1) := by decide +kernel
theorem dJ2_indexOfCharUnsafe_4cfef_10 : decode cJ2_indexOfCharUnsafe_4cfef 10 = .ok (.iload 4, 2) := by decide +kernel
theorem dJ2_indexOfCharUnsafe_4cfef_12 : decode cJ2_indexOfCharUnsafe_4cfef 12 = .ok (.invokestatic 71, 3) := by decide +kernel
theorem dJ2_indexOfCharUnsafe_4cfef_15 : decode cJ2_indexOfCharUnsafe_4cfef 15 = .ok (.iload_n 1, 1) := by decide +kernel
theorem dJ2_indexOfCharUnsafe_4cfef_16 : decode cJ2_indexOfCharUnsafe_4cfef 16 = .ok (.if_icmp .ne 6, 3) := by decide +kernel
theorem dJ2_indexOfCharUnsafe_4cfef_19 : decode cJ2_indexOfCharUnsafe_4cfef 19 = .ok (.iload 4, 2) := by decide +kernel
theorem dJ2_indexOfCharUnsafe_4cfef_21 : decode cJ2_indexOfCharUnsafe_4cfef 21 = .ok (.ireturn, 1) := by decide +kernel
theorem dJ2_indexOfCharUnsafe_4cfef_22 : decode cJ2_indexOfCharUnsafe_4cfef 22 = .ok (.iinc 4 1, 3) := by decide +kernel
theorem dJ2_indexOfCharUnsafe_4cfef_25 : decode cJ2_indexOfCharUnsafe_4cfef 25 = .ok (.goto (-22), 3) := by decide +kernel
theorem dJ2_indexOfCharUnsafe_4cfef_28 : decode cJ2_indexOfCharUnsafe_4cfef 28 = .ok (.iconst (-1), 1) := by decide +kernel
theorem dJ2_indexOfCharUnsafe_4cfef_29 : decode cJ2_indexOfCharUnsafe_4cfef 29 = .ok (.ireturn, 1) := by decide +kernel
theorem dJ2_indexOfSupplementary_4cfef_0 : decode cJ2_indexOfSupplementary_4cfef 0 = .ok (.iload_n 1, 1) := by decide +kernel
theorem dJ2_indexOfSupplementary_4cfef_1 : decode cJ2_indexOfSupplementary_4cfef 1 = .ok (.invokestatic 164, 3) := by decide +kernel
theorem dJ2_indexOfSupplementary_4cfef_4 : decode cJ2_indexOfSupplementary_4cfef 4 = .ok (.ifCond .eq 65, 3) := by decide +kernel
theorem dJ2_indexOfSupplementary_4cfef_7 : decode cJ2_indexOfSupplementary_4cfef 7 = .ok (.iload_n 1, 1) := by decide +kernel
theorem dJ2_indexOfSupplementary_4cfef_8 : decode cJ2_indexOfSupplementary_4cfef 8 = .ok (.invokestatic 157, 3) := by decide +kernel
theorem dJ2_indexOfSupplementary_4cfef_11 : decode cJ2_indexOfSupplementary_4cfef 11 = .ok (.istore 4, 2) := by decide +kernel
theorem dJ2_indexOfSupplementary_4cfef_13 : decode cJ2_indexOfSupplementary_4cfef 13 = .ok (.iload_n 1, 1) := by decide +kernel
theorem dJ2_indexOfSupplementary_4cfef_14 : decode cJ2_indexOfSupplementary_4cfef 14 = .ok (.invokestatic 161, 3) := by decide +kernel
theorem dJ2_indexOfSupplementary_4cfef_17 : decode cJ2_indexOfSupplementary_4cfef 17 = .ok (.istore 5, 2) := by decide +kernel
theorem dJ2_indexOfSupplementary_4cfef_19 : decode cJ2_indexOfSupplementary_4cfef 19 = .ok (.iload_n 2, 1) := by decide +kernel
theorem dJ2_indexOfSupplementary_4cfef_20 : decode cJ2_indexOfSupplementary_4cfef 20 = .ok (.iload_n 3, 1) := by decide +kernel
theorem dJ2_indexOfSupplementary_4cfef_21 : decode cJ2_indexOfSupplementary_4cfef 21 = .ok (.aload_n 0, 1) := by decide +kernel
theorem dJ2_indexOfSupplementary_4cfef_22 : decode cJ2_indexOfSupplementary_4cfef 22 = .ok (.invokestatic 96, 3) := by decide +kernel
theorem dJ2_indexOfSupplementary_4cfef_25 : decode cJ2_indexOfSupplementary_4cfef 25 = .ok (.iload_n 2, 1) := by decide +kernel
theorem dJ2_indexOfSupplementary_4cfef_26 : decode cJ2_indexOfSupplementary_4cfef 26 = .ok (.istore 6, 2) := by decide +kernel
theorem dJ2_indexOfSupplementary_4cfef_28 : decode cJ2_indexOfSupplementary_4cfef 28 = .ok (.iload 6, 2) := by decide +kernel
theorem dJ2_indexOfSupplementary_4cfef_30 : decode cJ2_indexOfSupplementary_4cfef 30 = .ok (.iload_n 3, 1) := by decide +kernel
theorem dJ2_indexOfSupplementary_4cfef_31 : decode cJ2_indexOfSupplementary_4cfef 31 = .ok (.iconst 1, 1) := by decide +kernel
theorem dJ2_indexOfSupplementary_4cfef_32 : decode cJ2_indexOfSupplementary_4cfef 32 = .ok (.isub, 1) := by decide +kernel
theorem dJ2_indexOfSupplementary_4cfef_33 : decode cJ2_indexOfSupplementary_4cfef 33 = .ok (.if_icmp .ge 36, 3) := by decide +kernel
theorem dJ2_indexOfSupplementary_4cfef_36 : decode cJ2_indexOfSupplementary_4cfef 36 = .ok (.aload_n 0, 1) := by decide +kernel
theorem dJ2_indexOfSupplementary_4cfef_37 : decode cJ2_indexOfSupplementary_4cfef 37 = .ok (.iload 6, 2) := by decide +kernel
theorem dJ2_indexOfSupplementary_4cfef_39 : decode cJ2_indexOfSupplementary_4cfef 39 = .ok (.invokestatic 71, 3) := by decide +kernel
theorem dJ2_indexOfSupplementary_4cfef_42 : decode cJ2_indexOfSupplementary_4cfef 42 = .ok (.iload 4, 2) := by decide +kernel
theorem dJ2_indexOfSupplementary_4cfef_44 : decode cJ2_indexOfSupplementary_4cfef 44 = .ok (.if_icmp .ne 19, 3) := by decide +kernel
theorem dJ2_indexOfSupplementary_4cfef_47 : decode cJ2_indexOfSupplementary_4cfef 47 = .ok (.aload_n 0, 1) := by decide +kernel
theorem dJ2_indexOfSupplementary_4cfef_48 : decode cJ2_indexOfSupplementary_4cfef 48 = .ok (.iload 6, 2) := by decide +kernel
theorem dJ2_indexOfSupplementary_4cfef_50 : decode cJ2_indexOfSupplementary_4cfef 50 = .ok (.iconst 1, 1) := by decide +kernel
theorem dJ2_indexOfSupplementary_4cfef_51 : decode cJ2_indexOfSupplementary_4cfef 51 = .ok (.iadd, 1) := by decide +kernel
theorem dJ2_indexOfSupplementary_4cfef_52 : decode cJ2_indexOfSupplementary_4cfef 52 = .ok (.invokestatic 71, 3) := by decide +kernel
theorem dJ2_indexOfSupplementary_4cfef_55 : decode cJ2_indexOfSupplementary_4cfef 55 = .ok (.iload 5, 2) := by decide +kernel
theorem dJ2_indexOfSupplementary_4cfef_57 : decode cJ2_indexOfSupplementary_4cfef 57 = .ok (.if_icmp .ne 6, 3) := by decide +kernel
theorem dJ2_indexOfSupplementary_4cfef_60 : decode cJ2_indexOfSupplementary_4cfef 60 = .ok (.iload 6, 2) := by decide +kernel
theorem dJ2_indexOfSupplementary_4cfef_62 : decode cJ2_indexOfSupplementary_4cfef 62 = .ok (.ireturn, 1) := by decide +kernel
theorem dJ2_indexOfSupplementary_4cfef_63 : decode cJ2_indexOfSupplementary_4cfef 63 = .ok (.iinc 6 1, 3) := by decide +kernel
theorem dJ2_indexOfSupplementary_4cfef_66 : decode cJ2_indexOfSupplementary_4cfef 66 = .ok (.goto (-38), 3) := by decide +kernel
theorem dJ2_indexOfSupplementary_4cfef_69 : decode cJ2_indexOfSupplementary_4cfef 69 = .ok (.iconst (-1), 1) := by decide +kernel
theorem dJ2_indexOfSupplementary_4cfef_70 : decode cJ2_indexOfSupplementary_4cfef 70 = .ok (.ireturn, 1) := by decide +kernel
theorem dJ2_charAt_3b067_0 : decode cJ2_charAt_3b067 0 = .ok (.iload_n 1, 1) := by decide +kernel
theorem dJ2_charAt_3b067_1 : decode cJ2_charAt_3b067 1 = .ok (.aload_n 0, 1) := by decide +kernel
theorem dJ2_charAt_3b067_2 : decode cJ2_charAt_3b067 2 = .ok (.invokestatic 67, 3) := by decide +kernel
theorem dJ2_charAt_3b067_5 : decode cJ2_charAt_3b067 5 = .ok (.aload_n 0, 1) := by decide +kernel
theorem dJ2_charAt_3b067_6 : decode cJ2_charAt_3b067 6 = .ok (.iload_n 1, 1) := by decide +kernel
theorem dJ2_charAt_3b067_7 : decode cJ2_charAt_3b067 7 = .ok (.invokestatic 71, 3) := by decide +kernel
theorem dJ2_charAt_3b067_10 : decode cJ2_charAt_3b067 10 = .ok (.ireturn, 1) := by decide +kernel
theorem dJ2_checkIndex_2214a_0 : decode cJ2_checkIndex_2214a 0 = .ok (.iload_n 0, 1) := by decide +kernel
theorem dJ2_checkIndex_2214a_1 : decode cJ2_checkIndex_2214a 1 = .ok (.aload_n 1, 1) := by decide +kernel
theorem dJ2_checkIndex_2214a_2 : decode cJ2_checkIndex_2214a 2 = .ok (.invokestatic 48, 3) := by decide +kernel
theorem dJ2_checkIndex_2214a_5 : decode cJ2_checkIndex_2214a 5 = .ok (.invokestatic 414, 3) := by decide +kernel
theorem dJ2_checkIndex_2214a_8 : decode cJ2_checkIndex_2214a 8 = .ok (.return_, 1) := by decide +kernel
theorem dJ2_checkBoundsBeginEnd_d044e_0 : decode cJ2_checkBoundsBeginEnd_d044e 0 = .ok (.iload_n 0, 1) := by decide +kernel
theorem dJ2_checkBoundsBeginEnd_d044e_1 : decode cJ2_checkBoundsBeginEnd_d044e 1 = .ok (.iload_n 1, 1) := by decide +kernel
theorem dJ2_checkBoundsBeginEnd_d044e_2 : decode cJ2_checkBoundsBeginEnd_d044e 2 = .ok (.aload_n 2, 1) := by decide +kernel
theorem dJ2_checkBoundsBeginEnd_d044e_3 : decode cJ2_checkBoundsBeginEnd_d044e 3 = .ok (.invokestatic 48, 3) := by decide +kernel
theorem dJ2_checkBoundsBeginEnd_d044e_6 : decode cJ2_checkBoundsBeginEnd_d044e 6 = .ok (.invokestatic 241, 3) := by decide +kernel
theorem dJ2_checkBoundsBeginEnd_d044e_9 : decode cJ2_checkBoundsBeginEnd_d044e 9 = .ok (.return_, 1) := by decide +kernel
theorem dJ7_fill_d0a16_0 : decode cJ7_fill_d0a16 0 = .ok (.iconst 0, 1) := by decide +kernel
theorem dJ7_fill_d0a16_1 : decode cJ7_fill_d0a16 1 = .ok (.istore_n 3, 1) := by decide +kernel
theorem dJ7_fill_d0a16_2 : decode cJ7_fill_d0a16 2 = .ok (.aload_n 0, 1) := by decide +kernel
theorem dJ7_fill_d0a16_3 : decode cJ7_fill_d0a16 3 = .ok (.arraylength, 1) := by decide +kernel
theorem dJ7_fill_d0a16_4 : decode cJ7_fill_d0a16 4 = .ok (.istore 4, 2) := by decide +kernel
theorem dJ7_fill_d0a16_6 : decode cJ7_fill_d0a16 6 = .ok (.iload_n 3, 1) := by decide +kernel
theorem dJ7_fill_d0a16_7 : decode cJ7_fill_d0a16 7 = .ok (.iload 4, 2) := by decide +kernel
theorem dJ7_fill_d0a16_9 : decode cJ7_fill_d0a16 9 = .ok (.if_icmp .ge 13, 3) := by decide +kernel
theorem dJ7_fill_d0a16_12 : decode cJ7_fill_d0a16 12 = .ok (.aload_n 0, 1) := by decide +kernel
theorem dJ7_fill_d0a16_13 : decode cJ7_fill_d0a16 13 = .ok (.iload_n 3, 1) := by decide +kernel
theorem dJ7_fill_d0a16_14 : decode cJ7_fill_d0a16 14 = .ok (.lload_n 1, 1) := by decide +kernel
theorem dJ7_fill_d0a16_15 : decode cJ7_fill_d0a16 15 = .ok (.lastore, 1) := by decide +kernel
theorem dJ7_fill_d0a16_16 : decode cJ7_fill_d0a16 16 = .ok (.iinc 3 1, 3) := by decide +kernel
theorem dJ7_fill_d0a16_19 : decode cJ7_fill_d0a16 19 = .ok (.goto (-13), 3) := by decide +kernel
theorem dJ7_fill_d0a16_22 : decode cJ7_fill_d0a16 22 = .ok (.return_, 1) := by decide +kernel
theorem dJ7_fill_53178_0 : decode cJ7_fill_53178 0 = .ok (.iconst 0, 1) := by decide +kernel
theorem dJ7_fill_53178_1 : decode cJ7_fill_53178 1 = .ok (.istore_n 2, 1) := by decide +kernel
theorem dJ7_fill_53178_2 : decode cJ7_fill_53178 2 = .ok (.aload_n 0, 1) := by decide +kernel
theorem dJ7_fill_53178_3 : decode cJ7_fill_53178 3 = .ok (.arraylength, 1) := by decide +kernel
theorem dJ7_fill_53178_4 : decode cJ7_fill_53178 4 = .ok (.istore_n 3, 1) := by decide +kernel
theorem dJ7_fill_53178_5 : decode cJ7_fill_53178 5 = .ok (.iload_n 2, 1) := by decide +kernel
theorem dJ7_fill_53178_6 : decode cJ7_fill_53178 6 = .ok (.iload_n 3, 1) := by decide +kernel
theorem dJ7_fill_53178_7 : decode cJ7_fill_53178 7 = .ok (.if_icmp .ge 13, 3) := by decide +kernel
theorem dJ7_fill_53178_10 : decode cJ7_fill_53178 10 = .ok (.aload_n 0, 1) := by decide +kernel
theorem dJ7_fill_53178_11 : decode cJ7_fill_53178 11 = .ok (.iload_n 2, 1) := by decide +kernel
theorem dJ7_fill_53178_12 : decode cJ7_fill_53178 12 = .ok (.iload_n 1, 1) := by decide +kernel
theorem dJ7_fill_53178_13 : decode cJ7_fill_53178 13 = .ok (.iastore, 1) := by decide +kernel
theorem dJ7_fill_53178_14 : decode cJ7_fill_53178 14 = .ok (.iinc 2 1, 3) := by decide +kernel
theorem dJ7_fill_53178_17 : decode cJ7_fill_53178 17 = .ok (.goto (-12), 3) := by decide +kernel
theorem dJ7_fill_53178_20 : decode cJ7_fill_53178 20 = .ok (.return_, 1) := by decide +kernel
theorem dJ7_copyOf_59c91_0 : decode cJ7_copyOf_59c91 0 = .ok (.iload_n 1, 1) := by decide +kernel
theorem dJ7_copyOf_59c91_1 : decode cJ7_copyOf_59c91 1 = .ok (.aload_n 0, 1) := by decide +kernel
theorem dJ7_copyOf_59c91_2 : decode cJ7_copyOf_59c91 2 = .ok (.arraylength, 1) := by decide +kernel
theorem dJ7_copyOf_59c91_3 : decode cJ7_copyOf_59c91 3 = .ok (.if_icmp .ne 11, 3) := by decide +kernel
theorem dJ7_copyOf_59c91_6 : decode cJ7_copyOf_59c91 6 = .ok (.aload_n 0, 1) := by decide +kernel
theorem dJ7_copyOf_59c91_7 : decode cJ7_copyOf_59c91 7 = .ok (.invokevirtual 316, 3) := by decide +kernel
theorem dJ7_copyOf_59c91_10 : decode cJ7_copyOf_59c91 10 = .ok (.checkcast 317, 3) := by decide +kernel
theorem dJ7_copyOf_59c91_13 : decode cJ7_copyOf_59c91 13 = .ok (.areturn, 1) := by decide +kernel
theorem dJ7_copyOf_59c91_14 : decode cJ7_copyOf_59c91 14 = .ok (.iload_n 1, 1) := by decide +kernel
theorem dJ7_copyOf_59c91_15 : decode cJ7_copyOf_59c91 15 = .ok (.newarray .int, 2) := by decide +kernel
theorem dJ7_copyOf_59c91_17 : decode cJ7_copyOf_59c91 17 = .ok (.astore_n 2, 1) := by decide +kernel
theorem dJ7_copyOf_59c91_18 : decode cJ7_copyOf_59c91 18 = .ok (.aload_n 0, 1) := by decide +kernel
theorem dJ7_copyOf_59c91_19 : decode cJ7_copyOf_59c91 19 = .ok (.iconst 0, 1) := by decide +kernel
theorem dJ7_copyOf_59c91_20 : decode cJ7_copyOf_59c91 20 = .ok (.aload_n 2, 1) := by decide +kernel
theorem dJ7_copyOf_59c91_21 : decode cJ7_copyOf_59c91 21 = .ok (.iconst 0, 1) := by decide +kernel
theorem dJ7_copyOf_59c91_22 : decode cJ7_copyOf_59c91 22 = .ok (.aload_n 0, 1) := by decide +kernel
theorem dJ7_copyOf_59c91_23 : decode cJ7_copyOf_59c91 23 = .ok (.arraylength, 1) := by decide +kernel
theorem dJ7_copyOf_59c91_24 : decode cJ7_copyOf_59c91 24 = .ok (.iload_n 1, 1) := by decide +kernel
theorem dJ7_copyOf_59c91_25 : decode cJ7_copyOf_59c91 25 = .ok (.invokestatic 304, 3) := by decide +kernel
theorem dJ7_copyOf_59c91_28 : decode cJ7_copyOf_59c91 28 = .ok (.invokestatic 150, 3) := by decide +kernel
theorem dJ7_copyOf_59c91_31 : decode cJ7_copyOf_59c91 31 = .ok (.aload_n 2, 1) := by decide +kernel
theorem dJ7_copyOf_59c91_32 : decode cJ7_copyOf_59c91 32 = .ok (.areturn, 1) := by decide +kernel
theorem dJ3_checkIndex_8e157_0 : decode cJ3_checkIndex_8e157 0 = .ok (.iload_n 0, 1) := by decide +kernel
theorem dJ3_checkIndex_8e157_1 : decode cJ3_checkIndex_8e157 1 = .ok (.ifCond .lt 8, 3) := by decide +kernel
theorem dJ3_checkIndex_8e157_4 : decode cJ3_checkIndex_8e157 4 = .ok (.iload_n 0, 1) := by decide +kernel
theorem dJ3_checkIndex_8e157_5 : decode cJ3_checkIndex_8e157 5 = .ok (.iload_n 1, 1) := by decide +kernel
theorem dJ3_checkIndex_8e157_6 : decode cJ3_checkIndex_8e157 6 = .ok (.if_icmp .lt 10, 3) := by decide +kernel
theorem dJ3_checkIndex_8e157_9 : decode cJ3_checkIndex_8e157 9 = .ok (.aload_n 2, 1) := by decide +kernel
theorem dJ3_checkIndex_8e157_10 : decode cJ3_checkIndex_8e157 10 = .ok (.iload_n 0, 1) := by decide +kernel
theorem dJ3_checkIndex_8e157_11 : decode cJ3_checkIndex_8e157 11 = .ok (.iload_n 1, 1) := by decide +kernel
theorem dJ3_checkIndex_8e157_12 : decode cJ3_checkIndex_8e157 12 = .ok (.invokestatic 95, 3) := by decide +kernel
theorem dJ3_checkIndex_8e157_15 : decode cJ3_checkIndex_8e157 15 = .ok (.athrow, 1) := by decide +kernel
theorem dJ3_checkIndex_8e157_16 : decode cJ3_checkIndex_8e157 16 = .ok (.iload_n 0, 1) := by decide +kernel
theorem dJ3_checkIndex_8e157_17 : decode cJ3_checkIndex_8e157 17 = .ok (.ireturn, 1) := by decide +kernel
theorem dJ3_checkFromToIndex_8c36e_0 : decode cJ3_checkFromToIndex_8c36e 0 = .ok (.iload_n 0, 1) := by decide +kernel
theorem dJ3_checkFromToIndex_8c36e_1 : decode cJ3_checkFromToIndex_8c36e 1 = .ok (.ifCond .lt 13, 3) := by decide +kernel
theorem dJ3_checkFromToIndex_8c36e_4 : decode cJ3_checkFromToIndex_8c36e 4 = .ok (.iload_n 0, 1) := by decide +kernel
theorem dJ3_checkFromToIndex_8c36e_5 : decode cJ3_checkFromToIndex_8c36e 5 = .ok (.iload_n 1, 1) := by decide +kernel
theorem dJ3_checkFromToIndex_8c36e_6 : decode cJ3_checkFromToIndex_8c36e 6 = .ok (.if_icmp .gt 8, 3) := by decide +kernel
theorem dJ3_checkFromToIndex_8c36e_9 : decode cJ3_checkFromToIndex_8c36e 9 = .ok (.iload_n 1, 1) := by decide +kernel
theorem dJ3_checkFromToIndex_8c36e_10 : decode cJ3_checkFromToIndex_8c36e 10 = .ok (.iload_n 2, 1) := by decide +kernel
theorem dJ3_checkFromToIndex_8c36e_11 : decode cJ3_checkFromToIndex_8c36e 11 = .ok (.if_icmp .le 11, 3) := by decide +kernel
theorem dJ3_checkFromToIndex_8c36e_14 : decode cJ3_checkFromToIndex_8c36e 14 = .ok (.aload_n 3, 1) := by decide +kernel
theorem dJ3_checkFromToIndex_8c36e_15 : decode cJ3_checkFromToIndex_8c36e 15 = .ok (.iload_n 0, 1) := by decide +kernel
theorem dJ3_checkFromToIndex_8c36e_16 : decode cJ3_checkFromToIndex_8c36e 16 = .ok (.iload_n 1, 1) := by decide +kernel
theorem dJ3_checkFromToIndex_8c36e_17 : decode cJ3_checkFromToIndex_8c36e 17 = .ok (.iload_n 2, 1) := by decide +kernel
theorem dJ3_checkFromToIndex_8c36e_18 : decode cJ3_checkFromToIndex_8c36e 18 = .ok (.invokestatic 99, 3) := by decide +kernel
theorem dJ3_checkFromToIndex_8c36e_21 : decode cJ3_checkFromToIndex_8c36e 21 = .ok (.athrow, 1) := by decide +kernel
theorem dJ3_checkFromToIndex_8c36e_22 : decode cJ3_checkFromToIndex_8c36e 22 = .ok (.iload_n 0, 1) := by decide +kernel
theorem dJ3_checkFromToIndex_8c36e_23 : decode cJ3_checkFromToIndex_8c36e 23 = .ok (.ireturn, 1) := by decide +kernel
end
section
-- ===== the abstract machine: places instead of addresses =====
abbrev CL : List vw_C := [(RX0, TX0, 4), (RX1, TX1, 0), (RX2, TX2, 0), (RX3, TX3, 0), (RX4, TX4, 7), (RX5, TX5, 0), (RX6, TX6, 2), (RX7, TX7, 0), (RX8, TX8, 0), (RX9, TX9, 0), (RX10, TX10, 17), (RX11, TX11, 12), (RX12, TX12, 49)]
def tyF (ci : Nat) : Nat → FieldType := match ci with
  | 0 => tyX0
  | 4 => tyX4
  | 6 => tyX6
  | 10 => tyX10
  | 11 => tyX11
  | 12 => tyX12
  | _ => tyX1
def nF (ci : Nat) : Nat := match ci with
  | 0 => 4
  | 4 => 7
  | 6 => 2
  | 10 => 17
  | 11 => 12
  | 12 => 49
  | _ => 0
abbrev Mt : Type := MethodName × ByteArray × Nat × Option FieldType
abbrev Sh : Type := Nat ⊕ (FieldType × Nat)
abbrev Zt : Type := Nat × (Nat → Option Sh) × (Nat → Nat → Option Nat)
abbrev Gt : Type := Nat → Nat → Int32
abbrev Lt : Type := Nat → Nat → Int64
abbrev Lv : Type := List (Nat × Value)
abbrev Qt : Type := Option Value → Zt → Gt → Lt → Prop
def up2 {α : Type} (G : Nat → Nat → α) (k i : Nat) (v : α) : Nat → Nat → α := fun a b => if a = k then (if b = i then v else G a b) else G a b
/-- a value: a reference names a place -/
def cv (ad : Nat → Nat) (v : Value) : Value := match v with
  | .ref k => .ref (ad k)
  | w => w
def cs (ad : Nat → Nat) : List Value → List Value
  | [] => []
  | v :: t => cv ad v :: cs ad t
def fv (ad : Nat → Nat) (ty : FieldType) (Z : Zt) (G : Gt) (L : Lt) (k i : Nat) : Value := match ty with
  | .long => .long (L k i)
  | .object _ => va_rf ((Z.2.2 k i).map ad)
  | .array _ => va_rf ((Z.2.2 k i).map ad)
  | _ => .int (G k i)
def av9 (ad : Nat → Nat) (ty : FieldType) (n : Nat) (Z : Zt) (G : Gt) (L : Lt) (k : Nat) : vp_A := match ty with
  | .long => (n, .inr (.inl (L k)))
  | .object _ => (n, .inr (.inr (.inr (.inr (fun j => (Z.2.2 k j).map ad)))))
  | .array _ => (n, .inr (.inr (.inr (.inr (fun j => (Z.2.2 k j).map ad)))))
  | _ => (n, .inl (G k))
def cellOf (tc : FieldType → ClassId) (ad : Nat → Nat) (Z : Zt) (G : Gt) (L : Lt) (k : Nat) : va_E := match Z.2.1 k with
  | some (.inl ci) => .inr (ci, (List.range (nF ci)).map (fun i => fv ad (tyF ci i) Z G L k i))
  | some (.inr q) => .inl (tc q.1, av9 ad q.1 q.2 Z G L k)
  | none => .inr (0, [])
def cw (tc : FieldType → ClassId) (ad : Nat → Nat) (Z : Zt) (G : Gt) (L : Lt) : va_W := (List.range Z.1).map (fun k => (ad k, cellOf tc ad Z G L k))
def WF (Z : Zt) : Prop := (∀ k, k < Z.1 → (Z.2.1 k).isSome = true) ∧ (∀ k x, Z.2.1 k = some x → k < Z.1) ∧ (∀ k i j, Z.2.2 k i = some j → j < Z.1) ∧ Z.1 ≤ 1000 ∧ (∀ k ci, Z.2.1 k = some (.inl ci) → ci < 13)
def okv (N : Nat) (v : Value) : Prop := match v with
  | .ref k => k < N ∨ 1000 ≤ k
  | _ => True
def okS (N : Nat) : List Value → Prop
  | [] => True
  | v :: t => okv N v ∧ okS N t
def lk : Lv → Nat → Option Value
  | [], _ => none
  | q :: t, j => cond (Nat.beq q.1 j) (some q.2) (lk t j)
def okL (N : Nat) (lv : Lv) : Prop := ∀ j v, lk lv j = some v → okv N v
def LV (ad : Nat → Nat) (ls : Array Slot) (nL : Nat) (lv : Lv) : Prop := ls.size = nL ∧ lv_wf ls ∧ ∀ j v, lk lv j = some v → ls[j]? = some (.val (cv ad v))
def TYS : List FieldType := [.int, .long, .byte, .boolean, .object "FireApologies$Rocket", .array .int, .array .long]
abbrev tyl (tc : FieldType → ClassId) : List (ClassId × FieldType) := [(tc .int, .int), (tc .long, .long), (tc .byte, .byte), (tc .boolean, .boolean), (tc (.object "FireApologies$Rocket"), .object "FireApologies$Rocket"), (tc (.array .int), .array .int), (tc (.array .long), .array .long)]
def AO2 (t : FieldType) (U : State) : Prop := (Cond.arrayOver t).before #[] U = true
def NWm : List (String × Nat × MethodName × String) := [("FireApologies", 13, yX4_init, "FireApologies"), ("FireApologies", 20, yX0_init, "FireApologies"), ("FireApologies", 42, yX5_init, "FireApologies"), ("FireApologies", 45, yX2_init, "FireApologies"), ("FireApologies$Fountain", 3, yX5_init, "FireApologies"), ("FireApologies", 48, yX9_init, "FireApologies"), ("FireApologies$Whistle", 1, yX5_init, "FireApologies"), ("FireApologies", 51, yX3_init, "FireApologies"), ("FireApologies$Frame", 3, yX5_init, "FireApologies"), ("FireApologies", 54, yX1_init, "FireApologies"), ("FireApologies$Cake", 3, yX2_init, "FireApologies"), ("FireApologies", 57, yX8_init, "FireApologies"), ("FireApologies$Wheel", 1, yX9_init, "FireApologies"), ("FireApologies", 60, yX7_init, "FireApologies"), ("FireApologies$Told", 3, yX3_init, "FireApologies"), ("FireApologies$World", 80, yX11_within, "FireApologies")]
def NWc : List (String × String) := [("FireApologies$Fountain", "FireApologies$Rocket"), ("FireApologies$Whistle", "FireApologies$Rocket"), ("FireApologies$Frame", "FireApologies$Rocket"), ("FireApologies$Cake", "FireApologies$Rocket"), ("FireApologies$Wheel", "FireApologies$Rocket"), ("FireApologies$Told", "FireApologies$Rocket")]
def STR : List (String × Nat × String × Nat) := [("FireApologies$Reader", 55, "bright ", 0), ("FireApologies$Reader", 61, "ry ", 1), ("FireApologies$Reader", 69, "im ", 2), ("FireApologies$Reader", 84, "pkvswm", 3), ("FireApologiesModel", 208, "bright ", 0), ("FireApologiesModel", 214, "dim ", 4), ("FireApologiesModel", 216, "dry ", 5), ("FireApologiesModel", 177, "pkvswm", 3), ("FireApologiesModel", 182, "<=>", 6)]
def sLen : List Nat := [7, 3, 3, 6, 4, 4, 3]
def sByt : List (List Int32) := [[98, 114, 105, 103, 104, 116, 32], [114, 121, 32], [105, 109, 32], [112, 107, 118, 115, 119, 109], [100, 105, 109, 32], [100, 114, 121, 32], [60, 61, 62]]
def tAbove : List Int32 := [-1, 0, 0, 0, 1, 2, 3]
/-- what stands outside the places: string constants, static fields -/
def SF (ad : Nat → Nat) (A : Nat → Prop) (s : State) : Prop :=
  vk_S 7 sLen sByt (fun i => ad (1000 + i)) (fun i => ad (1100 + i)) A s s.heap ∧ (∀ q ∈ STR, vk_R q.1 q.2.1 q.2.2.1 (ad (1000 + q.2.2.2)) s) ∧
  va_Z "FireApologies" "ABOVE" "[I" (.ref (ad 2000)) A s s.heap ∧ va_T .int (ad 2000) 7 (fun j => .int (tAbove.getD j 0)) A s s.heap ∧
  va_Z "java/lang/String" "COMPACT_STRINGS" "Z" (.int 1) A s s.heap ∧ (∀ q ∈ NWm, va_Nw (.methodLinkNest q.1 q.2.1 q.2.2.1 q.2.2.2) s) ∧ (∀ q ∈ NWc, va_Nw (.castable q.1 q.2) s) ∧ va_AO "FireApologies$Rocket" s ∧ AO2 (.array .int) s ∧ AO2 (.array .long) s
/-- the law's script -/
def SX (X : Option (Nat × (Nat → Int32))) (ad : Nat → Nat) (A : Nat → Prop) (s : State) : Prop := match X with
  | none => True
  | some q => va_X (ad 3000) q.1 q.2 s s.heap ∧ ad 3000 < s.heap.size ∧ ¬ A (ad 3000)
def Cx (M : Mt) (d mc ms : Nat) (p : Program) (R : Room) (s : State) (m : MethodId) (args : Array Value) (meth : Method) (c : Code) : Prop :=
  p.tables.exec = Jvm.exec ∧ c.code = M.2.1 ∧ c.maxLocals = M.2.2.1 ∧ meth.sig.returnType = M.2.2.2 ∧ s.vm.findClass M.1.cls = some m.cls ∧ (∀ w ∈ TB, w.before args s = true) ∧ meth.locks = false ∧ meth.name = M.1.name ∧ d ≤ R.frames ∧ 64 * d ≤ R.locals ∧ mc ≤ R.cells ∧ ms ≤ R.slots
def Wd (X : Option (Nat × (Nat → Int32))) (dC : Nat → ClassId) (dI : Nat → Nat → Nat) (tc : FieldType → ClassId) (ad : Nat → Nat) (A : Nat → Prop) (Z : Zt) (G : Gt) (L : Lt) (s : State) (H : Heap) (locs : List Loc) : Prop :=
  va_K (dC, dI) CL (tyl tc) s ∧ va_P (dC, dI) CL (cw tc ad Z G L) H ∧ va_D A (cw tc ad Z G L) ∧ va_S A s.heap H locs ∧ (∀ q, s.heap.size ≤ q → A q) ∧ SF ad A s ∧ SX X ad A s ∧ WF Z
def Ag (N : Nat) (ad0 ad : Nat → Nat) : Prop := ∀ k, k < N ∨ 1000 ≤ k → ad k = ad0 k
def RI (M : Mt) (pc : Nat) (r : Option Value) : Prop := match r with
  | none => decode M.2.1 pc = .ok (.return_, 1) ∧ M.2.2.2 = none
  | some (.int v) => decode M.2.1 pc = .ok (.ireturn, 1) ∧ ∃ ty, M.2.2.2 = some ty ∧ narrow ty (.int v) = .int v
  | some (.long _) => decode M.2.1 pc = .ok (.lreturn, 1) ∧ M.2.2.2 = some .long
  | some (.ref _) => decode M.2.1 pc = .ok (.areturn, 1) ∧ ∃ rt, M.2.2.2 = some rt ∧ ((∃ n, rt = .object n) ∨ ∃ t, rt = .array t)
  | _ => False
def Rt (X : Option (Nat × (Nat → Int32))) (M : Mt) (mc ms : Nat) (Q : Qt) (p : Program) (l : Launch) (e : Env) (R : Room) (s : State) (m : MethodId) (args : Array Value) (below : List Frame) (meth : Method) (c : Code) (dC : Nat → ClassId) (dI : Nat → Nat → Nat) (tc : FieldType → ClassId) (A : Nat → Prop) (N0 : Nat) (ad0 : Nat → Nat) (Qr : State → Prop) : Prop :=
  ∀ (r : Option Value) (Z : Zt) (G : Gt) (L : Lt) (ad : Nat → Nat) (H : Heap) (locs : List Loc) (pc : Nat) (ls : Array Slot), Q r Z G L → Wd X dC dI tc ad A Z G L s H locs → (∀ v, r = some v → okv Z.1 v) → Ag N0 ad0 ad → N0 ≤ Z.1 → RI M pc r → W p l e R s m args below meth c H locs mc ms Qr (F0 m pc ls (cs ad r.toList))
/-- THE ABSTRACT JUDGEMENT: from this pc, these locals, this stack, these contents, method M comes to its end with Q -/
def AX (X : Option (Nat × (Nat → Int32))) (M : Mt) (d mc ms cu su pc : Nat) (lv : Lv) (st : List Value) (Z : Zt) (G : Gt) (L : Lt) (Q : Qt) : Prop :=
  ∀ (p : Program) (l : Launch) (e : Env) (R : Room) (s : State) (m : MethodId) (args : Array Value) (below : List Frame) (meth : Method) (c : Code) (H : Heap) (locs : List Loc) (ls : Array Slot) (dC : Nat → ClassId) (dI : Nat → Nat → Nat) (tc : FieldType → ClassId) (ad : Nat → Nat) (A : Nat → Prop) (N0 : Nat) (ad0 : Nat → Nat) (Qr : State → Prop),
    Cx M d mc ms p R s m args meth c → Wd X dC dI tc ad A Z G L s H locs → okL Z.1 lv → okS Z.1 st → LV ad ls M.2.2.1 lv → Ag N0 ad0 ad → N0 ≤ Z.1 → Rt X M mc ms Q p l e R s m args below meth c dC dI tc A N0 ad0 Qr →
    W p l e R s m args below meth c H locs cu su Qr (F0 m pc ls (cs ad st))
/-- a method's start and end, for a caller -/
def Pcx (dC : Nat → ClassId) (dI : Nat → Nat → Nat) (tc : FieldType → ClassId) (ad : Nat → Nat) (sz : Nat) (av : List Value) (Z : Zt) (G : Gt) (L : Lt) : Array Value → State → Prop :=
  va_Pc (cs ad av) (fun U => U.heap.size = sz ∧ va_K (dC, dI) CL (tyl tc) U ∧ va_P (dC, dI) CL (cw tc ad Z G L) U.heap ∧ va_D (fun _ => True) (cw tc ad Z G L) ∧ SF ad (va_A (cw tc ad Z G L) sz) U ∧ WF Z ∧ okS Z.1 av)
def Qcx (dC : Nat → ClassId) (dI : Nat → Nat → Nat) (tc : FieldType → ClassId) (ad : Nat → Nat) (sz : Nat) (Z : Zt) (G : Gt) (L : Lt) (Q : Qt) : Array Value → State → Outcome → State → Prop := fun _ st oc t =>
  (∃ (r : Option Value) (Z' : Zt) (G' : Gt) (L' : Lt) (ad' : Nat → Nat), oc = .returned (r.map (cv ad')) ∧ Q r Z' G' L' ∧ Ag Z.1 ad ad' ∧ Z.1 ≤ Z'.1 ∧ (∀ v, r = some v → okv Z'.1 v) ∧ WF Z' ∧ va_P (dC, dI) CL (cw tc ad' Z' G' L') t.heap ∧ va_D (va_A (cw tc ad Z G L) sz) (cw tc ad' Z' G' L')) ∧ va_F (va_A (cw tc ad Z G L) sz) st t
abbrev rmx (d mc ms : Nat) : Room := { frames := d, cells := mc, slots := ms, locals := 64 * d }
abbrev CW (M : Mt) : Cond := .code M.1 M.2.1 M.2.2.1 M.2.2.2
abbrev wsx (M : Mt) : List Cond := CW M :: TB
def AC (M : Mt) (d mc ms : Nat) (av : List Value) (Z : Zt) (G : Gt) (L : Lt) (Q : Qt) : Prop :=
  ∀ (l : Launch) (dC : Nat → ClassId) (dI : Nat → Nat → Nat) (tc : FieldType → ClassId) (ad : Nat → Nat) (sz : Nat), Met l M.1 (wsx M) (rmx d mc ms) (Pcx dC dI tc ad sz av Z G L) (Qcx dC dI tc ad sz Z G L Q) mc ms (va_A (cw tc ad Z G L) sz)
end
section
-- ===== rows of the abstract machine: stack, locals, numbers, branches =====
theorem cs_len (ad : Nat → Nat) : ∀ st : List Value, (cs ad st).length = st.length
  | [] => rfl
  | _ :: t => congrArg Nat.succ (cs_len ad t)
theorem cs_app (ad : Nat → Nat) : ∀ a b : List Value, cs ad (a ++ b) = cs ad a ++ cs ad b
  | [], _ => rfl
  | v :: t, b => congrArg (cv ad v :: ·) (cs_app ad t b)
theorem cs_rev (ad : Nat → Nat) : ∀ a : List Value, cs ad a.reverse = (cs ad a).reverse
  | [] => rfl
  | v :: t => by rw [List.reverse_cons, cs_app, cs_rev ad t]; show _ = (cv ad v :: cs ad t).reverse; rw [List.reverse_cons]; rfl
theorem cv_cat (ad : Nat → Nat) (v : Value) : (cv ad v).category = v.category := by cases v <;> rfl
theorem cs_cat (ad : Nat → Nat) : ∀ st : List Value, ((cs ad st).map fun v => v.category) = st.map fun v => v.category
  | [] => rfl
  | v :: t => by show (cv ad v).category :: _ = v.category :: _; rw [cv_cat, cs_cat ad t]
theorem okS_app {N : Nat} : ∀ {a b : List Value}, okS N (a ++ b) ↔ okS N a ∧ okS N b
  | [], _ => ⟨fun h => ⟨trivial, h⟩, fun h => h.2⟩
  | v :: t, b => by
    show okv N v ∧ okS N (t ++ b) ↔ (okv N v ∧ okS N t) ∧ okS N b
    rw [okS_app (a := t)]
    exact ⟨fun h => ⟨⟨h.1, h.2.1⟩, h.2.2⟩, fun h => ⟨h.1.1, h.1.2, h.2⟩⟩
theorem okS_rev {N : Nat} : ∀ {a : List Value}, okS N a → okS N a.reverse
  | [], _ => trivial
  | v :: t, h => by rw [List.reverse_cons]; exact okS_app.mpr ⟨okS_rev h.2, h.1, trivial⟩
theorem okS_rev' {N : Nat} {a : List Value} (h : okS N a.reverse) : okS N a := by have := okS_rev h; rwa [List.reverse_reverse] at this
theorem okv_mono {N N' : Nat} (h : N ≤ N') {v : Value} (hv : okv N v) : okv N' v := by
  cases v <;> first | exact trivial | exact hv.elim (fun q => Or.inl (Nat.lt_of_lt_of_le q h)) Or.inr
theorem okS_mono {N N' : Nat} (h : N ≤ N') : ∀ {st : List Value}, okS N st → okS N' st
  | [], _ => trivial
  | _ :: _, hs => ⟨okv_mono h hs.1, okS_mono h hs.2⟩
theorem okL_mono {N N' : Nat} (h : N ≤ N') {lv : Lv} (hl : okL N lv) : okL N' lv := fun j v q => okv_mono h (hl j v q)
theorem cv_ag {N : Nat} {ad ad' : Nat → Nat} (h : Ag N ad ad') {v : Value} (hv : okv N v) : cv ad' v = cv ad v := by
  cases v <;> first | rfl | exact congrArg Value.ref (h _ hv)
theorem cs_ag {N : Nat} {ad ad' : Nat → Nat} (h : Ag N ad ad') : ∀ {st : List Value}, okS N st → cs ad' st = cs ad st
  | [], _ => rfl
  | v :: t, hs => by show cv ad' v :: cs ad' t = cv ad v :: cs ad t; rw [cv_ag h hs.1, cs_ag h hs.2]
theorem LV_ag {N nL : Nat} {ad ad' : Nat → Nat} {ls : Array Slot} {lv : Lv} (h : Ag N ad ad') (hl : okL N lv) (hv : LV ad ls nL lv) : LV ad' ls nL lv := ⟨hv.1, hv.2.1, fun j v q => by rw [cv_ag h (hl j v q)]; exact hv.2.2 j v q⟩
theorem Ag_tr {N N' : Nat} {a b c : Nat → Nat} (hN : N ≤ N') (h1 : Ag N a b) (h2 : Ag N' b c) : Ag N a c := fun k q => (h2 k (q.imp (fun z => Nat.lt_of_lt_of_le z hN) id)).trans (h1 k q)
theorem Ag_rf {N : Nat} {a : Nat → Nat} : Ag N a a := fun _ _ => rfl
def n2 (lv : Lv) (i : Nat) : Bool := match i with
  | 0 => true
  | i + 1 => match lk lv i with
    | some v => !(v.category == 2)
    | none => true
def subl (lv : Lv) : Lv → Prop
  | [] => True
  | q :: t => lk lv q.1 = some q.2 ∧ subl lv t
theorem subl_at {lv : Lv} : ∀ {l2 : Lv}, subl lv l2 → ∀ j v, lk l2 j = some v → lk lv j = some v
  | [], _, j, v, h => by cases h
  | q :: t, hs, j, v, h => by
    unfold lk at h
    cases e : Nat.beq q.1 j with
    | true =>
      rw [e] at h
      have e2 := Nat.eq_of_beq_eq_true e
      cases h
      rw [← e2]
      exact hs.1
    | false =>
      rw [e] at h
      exact subl_at hs.2 j v h
theorem lk_dom : ∀ {lv : Lv} {j : Nat} {v : Value}, lk lv j = some v → j ∈ lv.map (·.1)
  | [], _, _, h => by cases h
  | q :: t, j, v, h => by
    unfold lk at h
    cases e : Nat.beq q.1 j with
    | true => rw [← Nat.eq_of_beq_eq_true e]; exact List.mem_cons_self
    | false => rw [e] at h; exact List.mem_cons_of_mem _ (lk_dom h)
def dd (ad : Nat → Nat) (lv : Lv) : Lv := (lv.map (·.1)).filterMap (fun j => (lk lv j).map (fun v => (j, cv ad v)))
theorem dd_has {ad : Nat → Nat} {ls : Array Slot} {nL : Nat} {lv : Lv} (h : LV ad ls nL lv) : lv_has ls nL (dd ad lv) := by
  refine ⟨h.1, h.2.1, fun q hq => ?_⟩
  obtain ⟨j, -, hj⟩ := List.mem_filterMap.mp hq
  cases e : lk lv j with
  | none => rw [e] at hj; cases hj
  | some v => rw [e] at hj; cases hj; exact h.2.2 j v e
theorem dd_mem {ad : Nat → Nat} {lv : Lv} {j : Nat} {v : Value} (h : lk lv j = some v) : (j, cv ad v) ∈ dd ad lv := List.mem_filterMap.mpr ⟨j, lk_dom h, by rw [h]; rfl⟩
theorem LV_st1 {ad : Nat → Nat} {ls' : Array Slot} {nL i : Nat} {lv : Lv} {x : Value} (h2 : n2 lv i = true) (h : lv_has ls' nL ((i, cv ad x) :: (dd ad lv).filter (fun q => !(q.1 == i) && !(q.1 + 1 == i && q.2.category == 2)))) : LV ad ls' nL ((i, x) :: lv) := by
  refine ⟨h.1, h.2.1, fun j v q => ?_⟩
  unfold lk at q
  cases e : Nat.beq i j with
  | true =>
    rw [show Nat.beq (i, x).1 j = true from e] at q
    cases q
    rw [← Nat.eq_of_beq_eq_true e]
    exact h.2.2 (i, cv ad x) List.mem_cons_self
  | false =>
    rw [show Nat.beq (i, x).1 j = false from e] at q
    have hne : ¬ j = i := fun z => by rw [z, Nat.beq_refl] at e; cases e
    refine h.2.2 (j, cv ad v) (List.mem_cons_of_mem _ (List.mem_filter.mpr ⟨dd_mem q, ?_⟩))
    rw [Bool.and_eq_true]
    refine ⟨by simp [hne], ?_⟩
    by_cases h3 : j + 1 = i
    · subst h3
      have h4 : (match lk lv j with | some v => !(v.category == 2) | none => true) = true := h2
      rw [show lk lv j = some v from q] at h4
      simp only [cv_cat]
      have h5 : (!(v.category == 2)) = true := h4
      simp at h5 ⊢
      exact h5
    · simp [h3]
theorem okL_cons {N i : Nat} {lv : Lv} {x : Value} (h : okL N lv) (hx : okv N x) : okL N ((i, x) :: lv) := by
  intro j v q
  unfold lk at q
  cases e : Nat.beq i j with
  | true => rw [show Nat.beq (i, x).1 j = true from e] at q; cases q; exact hx
  | false => rw [show Nat.beq (i, x).1 j = false from e] at q; exact h j v q
section AXR
variable {X : Option (Nat × (Nat → Int32))} {M : Mt} {d mc ms cu su pc : Nat} {lv : Lv} {st : List Value} {Z : Zt} {G : Gt} {L : Lt} {Q : Qt}

theorem ax_iconst {n : Int} {v : Int32} (hd : decode M.2.1 pc = .ok (.iconst n, 1)) (hv1 : Int32.ofInt n = v) (k : AX X M d mc ms cu su (pc + 1) lv (.int v :: st) Z G L Q) : AX X M d mc ms cu su pc lv st Z G L Q := by
  intro p l e R s m args below meth c H locs ls dC dI tc ad A N0 ad0 Qr hC hW hl hs hv hg hn hr
  exact lv_iconst hC.1 hC.2.1 hd hv1 (k p l e R s m args below meth c H locs ls dC dI tc ad A N0 ad0 Qr hC hW hl ⟨trivial, hs⟩ hv hg hn hr)
theorem ax_bipush {n : Int} {v : Int32} (hd : decode M.2.1 pc = .ok (.bipush n, 2)) (hv1 : (Int8.ofInt n).toInt32 = v) (k : AX X M d mc ms cu su (pc + 2) lv (.int v :: st) Z G L Q) : AX X M d mc ms cu su pc lv st Z G L Q := by
  intro p l e R s m args below meth c H locs ls dC dI tc ad A N0 ad0 Qr hC hW hl hs hv hg hn hr
  exact lv_bipush hC.1 hC.2.1 hd hv1 (k p l e R s m args below meth c H locs ls dC dI tc ad A N0 ad0 Qr hC hW hl ⟨trivial, hs⟩ hv hg hn hr)
theorem ax_sipush {n : Int} {v : Int32} (hd : decode M.2.1 pc = .ok (.sipush n, 3)) (hv1 : (Int16.ofInt n).toInt32 = v) (k : AX X M d mc ms cu su (pc + 3) lv (.int v :: st) Z G L Q) : AX X M d mc ms cu su pc lv st Z G L Q := by
  intro p l e R s m args below meth c H locs ls dC dI tc ad A N0 ad0 Qr hC hW hl hs hv hg hn hr
  exact lv_sipush hC.1 hC.2.1 hd hv1 (k p l e R s m args below meth c H locs ls dC dI tc ad A N0 ad0 Qr hC hW hl ⟨trivial, hs⟩ hv hg hn hr)
theorem ax_lconst {n : Fin 2} {v : Int64} (hd : decode M.2.1 pc = .ok (.lconst n, 1)) (hv1 : Int64.ofNat (n : Nat) = v) (k : AX X M d mc ms cu su (pc + 1) lv (.long v :: st) Z G L Q) : AX X M d mc ms cu su pc lv st Z G L Q := by
  intro p l e R s m args below meth c H locs ls dC dI tc ad A N0 ad0 Qr hC hW hl hs hv hg hn hr
  exact lv_lconst hC.1 hC.2.1 hd hv1 (k p l e R s m args below meth c H locs ls dC dI tc ad A N0 ad0 Qr hC hW hl ⟨trivial, hs⟩ hv hg hn hr)
theorem ax_ldc {idx : Nat} {v : Int32} (hd : decode M.2.1 pc = .ok (.ldc idx, 2)) (hw : Cond.constant M.1.cls idx v ∈ TB) (k : AX X M d mc ms cu su (pc + 2) lv (.int v :: st) Z G L Q) : AX X M d mc ms cu su pc lv st Z G L Q := by
  intro p l e R s m args below meth c H locs ls dC dI tc ad A N0 ad0 Qr hC hW hl hs hv hg hn hr
  exact lv_ldc hC.1 hC.2.1 hC.2.2.2.2.1 (hC.2.2.2.2.2.1 _ hw) hd (k p l e R s m args below meth c H locs ls dC dI tc ad A N0 ad0 Qr hC hW hl ⟨trivial, hs⟩ hv hg hn hr)
theorem ax_ldc2 {idx : Nat} {v : Int64} (hd : decode M.2.1 pc = .ok (.ldc2_w idx, 3)) (hw : Cond.constantLong M.1.cls idx v ∈ TB) (k : AX X M d mc ms cu su (pc + 3) lv (.long v :: st) Z G L Q) : AX X M d mc ms cu su pc lv st Z G L Q := by
  intro p l e R s m args below meth c H locs ls dC dI tc ad A N0 ad0 Qr hC hW hl hs hv hg hn hr
  exact lv_ldc2 hC.1 hC.2.1 hC.2.2.2.2.1 (hC.2.2.2.2.2.1 _ hw) hd (k p l e R s m args below meth c H locs ls dC dI tc ad A N0 ad0 Qr hC hW hl ⟨trivial, hs⟩ hv hg hn hr)
theorem ax_iload_n {k : Fin 4} {i : Nat} {x : Int32} (hd : decode M.2.1 pc = .ok (.iload_n k, 1)) (hi : (k : Nat) = i) (h1 : lk lv i = some (.int x)) (kk : AX X M d mc ms cu su (pc + 1) lv (.int x :: st) Z G L Q) : AX X M d mc ms cu su pc lv st Z G L Q := by
  intro p l e R s m args below meth c H locs ls dC dI tc ad A N0 ad0 Qr hC hW hl hs hv hg hn hr
  exact lv_iload_n hC.1 hC.2.1 hd hi (hv.2.2 i _ h1) (kk p l e R s m args below meth c H locs ls dC dI tc ad A N0 ad0 Qr hC hW hl ⟨trivial, hs⟩ hv hg hn hr)
theorem ax_iload {i : Nat} {x : Int32} (hd : decode M.2.1 pc = .ok (.iload i, 2)) (h1 : lk lv i = some (.int x)) (kk : AX X M d mc ms cu su (pc + 2) lv (.int x :: st) Z G L Q) : AX X M d mc ms cu su pc lv st Z G L Q := by
  intro p l e R s m args below meth c H locs ls dC dI tc ad A N0 ad0 Qr hC hW hl hs hv hg hn hr
  exact lv_iload hC.1 hC.2.1 hd (hv.2.2 i _ h1) (kk p l e R s m args below meth c H locs ls dC dI tc ad A N0 ad0 Qr hC hW hl ⟨trivial, hs⟩ hv hg hn hr)
theorem ax_lload_n {k : Fin 4} {i : Nat} {x : Int64} (hd : decode M.2.1 pc = .ok (.lload_n k, 1)) (hi : (k : Nat) = i) (h1 : lk lv i = some (.long x)) (kk : AX X M d mc ms cu su (pc + 1) lv (.long x :: st) Z G L Q) : AX X M d mc ms cu su pc lv st Z G L Q := by
  intro p l e R s m args below meth c H locs ls dC dI tc ad A N0 ad0 Qr hC hW hl hs hv hg hn hr
  exact lv_lload_n hC.1 hC.2.1 hd hi (hv.2.2 i _ h1) (kk p l e R s m args below meth c H locs ls dC dI tc ad A N0 ad0 Qr hC hW hl ⟨trivial, hs⟩ hv hg hn hr)
theorem ax_lload {i : Nat} {x : Int64} (hd : decode M.2.1 pc = .ok (.lload i, 2)) (h1 : lk lv i = some (.long x)) (kk : AX X M d mc ms cu su (pc + 2) lv (.long x :: st) Z G L Q) : AX X M d mc ms cu su pc lv st Z G L Q := by
  intro p l e R s m args below meth c H locs ls dC dI tc ad A N0 ad0 Qr hC hW hl hs hv hg hn hr
  exact lv_lload hC.1 hC.2.1 hd (hv.2.2 i _ h1) (kk p l e R s m args below meth c H locs ls dC dI tc ad A N0 ad0 Qr hC hW hl ⟨trivial, hs⟩ hv hg hn hr)
theorem ax_aload_n {k : Fin 4} {i : Nat} {x : Nat} (hd : decode M.2.1 pc = .ok (.aload_n k, 1)) (hi : (k : Nat) = i) (h1 : lk lv i = some (.ref x)) (kk : AX X M d mc ms cu su (pc + 1) lv (.ref x :: st) Z G L Q) : AX X M d mc ms cu su pc lv st Z G L Q := by
  intro p l e R s m args below meth c H locs ls dC dI tc ad A N0 ad0 Qr hC hW hl hs hv hg hn hr
  exact lv_aload_n hC.1 hC.2.1 hd hi (hv.2.2 i _ h1) (kk p l e R s m args below meth c H locs ls dC dI tc ad A N0 ad0 Qr hC hW hl ⟨hl i _ h1, hs⟩ hv hg hn hr)
theorem ax_aload {i : Nat} {x : Nat} (hd : decode M.2.1 pc = .ok (.aload i, 2)) (h1 : lk lv i = some (.ref x)) (kk : AX X M d mc ms cu su (pc + 2) lv (.ref x :: st) Z G L Q) : AX X M d mc ms cu su pc lv st Z G L Q := by
  intro p l e R s m args below meth c H locs ls dC dI tc ad A N0 ad0 Qr hC hW hl hs hv hg hn hr
  exact lv_aload hC.1 hC.2.1 hd (hv.2.2 i _ h1) (kk p l e R s m args below meth c H locs ls dC dI tc ad A N0 ad0 Qr hC hW hl ⟨hl i _ h1, hs⟩ hv hg hn hr)
theorem ax_istore_n {k : Fin 4} {i : Nat} {x : Int32} (hd : decode M.2.1 pc = .ok (.istore_n k, 1)) (hi : (k : Nat) = i) (h1 : i < M.2.2.1) (h2 : n2 lv i = true) (kk : AX X M d mc ms cu su (pc + 1) ((i, .int x) :: lv) st Z G L Q) : AX X M d mc ms cu su pc lv (.int x :: st) Z G L Q := by
  intro p l e R s m args below meth c H locs ls dC dI tc ad A N0 ad0 Qr hC hW hl hs hv hg hn hr
  exact lv_istore_n hC.1 hC.2.1 hd hi (dd_has hv) h1 rfl (fun ls' h9 => (kk p l e R s m args below meth c H locs ls' dC dI tc ad A N0 ad0 Qr hC hW (okL_cons hl hs.1) hs.2 (LV_st1 h2 h9) hg hn hr))
theorem ax_istore  {i : Nat} {x : Int32} (hd : decode M.2.1 pc = .ok (.istore i, 2))  (h1 : i < M.2.2.1) (h2 : n2 lv i = true) (kk : AX X M d mc ms cu su (pc + 2) ((i, .int x) :: lv) st Z G L Q) : AX X M d mc ms cu su pc lv (.int x :: st) Z G L Q := by
  intro p l e R s m args below meth c H locs ls dC dI tc ad A N0 ad0 Qr hC hW hl hs hv hg hn hr
  exact lv_istore hC.1 hC.2.1 hd  (dd_has hv) h1 rfl (fun ls' h9 => (kk p l e R s m args below meth c H locs ls' dC dI tc ad A N0 ad0 Qr hC hW (okL_cons hl hs.1) hs.2 (LV_st1 h2 h9) hg hn hr))
theorem ax_astore_n {k : Fin 4} {i : Nat} {x : Nat} (hd : decode M.2.1 pc = .ok (.astore_n k, 1)) (hi : (k : Nat) = i) (h1 : i < M.2.2.1) (h2 : n2 lv i = true) (kk : AX X M d mc ms cu su (pc + 1) ((i, .ref x) :: lv) st Z G L Q) : AX X M d mc ms cu su pc lv (.ref x :: st) Z G L Q := by
  intro p l e R s m args below meth c H locs ls dC dI tc ad A N0 ad0 Qr hC hW hl hs hv hg hn hr
  exact lv_astore_n hC.1 hC.2.1 hd hi (dd_has hv) h1 rfl (fun ls' h9 => (kk p l e R s m args below meth c H locs ls' dC dI tc ad A N0 ad0 Qr hC hW (okL_cons hl hs.1) hs.2 (LV_st1 h2 h9) hg hn hr))
theorem ax_astore  {i : Nat} {x : Nat} (hd : decode M.2.1 pc = .ok (.astore i, 2))  (h1 : i < M.2.2.1) (h2 : n2 lv i = true) (kk : AX X M d mc ms cu su (pc + 2) ((i, .ref x) :: lv) st Z G L Q) : AX X M d mc ms cu su pc lv (.ref x :: st) Z G L Q := by
  intro p l e R s m args below meth c H locs ls dC dI tc ad A N0 ad0 Qr hC hW hl hs hv hg hn hr
  exact lv_astore hC.1 hC.2.1 hd  (dd_has hv) h1 rfl (fun ls' h9 => (kk p l e R s m args below meth c H locs ls' dC dI tc ad A N0 ad0 Qr hC hW (okL_cons hl hs.1) hs.2 (LV_st1 h2 h9) hg hn hr))
theorem LV_st2 {ad : Nat → Nat} {ls' : Array Slot} {nL i : Nat} {lv : Lv} {x : Value} (h2 : n2 lv i = true) (h3 : lk lv (i + 1) = none) (h : lv_has ls' nL ((i, cv ad x) :: (dd ad lv).filter (fun q => !(q.1 == i) && (!(q.1 == i + 1) && !(q.1 + 1 == i && q.2.category == 2))))) : LV ad ls' nL ((i, x) :: lv) := by
  refine ⟨h.1, h.2.1, fun j v q => ?_⟩
  unfold lk at q
  cases e : Nat.beq i j with
  | true =>
    rw [show Nat.beq (i, x).1 j = true from e] at q
    cases q
    rw [← Nat.eq_of_beq_eq_true e]
    exact h.2.2 (i, cv ad x) List.mem_cons_self
  | false =>
    rw [show Nat.beq (i, x).1 j = false from e] at q
    have hne : ¬ j = i := fun z => by rw [z, Nat.beq_refl] at e; cases e
    have hne2 : ¬ j = i + 1 := fun z => by rw [z] at q; cases (show lk lv (i + 1) = some v from q).symm.trans h3
    refine h.2.2 (j, cv ad v) (List.mem_cons_of_mem _ (List.mem_filter.mpr ⟨dd_mem q, ?_⟩))
    rw [Bool.and_eq_true, Bool.and_eq_true]
    refine ⟨by simp [hne], by simp [hne2], ?_⟩
    by_cases h3 : j + 1 = i
    · subst h3
      have h4 : (match lk lv j with | some v => !(v.category == 2) | none => true) = true := h2
      rw [show lk lv j = some v from q] at h4
      simp only [cv_cat]
      have h5 : (!(v.category == 2)) = true := h4
      simp at h5 ⊢
      exact h5
    · simp [h3]
theorem ax_lstore_n {k : Fin 4} {i : Nat} {x : Int64} (hd : decode M.2.1 pc = .ok (.lstore_n k, 1)) (hi : (k : Nat) = i) (h1 : i + 1 < M.2.2.1) (h2 : n2 lv i = true) (h3 : lk lv (i + 1) = none) (kk : AX X M d mc ms cu su (pc + 1) ((i, .long x) :: lv) st Z G L Q) : AX X M d mc ms cu su pc lv (.long x :: st) Z G L Q := by
  intro p l e R s m args below meth c H locs ls dC dI tc ad A N0 ad0 Qr hC hW hl hs hv hg hn hr
  exact lv_lstore_n hC.1 hC.2.1 hd hi (dd_has hv) h1 rfl (fun ls' h9 => (kk p l e R s m args below meth c H locs ls' dC dI tc ad A N0 ad0 Qr hC hW (okL_cons hl hs.1) hs.2 (LV_st2 h2 h3 h9) hg hn hr))
theorem ax_lstore  {i : Nat} {x : Int64} (hd : decode M.2.1 pc = .ok (.lstore i, 2))  (h1 : i + 1 < M.2.2.1) (h2 : n2 lv i = true) (h3 : lk lv (i + 1) = none) (kk : AX X M d mc ms cu su (pc + 2) ((i, .long x) :: lv) st Z G L Q) : AX X M d mc ms cu su pc lv (.long x :: st) Z G L Q := by
  intro p l e R s m args below meth c H locs ls dC dI tc ad A N0 ad0 Qr hC hW hl hs hv hg hn hr
  exact lv_lstore hC.1 hC.2.1 hd  (dd_has hv) h1 rfl (fun ls' h9 => (kk p l e R s m args below meth c H locs ls' dC dI tc ad A N0 ad0 Qr hC hW (okL_cons hl hs.1) hs.2 (LV_st2 h2 h3 h9) hg hn hr))
theorem dd_ix {ad : Nat → Nat} {lv : Lv} {j : Nat} {v : Value} (h : lk lv j = some v) : ∃ k : Nat, (dd ad lv)[k]? = some (j, cv ad v) := List.getElem?_of_mem (dd_mem h)
theorem ax_iinc {i : Nat} {n : Int} {x v : Int32} (hd : decode M.2.1 pc = .ok (.iinc i n, 3)) (h0 : lk lv i = some (.int x)) (hx : x + Int32.ofInt n = v) (h1 : i < M.2.2.1) (h2 : n2 lv i = true) (kk : AX X M d mc ms cu su (pc + 3) ((i, .int v) :: lv) st Z G L Q) : AX X M d mc ms cu su pc lv st Z G L Q := by
  intro p l e R s m args below meth c H locs ls dC dI tc ad A N0 ad0 Qr hC hW hl hs hv hg hn hr
  obtain ⟨k, hk⟩ := dd_ix (ad := ad) h0
  exact lv_iinc hC.1 hC.2.1 hd (dd_has hv) hk hx h1 rfl (fun ls' h9 => (kk p l e R s m args below meth c H locs ls' dC dI tc ad A N0 ad0 Qr hC hW (okL_cons hl trivial) hs (LV_st1 (x := .int v) h2 h9) hg hn hr))
theorem ax_lv (l2 : Lv) (h : subl lv l2) (k : AX X M d mc ms cu su pc l2 st Z G L Q) : AX X M d mc ms cu su pc lv st Z G L Q := by
  intro p l e R s m args below meth c H locs ls dC dI tc ad A N0 ad0 Qr hC hW hl hs hv hg hn hr
  exact (k p l e R s m args below meth c H locs ls dC dI tc ad A N0 ad0 Qr hC hW (fun j v q => hl j v (subl_at h j v q)) hs ⟨hv.1, hv.2.1, fun j v q => hv.2.2 j v (subl_at h j v q)⟩ hg hn hr)
theorem ax_iadd {x y : Int32} (hd : decode M.2.1 pc = .ok (.iadd, 1))  (k : AX X M d mc ms cu su (pc + 1) lv (.int (x + y) :: st) Z G L Q) : AX X M d mc ms cu su pc lv (.int y :: .int x :: st) Z G L Q := by
  intro p l e R s m args below meth c H locs ls dC dI tc ad A N0 ad0 Qr hC hW hl hs hv hg hn hr
  exact lv_iadd hC.1 hC.2.1 hd  (k p l e R s m args below meth c H locs ls dC dI tc ad A N0 ad0 Qr hC hW hl ⟨trivial, hs.2.2⟩ hv hg hn hr)
theorem ax_isub {x y : Int32} (hd : decode M.2.1 pc = .ok (.isub, 1))  (k : AX X M d mc ms cu su (pc + 1) lv (.int (x - y) :: st) Z G L Q) : AX X M d mc ms cu su pc lv (.int y :: .int x :: st) Z G L Q := by
  intro p l e R s m args below meth c H locs ls dC dI tc ad A N0 ad0 Qr hC hW hl hs hv hg hn hr
  exact lv_isub hC.1 hC.2.1 hd  (k p l e R s m args below meth c H locs ls dC dI tc ad A N0 ad0 Qr hC hW hl ⟨trivial, hs.2.2⟩ hv hg hn hr)
theorem ax_imul {x y : Int32} (hd : decode M.2.1 pc = .ok (.imul, 1))  (k : AX X M d mc ms cu su (pc + 1) lv (.int (x * y) :: st) Z G L Q) : AX X M d mc ms cu su pc lv (.int y :: .int x :: st) Z G L Q := by
  intro p l e R s m args below meth c H locs ls dC dI tc ad A N0 ad0 Qr hC hW hl hs hv hg hn hr
  exact lv_imul hC.1 hC.2.1 hd  (k p l e R s m args below meth c H locs ls dC dI tc ad A N0 ad0 Qr hC hW hl ⟨trivial, hs.2.2⟩ hv hg hn hr)
theorem ax_iand {x y : Int32} (hd : decode M.2.1 pc = .ok (.iand, 1))  (k : AX X M d mc ms cu su (pc + 1) lv (.int (x &&& y) :: st) Z G L Q) : AX X M d mc ms cu su pc lv (.int y :: .int x :: st) Z G L Q := by
  intro p l e R s m args below meth c H locs ls dC dI tc ad A N0 ad0 Qr hC hW hl hs hv hg hn hr
  exact lv_iand hC.1 hC.2.1 hd  (k p l e R s m args below meth c H locs ls dC dI tc ad A N0 ad0 Qr hC hW hl ⟨trivial, hs.2.2⟩ hv hg hn hr)
theorem ax_ior {x y : Int32} (hd : decode M.2.1 pc = .ok (.ior, 1))  (k : AX X M d mc ms cu su (pc + 1) lv (.int (x ||| y) :: st) Z G L Q) : AX X M d mc ms cu su pc lv (.int y :: .int x :: st) Z G L Q := by
  intro p l e R s m args below meth c H locs ls dC dI tc ad A N0 ad0 Qr hC hW hl hs hv hg hn hr
  exact lv_ior hC.1 hC.2.1 hd  (k p l e R s m args below meth c H locs ls dC dI tc ad A N0 ad0 Qr hC hW hl ⟨trivial, hs.2.2⟩ hv hg hn hr)
theorem ax_ixor {x y : Int32} (hd : decode M.2.1 pc = .ok (.ixor, 1))  (k : AX X M d mc ms cu su (pc + 1) lv (.int (x ^^^ y) :: st) Z G L Q) : AX X M d mc ms cu su pc lv (.int y :: .int x :: st) Z G L Q := by
  intro p l e R s m args below meth c H locs ls dC dI tc ad A N0 ad0 Qr hC hW hl hs hv hg hn hr
  exact lv_ixor hC.1 hC.2.1 hd  (k p l e R s m args below meth c H locs ls dC dI tc ad A N0 ad0 Qr hC hW hl ⟨trivial, hs.2.2⟩ hv hg hn hr)
theorem ax_ishl {x y : Int32} (hd : decode M.2.1 pc = .ok (.ishl, 1))  (k : AX X M d mc ms cu su (pc + 1) lv (.int (x <<< (y &&& 31)) :: st) Z G L Q) : AX X M d mc ms cu su pc lv (.int y :: .int x :: st) Z G L Q := by
  intro p l e R s m args below meth c H locs ls dC dI tc ad A N0 ad0 Qr hC hW hl hs hv hg hn hr
  exact lv_ishl hC.1 hC.2.1 hd  (k p l e R s m args below meth c H locs ls dC dI tc ad A N0 ad0 Qr hC hW hl ⟨trivial, hs.2.2⟩ hv hg hn hr)
theorem ax_ishr {x y : Int32} (hd : decode M.2.1 pc = .ok (.ishr, 1))  (k : AX X M d mc ms cu su (pc + 1) lv (.int (x >>> (y &&& 31)) :: st) Z G L Q) : AX X M d mc ms cu su pc lv (.int y :: .int x :: st) Z G L Q := by
  intro p l e R s m args below meth c H locs ls dC dI tc ad A N0 ad0 Qr hC hW hl hs hv hg hn hr
  exact lv_ishr hC.1 hC.2.1 hd  (k p l e R s m args below meth c H locs ls dC dI tc ad A N0 ad0 Qr hC hW hl ⟨trivial, hs.2.2⟩ hv hg hn hr)
theorem ax_idiv {x y : Int32} (hd : decode M.2.1 pc = .ok (.idiv, 1)) (hne : ¬ y = 0) (k : AX X M d mc ms cu su (pc + 1) lv (.int (x / y) :: st) Z G L Q) : AX X M d mc ms cu su pc lv (.int y :: .int x :: st) Z G L Q := by
  intro p l e R s m args below meth c H locs ls dC dI tc ad A N0 ad0 Qr hC hW hl hs hv hg hn hr
  exact lv_idiv hC.1 hC.2.1 hd hne (k p l e R s m args below meth c H locs ls dC dI tc ad A N0 ad0 Qr hC hW hl ⟨trivial, hs.2.2⟩ hv hg hn hr)
theorem ax_irem {x y : Int32} (hd : decode M.2.1 pc = .ok (.irem, 1)) (hne : ¬ y = 0) (k : AX X M d mc ms cu su (pc + 1) lv (.int (x - x / y * y) :: st) Z G L Q) : AX X M d mc ms cu su pc lv (.int y :: .int x :: st) Z G L Q := by
  intro p l e R s m args below meth c H locs ls dC dI tc ad A N0 ad0 Qr hC hW hl hs hv hg hn hr
  exact lv_irem hC.1 hC.2.1 hd hne (k p l e R s m args below meth c H locs ls dC dI tc ad A N0 ad0 Qr hC hW hl ⟨trivial, hs.2.2⟩ hv hg hn hr)
theorem ax_ladd {x y : Int64} (hd : decode M.2.1 pc = .ok (.ladd, 1))  (k : AX X M d mc ms cu su (pc + 1) lv (.long (x + y) :: st) Z G L Q) : AX X M d mc ms cu su pc lv (.long y :: .long x :: st) Z G L Q := by
  intro p l e R s m args below meth c H locs ls dC dI tc ad A N0 ad0 Qr hC hW hl hs hv hg hn hr
  exact lv_ladd hC.1 hC.2.1 hd  (k p l e R s m args below meth c H locs ls dC dI tc ad A N0 ad0 Qr hC hW hl ⟨trivial, hs.2.2⟩ hv hg hn hr)
theorem ax_lsub {x y : Int64} (hd : decode M.2.1 pc = .ok (.lsub, 1))  (k : AX X M d mc ms cu su (pc + 1) lv (.long (x - y) :: st) Z G L Q) : AX X M d mc ms cu su pc lv (.long y :: .long x :: st) Z G L Q := by
  intro p l e R s m args below meth c H locs ls dC dI tc ad A N0 ad0 Qr hC hW hl hs hv hg hn hr
  exact lv_lsub hC.1 hC.2.1 hd  (k p l e R s m args below meth c H locs ls dC dI tc ad A N0 ad0 Qr hC hW hl ⟨trivial, hs.2.2⟩ hv hg hn hr)
theorem ax_land {x y : Int64} (hd : decode M.2.1 pc = .ok (.land, 1))  (k : AX X M d mc ms cu su (pc + 1) lv (.long (x &&& y) :: st) Z G L Q) : AX X M d mc ms cu su pc lv (.long y :: .long x :: st) Z G L Q := by
  intro p l e R s m args below meth c H locs ls dC dI tc ad A N0 ad0 Qr hC hW hl hs hv hg hn hr
  exact lv_land hC.1 hC.2.1 hd  (k p l e R s m args below meth c H locs ls dC dI tc ad A N0 ad0 Qr hC hW hl ⟨trivial, hs.2.2⟩ hv hg hn hr)
theorem ax_lor {x y : Int64} (hd : decode M.2.1 pc = .ok (.lor, 1))  (k : AX X M d mc ms cu su (pc + 1) lv (.long (x ||| y) :: st) Z G L Q) : AX X M d mc ms cu su pc lv (.long y :: .long x :: st) Z G L Q := by
  intro p l e R s m args below meth c H locs ls dC dI tc ad A N0 ad0 Qr hC hW hl hs hv hg hn hr
  exact lv_lor hC.1 hC.2.1 hd  (k p l e R s m args below meth c H locs ls dC dI tc ad A N0 ad0 Qr hC hW hl ⟨trivial, hs.2.2⟩ hv hg hn hr)
theorem ax_ldiv {x y : Int64} (hd : decode M.2.1 pc = .ok (.ldiv, 1)) (hne : ¬ y = 0) (k : AX X M d mc ms cu su (pc + 1) lv (.long (x / y) :: st) Z G L Q) : AX X M d mc ms cu su pc lv (.long y :: .long x :: st) Z G L Q := by
  intro p l e R s m args below meth c H locs ls dC dI tc ad A N0 ad0 Qr hC hW hl hs hv hg hn hr
  exact lv_ldiv hC.1 hC.2.1 hd hne (k p l e R s m args below meth c H locs ls dC dI tc ad A N0 ad0 Qr hC hW hl ⟨trivial, hs.2.2⟩ hv hg hn hr)
theorem ax_lrem {x y : Int64} (hd : decode M.2.1 pc = .ok (.lrem, 1)) (hne : ¬ y = 0) (k : AX X M d mc ms cu su (pc + 1) lv (.long (x - x / y * y) :: st) Z G L Q) : AX X M d mc ms cu su pc lv (.long y :: .long x :: st) Z G L Q := by
  intro p l e R s m args below meth c H locs ls dC dI tc ad A N0 ad0 Qr hC hW hl hs hv hg hn hr
  exact lv_lrem hC.1 hC.2.1 hd hne (k p l e R s m args below meth c H locs ls dC dI tc ad A N0 ad0 Qr hC hW hl ⟨trivial, hs.2.2⟩ hv hg hn hr)
theorem ax_lcmp {x y : Int64} (hd : decode M.2.1 pc = .ok (.lcmp, 1)) (k : AX X M d mc ms cu su (pc + 1) lv (.int (lg_cmp x y) :: st) Z G L Q) : AX X M d mc ms cu su pc lv (.long y :: .long x :: st) Z G L Q := by
  intro p l e R s m args below meth c H locs ls dC dI tc ad A N0 ad0 Qr hC hW hl hs hv hg hn hr
  exact W.lcmp hC.1 hC.2.1 hd (k p l e R s m args below meth c H locs ls dC dI tc ad A N0 ad0 Qr hC hW hl ⟨trivial, hs.2.2⟩ hv hg hn hr)
theorem ax_iushr {x y v : Int32} (hd : decode M.2.1 pc = .ok (.iushr, 1)) (h1 : (x.toUInt32 >>> (y.toUInt32 &&& Int32.toUInt32 31)).toInt32 = v) (k : AX X M d mc ms cu su (pc + 1) lv (.int v :: st) Z G L Q) : AX X M d mc ms cu su pc lv (.int y :: .int x :: st) Z G L Q := by
  intro p l e R s m args below meth c H locs ls dC dI tc ad A N0 ad0 Qr hC hW hl hs hv hg hn hr
  exact lv_iushr hC.1 hC.2.1 hd h1 (k p l e R s m args below meth c H locs ls dC dI tc ad A N0 ad0 Qr hC hW hl ⟨trivial, hs.2.2⟩ hv hg hn hr)
theorem ax_lshl {x v : Int64} {y : Int32} (hd : decode M.2.1 pc = .ok (.lshl, 1)) (h1 : x <<< (y.toInt64 &&& 63) = v) (k : AX X M d mc ms cu su (pc + 1) lv (.long v :: st) Z G L Q) : AX X M d mc ms cu su pc lv (.int y :: .long x :: st) Z G L Q := by
  intro p l e R s m args below meth c H locs ls dC dI tc ad A N0 ad0 Qr hC hW hl hs hv hg hn hr
  exact lv_lshl hC.1 hC.2.1 hd h1 (k p l e R s m args below meth c H locs ls dC dI tc ad A N0 ad0 Qr hC hW hl ⟨trivial, hs.2.2⟩ hv hg hn hr)
theorem ax_ineg {x : Int32} (hd : decode M.2.1 pc = .ok (.ineg, 1)) (k : AX X M d mc ms cu su (pc + 1) lv (.int (-x) :: st) Z G L Q) : AX X M d mc ms cu su pc lv (.int x :: st) Z G L Q := by
  intro p l e R s m args below meth c H locs ls dC dI tc ad A N0 ad0 Qr hC hW hl hs hv hg hn hr
  exact lv_ineg hC.1 hC.2.1 hd (k p l e R s m args below meth c H locs ls dC dI tc ad A N0 ad0 Qr hC hW hl ⟨trivial, hs.2⟩ hv hg hn hr)
theorem ax_i2l {x : Int32} (hd : decode M.2.1 pc = .ok (.i2l, 1)) (k : AX X M d mc ms cu su (pc + 1) lv (.long (x.toInt64) :: st) Z G L Q) : AX X M d mc ms cu su pc lv (.int x :: st) Z G L Q := by
  intro p l e R s m args below meth c H locs ls dC dI tc ad A N0 ad0 Qr hC hW hl hs hv hg hn hr
  exact lv_i2l hC.1 hC.2.1 hd rfl (k p l e R s m args below meth c H locs ls dC dI tc ad A N0 ad0 Qr hC hW hl ⟨trivial, hs.2⟩ hv hg hn hr)
theorem ax_l2i {x : Int64} (hd : decode M.2.1 pc = .ok (.l2i, 1)) (k : AX X M d mc ms cu su (pc + 1) lv (.int (x.toInt32) :: st) Z G L Q) : AX X M d mc ms cu su pc lv (.long x :: st) Z G L Q := by
  intro p l e R s m args below meth c H locs ls dC dI tc ad A N0 ad0 Qr hC hW hl hs hv hg hn hr
  exact lv_l2i hC.1 hC.2.1 hd rfl (k p l e R s m args below meth c H locs ls dC dI tc ad A N0 ad0 Qr hC hW hl ⟨trivial, hs.2⟩ hv hg hn hr)
theorem ax_i2b {x : Int32} (hd : decode M.2.1 pc = .ok (.i2b, 1)) (k : AX X M d mc ms cu su (pc + 1) lv (.int (x.toInt8.toInt32) :: st) Z G L Q) : AX X M d mc ms cu su pc lv (.int x :: st) Z G L Q := by
  intro p l e R s m args below meth c H locs ls dC dI tc ad A N0 ad0 Qr hC hW hl hs hv hg hn hr
  exact lv_i2b hC.1 hC.2.1 hd rfl (k p l e R s m args below meth c H locs ls dC dI tc ad A N0 ad0 Qr hC hW hl ⟨trivial, hs.2⟩ hv hg hn hr)
theorem ax_i2s {x : Int32} (hd : decode M.2.1 pc = .ok (.i2s, 1)) (k : AX X M d mc ms cu su (pc + 1) lv (.int (x.toInt16.toInt32) :: st) Z G L Q) : AX X M d mc ms cu su pc lv (.int x :: st) Z G L Q := by
  intro p l e R s m args below meth c H locs ls dC dI tc ad A N0 ad0 Qr hC hW hl hs hv hg hn hr
  exact lv_i2s hC.1 hC.2.1 hd rfl (k p l e R s m args below meth c H locs ls dC dI tc ad A N0 ad0 Qr hC hW hl ⟨trivial, hs.2⟩ hv hg hn hr)
theorem ax_i2c {x : Int32} (hd : decode M.2.1 pc = .ok (.i2c, 1)) (k : AX X M d mc ms cu su (pc + 1) lv (.int ((x.toUInt32 % 65536).toInt32) :: st) Z G L Q) : AX X M d mc ms cu su pc lv (.int x :: st) Z G L Q := by
  intro p l e R s m args below meth c H locs ls dC dI tc ad A N0 ad0 Qr hC hW hl hs hv hg hn hr
  exact lv_i2c hC.1 hC.2.1 hd rfl (k p l e R s m args below meth c H locs ls dC dI tc ad A N0 ad0 Qr hC hW hl ⟨trivial, hs.2⟩ hv hg hn hr)
theorem ax_dup {v : Value} (hd : decode M.2.1 pc = .ok (.dup, 1)) (h1 : v.category = 1) (k : AX X M d mc ms cu su (pc + 1) lv (v :: v :: st) Z G L Q) : AX X M d mc ms cu su pc lv (v :: st) Z G L Q := by
  intro p l e R s m args below meth c H locs ls dC dI tc ad A N0 ad0 Qr hC hW hl hs hv hg hn hr
  exact lv_dup hC.1 hC.2.1 hd (by rw [cv_cat]; exact h1) (k p l e R s m args below meth c H locs ls dC dI tc ad A N0 ad0 Qr hC hW hl ⟨hs.1, hs⟩ hv hg hn hr)
theorem ax_pop {v : Value} (hd : decode M.2.1 pc = .ok (.pop, 1)) (h1 : v.category = 1) (k : AX X M d mc ms cu su (pc + 1) lv st Z G L Q) : AX X M d mc ms cu su pc lv (v :: st) Z G L Q := by
  intro p l e R s m args below meth c H locs ls dC dI tc ad A N0 ad0 Qr hC hW hl hs hv hg hn hr
  exact lv_pop hC.1 hC.2.1 hd (by rw [cv_cat]; exact h1) (k p l e R s m args below meth c H locs ls dC dI tc ad A N0 ad0 Qr hC hW hl hs.2 hv hg hn hr)
theorem ax_dup_x1 {v w : Value} (hd : decode M.2.1 pc = .ok (.dup_x1, 1)) (h1 : v.category = 1) (h2 : w.category = 1) (k : AX X M d mc ms cu su (pc + 1) lv (v :: w :: v :: st) Z G L Q) : AX X M d mc ms cu su pc lv (v :: w :: st) Z G L Q := by
  intro p l e R s m args below meth c H locs ls dC dI tc ad A N0 ad0 Qr hC hW hl hs hv hg hn hr
  exact lv_dup_x1 hC.1 hC.2.1 hd (by rw [cv_cat]; exact h1) (by rw [cv_cat]; exact h2) (k p l e R s m args below meth c H locs ls dC dI tc ad A N0 ad0 Qr hC hW hl ⟨hs.1, hs.2.1, hs.1, hs.2.2⟩ hv hg hn hr)
theorem ax_if_eq {x : Int32} {off : Int} {tgt : Nat} (hd : decode M.2.1 pc = .ok (.ifCond .eq off, 3)) (ht : (pc : Int) + off = (tgt : Int)) (kt : x = 0 → AX X M d mc ms cu su tgt lv st Z G L Q) (kf : ¬ x = 0 → AX X M d mc ms cu su (pc + 3) lv st Z G L Q) : AX X M d mc ms cu su pc lv (.int x :: st) Z G L Q := by
  intro p l e R s m args below meth c H locs ls dC dI tc ad A N0 ad0 Qr hC hW hl hs hv hg hn hr
  exact lv_if_eq hC.1 hC.2.1 hd ht (fun q => (kt q p l e R s m args below meth c H locs ls dC dI tc ad A N0 ad0 Qr hC hW hl hs.2 hv hg hn hr)) (fun q => (kf q p l e R s m args below meth c H locs ls dC dI tc ad A N0 ad0 Qr hC hW hl hs.2 hv hg hn hr))
theorem ax_icmp_eq {x y : Int32} {off : Int} {tgt : Nat} (hd : decode M.2.1 pc = .ok (.if_icmp .eq off, 3)) (ht : (pc : Int) + off = (tgt : Int)) (kt : x = y → AX X M d mc ms cu su tgt lv st Z G L Q) (kf : ¬ x = y → AX X M d mc ms cu su (pc + 3) lv st Z G L Q) : AX X M d mc ms cu su pc lv (.int y :: .int x :: st) Z G L Q := by
  intro p l e R s m args below meth c H locs ls dC dI tc ad A N0 ad0 Qr hC hW hl hs hv hg hn hr
  exact lv_icmp_eq hC.1 hC.2.1 hd ht (fun q => (kt q p l e R s m args below meth c H locs ls dC dI tc ad A N0 ad0 Qr hC hW hl hs.2.2 hv hg hn hr)) (fun q => (kf q p l e R s m args below meth c H locs ls dC dI tc ad A N0 ad0 Qr hC hW hl hs.2.2 hv hg hn hr))
theorem ax_if_ne {x : Int32} {off : Int} {tgt : Nat} (hd : decode M.2.1 pc = .ok (.ifCond .ne off, 3)) (ht : (pc : Int) + off = (tgt : Int)) (kt : ¬ x = 0 → AX X M d mc ms cu su tgt lv st Z G L Q) (kf : x = 0 → AX X M d mc ms cu su (pc + 3) lv st Z G L Q) : AX X M d mc ms cu su pc lv (.int x :: st) Z G L Q := by
  intro p l e R s m args below meth c H locs ls dC dI tc ad A N0 ad0 Qr hC hW hl hs hv hg hn hr
  exact lv_if_ne hC.1 hC.2.1 hd ht (fun q => (kt q p l e R s m args below meth c H locs ls dC dI tc ad A N0 ad0 Qr hC hW hl hs.2 hv hg hn hr)) (fun q => (kf q p l e R s m args below meth c H locs ls dC dI tc ad A N0 ad0 Qr hC hW hl hs.2 hv hg hn hr))
theorem ax_icmp_ne {x y : Int32} {off : Int} {tgt : Nat} (hd : decode M.2.1 pc = .ok (.if_icmp .ne off, 3)) (ht : (pc : Int) + off = (tgt : Int)) (kt : ¬ x = y → AX X M d mc ms cu su tgt lv st Z G L Q) (kf : x = y → AX X M d mc ms cu su (pc + 3) lv st Z G L Q) : AX X M d mc ms cu su pc lv (.int y :: .int x :: st) Z G L Q := by
  intro p l e R s m args below meth c H locs ls dC dI tc ad A N0 ad0 Qr hC hW hl hs hv hg hn hr
  exact lv_icmp_ne hC.1 hC.2.1 hd ht (fun q => (kt q p l e R s m args below meth c H locs ls dC dI tc ad A N0 ad0 Qr hC hW hl hs.2.2 hv hg hn hr)) (fun q => (kf q p l e R s m args below meth c H locs ls dC dI tc ad A N0 ad0 Qr hC hW hl hs.2.2 hv hg hn hr))
theorem ax_if_lt {x : Int32} {off : Int} {tgt : Nat} (hd : decode M.2.1 pc = .ok (.ifCond .lt off, 3)) (ht : (pc : Int) + off = (tgt : Int)) (kt : x < 0 → AX X M d mc ms cu su tgt lv st Z G L Q) (kf : ¬ x < 0 → AX X M d mc ms cu su (pc + 3) lv st Z G L Q) : AX X M d mc ms cu su pc lv (.int x :: st) Z G L Q := by
  intro p l e R s m args below meth c H locs ls dC dI tc ad A N0 ad0 Qr hC hW hl hs hv hg hn hr
  exact lv_if_lt hC.1 hC.2.1 hd ht (fun q => (kt q p l e R s m args below meth c H locs ls dC dI tc ad A N0 ad0 Qr hC hW hl hs.2 hv hg hn hr)) (fun q => (kf q p l e R s m args below meth c H locs ls dC dI tc ad A N0 ad0 Qr hC hW hl hs.2 hv hg hn hr))
theorem ax_icmp_lt {x y : Int32} {off : Int} {tgt : Nat} (hd : decode M.2.1 pc = .ok (.if_icmp .lt off, 3)) (ht : (pc : Int) + off = (tgt : Int)) (kt : x < y → AX X M d mc ms cu su tgt lv st Z G L Q) (kf : ¬ x < y → AX X M d mc ms cu su (pc + 3) lv st Z G L Q) : AX X M d mc ms cu su pc lv (.int y :: .int x :: st) Z G L Q := by
  intro p l e R s m args below meth c H locs ls dC dI tc ad A N0 ad0 Qr hC hW hl hs hv hg hn hr
  exact lv_icmp_lt hC.1 hC.2.1 hd ht (fun q => (kt q p l e R s m args below meth c H locs ls dC dI tc ad A N0 ad0 Qr hC hW hl hs.2.2 hv hg hn hr)) (fun q => (kf q p l e R s m args below meth c H locs ls dC dI tc ad A N0 ad0 Qr hC hW hl hs.2.2 hv hg hn hr))
theorem ax_if_ge {x : Int32} {off : Int} {tgt : Nat} (hd : decode M.2.1 pc = .ok (.ifCond .ge off, 3)) (ht : (pc : Int) + off = (tgt : Int)) (kt : 0 ≤ x → AX X M d mc ms cu su tgt lv st Z G L Q) (kf : ¬ 0 ≤ x → AX X M d mc ms cu su (pc + 3) lv st Z G L Q) : AX X M d mc ms cu su pc lv (.int x :: st) Z G L Q := by
  intro p l e R s m args below meth c H locs ls dC dI tc ad A N0 ad0 Qr hC hW hl hs hv hg hn hr
  exact lv_if_ge hC.1 hC.2.1 hd ht (fun q => (kt q p l e R s m args below meth c H locs ls dC dI tc ad A N0 ad0 Qr hC hW hl hs.2 hv hg hn hr)) (fun q => (kf q p l e R s m args below meth c H locs ls dC dI tc ad A N0 ad0 Qr hC hW hl hs.2 hv hg hn hr))
theorem ax_icmp_ge {x y : Int32} {off : Int} {tgt : Nat} (hd : decode M.2.1 pc = .ok (.if_icmp .ge off, 3)) (ht : (pc : Int) + off = (tgt : Int)) (kt : y ≤ x → AX X M d mc ms cu su tgt lv st Z G L Q) (kf : ¬ y ≤ x → AX X M d mc ms cu su (pc + 3) lv st Z G L Q) : AX X M d mc ms cu su pc lv (.int y :: .int x :: st) Z G L Q := by
  intro p l e R s m args below meth c H locs ls dC dI tc ad A N0 ad0 Qr hC hW hl hs hv hg hn hr
  exact lv_icmp_ge hC.1 hC.2.1 hd ht (fun q => (kt q p l e R s m args below meth c H locs ls dC dI tc ad A N0 ad0 Qr hC hW hl hs.2.2 hv hg hn hr)) (fun q => (kf q p l e R s m args below meth c H locs ls dC dI tc ad A N0 ad0 Qr hC hW hl hs.2.2 hv hg hn hr))
theorem ax_if_gt {x : Int32} {off : Int} {tgt : Nat} (hd : decode M.2.1 pc = .ok (.ifCond .gt off, 3)) (ht : (pc : Int) + off = (tgt : Int)) (kt : 0 < x → AX X M d mc ms cu su tgt lv st Z G L Q) (kf : ¬ 0 < x → AX X M d mc ms cu su (pc + 3) lv st Z G L Q) : AX X M d mc ms cu su pc lv (.int x :: st) Z G L Q := by
  intro p l e R s m args below meth c H locs ls dC dI tc ad A N0 ad0 Qr hC hW hl hs hv hg hn hr
  exact lv_if_gt hC.1 hC.2.1 hd ht (fun q => (kt q p l e R s m args below meth c H locs ls dC dI tc ad A N0 ad0 Qr hC hW hl hs.2 hv hg hn hr)) (fun q => (kf q p l e R s m args below meth c H locs ls dC dI tc ad A N0 ad0 Qr hC hW hl hs.2 hv hg hn hr))
theorem ax_icmp_gt {x y : Int32} {off : Int} {tgt : Nat} (hd : decode M.2.1 pc = .ok (.if_icmp .gt off, 3)) (ht : (pc : Int) + off = (tgt : Int)) (kt : y < x → AX X M d mc ms cu su tgt lv st Z G L Q) (kf : ¬ y < x → AX X M d mc ms cu su (pc + 3) lv st Z G L Q) : AX X M d mc ms cu su pc lv (.int y :: .int x :: st) Z G L Q := by
  intro p l e R s m args below meth c H locs ls dC dI tc ad A N0 ad0 Qr hC hW hl hs hv hg hn hr
  exact lv_icmp_gt hC.1 hC.2.1 hd ht (fun q => (kt q p l e R s m args below meth c H locs ls dC dI tc ad A N0 ad0 Qr hC hW hl hs.2.2 hv hg hn hr)) (fun q => (kf q p l e R s m args below meth c H locs ls dC dI tc ad A N0 ad0 Qr hC hW hl hs.2.2 hv hg hn hr))
theorem ax_if_le {x : Int32} {off : Int} {tgt : Nat} (hd : decode M.2.1 pc = .ok (.ifCond .le off, 3)) (ht : (pc : Int) + off = (tgt : Int)) (kt : x ≤ 0 → AX X M d mc ms cu su tgt lv st Z G L Q) (kf : ¬ x ≤ 0 → AX X M d mc ms cu su (pc + 3) lv st Z G L Q) : AX X M d mc ms cu su pc lv (.int x :: st) Z G L Q := by
  intro p l e R s m args below meth c H locs ls dC dI tc ad A N0 ad0 Qr hC hW hl hs hv hg hn hr
  exact lv_if_le hC.1 hC.2.1 hd ht (fun q => (kt q p l e R s m args below meth c H locs ls dC dI tc ad A N0 ad0 Qr hC hW hl hs.2 hv hg hn hr)) (fun q => (kf q p l e R s m args below meth c H locs ls dC dI tc ad A N0 ad0 Qr hC hW hl hs.2 hv hg hn hr))
theorem ax_icmp_le {x y : Int32} {off : Int} {tgt : Nat} (hd : decode M.2.1 pc = .ok (.if_icmp .le off, 3)) (ht : (pc : Int) + off = (tgt : Int)) (kt : x ≤ y → AX X M d mc ms cu su tgt lv st Z G L Q) (kf : ¬ x ≤ y → AX X M d mc ms cu su (pc + 3) lv st Z G L Q) : AX X M d mc ms cu su pc lv (.int y :: .int x :: st) Z G L Q := by
  intro p l e R s m args below meth c H locs ls dC dI tc ad A N0 ad0 Qr hC hW hl hs hv hg hn hr
  exact lv_icmp_le hC.1 hC.2.1 hd ht (fun q => (kt q p l e R s m args below meth c H locs ls dC dI tc ad A N0 ad0 Qr hC hW hl hs.2.2 hv hg hn hr)) (fun q => (kf q p l e R s m args below meth c H locs ls dC dI tc ad A N0 ad0 Qr hC hW hl hs.2.2 hv hg hn hr))
theorem ax_goto {off : Int} {tgt : Nat} (hd : decode M.2.1 pc = .ok (.goto off, 3)) (ht : (pc : Int) + off = (tgt : Int)) (k : AX X M d mc ms cu su tgt lv st Z G L Q) : AX X M d mc ms cu su pc lv st Z G L Q := by
  intro p l e R s m args below meth c H locs ls dC dI tc ad A N0 ad0 Qr hC hW hl hs hv hg hn hr
  exact lv_goto hC.1 hC.2.1 hd ht (k p l e R s m args below meth c H locs ls dC dI tc ad A N0 ad0 Qr hC hW hl hs hv hg hn hr)
theorem ax_tout {dflt lo hi : Int} {offs : Array Int} {len : Nat} {x : Int32} {tgt : Nat} (hd : decode M.2.1 pc = .ok (.tableswitch dflt lo hi offs, len)) (h : x.toInt < lo ∨ hi < x.toInt) (ht : (pc : Int) + dflt = (tgt : Int)) (k : AX X M d mc ms cu su tgt lv st Z G L Q) : AX X M d mc ms cu su pc lv (.int x :: st) Z G L Q := by
  intro p l e R s m args below meth c H locs ls dC dI tc ad A N0 ad0 Qr hC hW hl hs hv hg hn hr
  exact lv_tableOut hC.1 hC.2.1 hd h ht (k p l e R s m args below meth c H locs ls dC dI tc ad A N0 ad0 Qr hC hW hl hs.2 hv hg hn hr)
theorem ax_tin {dflt lo hi : Int} {offs : Array Int} {len : Nat} {x : Int32} {off : Int} {tgt : Nat} (hd : decode M.2.1 pc = .ok (.tableswitch dflt lo hi offs, len)) (h1 : ¬ x.toInt < lo) (h2 : ¬ hi < x.toInt) (ho : offs[(x.toInt - lo).toNat]? = some off) (ht : (pc : Int) + off = (tgt : Int)) (k : AX X M d mc ms cu su tgt lv st Z G L Q) : AX X M d mc ms cu su pc lv (.int x :: st) Z G L Q := by
  intro p l e R s m args below meth c H locs ls dC dI tc ad A N0 ad0 Qr hC hW hl hs hv hg hn hr
  exact lv_tableIn hC.1 hC.2.1 hd h1 h2 ho ht (k p l e R s m args below meth c H locs ls dC dI tc ad A N0 ad0 Qr hC hW hl hs.2 hv hg hn hr)
theorem ax_lookup {dflt : Int} {ps : Array (Int × Int)} {len : Nat} {x : Int32} {off : Int} {tgt : Nat} (hd : decode M.2.1 pc = .ok (.lookupswitch dflt ps, len)) (hp : (ps.toList.zip (ps.toList.drop 1)).all (fun (a, next) => a.1 < next.1) = true) (ho : Op.lookupswitch.offset ps.toList dflt x.toInt = off) (ht : (pc : Int) + off = (tgt : Int)) (k : AX X M d mc ms cu su tgt lv st Z G L Q) : AX X M d mc ms cu su pc lv (.int x :: st) Z G L Q := by
  intro p l e R s m args below meth c H locs ls dC dI tc ad A N0 ad0 Qr hC hW hl hs hv hg hn hr
  exact lv_lookup hC.1 hC.2.1 hd hp ho ht (k p l e R s m args below meth c H locs ls dC dI tc ad A N0 ad0 Qr hC hW hl hs.2 hv hg hn hr)
def orf (o : Option Nat) : Value := match o with
  | none => .null
  | some k => .ref k
theorem ax_ifnull {r : Option Nat} {off : Int} {tgt : Nat} (hd : decode M.2.1 pc = .ok (.ifnull off, 3)) (ht : (pc : Int) + off = (tgt : Int)) (kt : r = none → AX X M d mc ms cu su tgt lv st Z G L Q) (kf : ∀ k, r = some k → AX X M d mc ms cu su (pc + 3) lv st Z G L Q) : AX X M d mc ms cu su pc lv (orf r :: st) Z G L Q := by
  intro p l e R s m args below meth c H locs ls dC dI tc ad A N0 ad0 Qr hC hW hl hs hv hg hn hr
  cases r with
  | none => exact lv_ifnullN hC.1 hC.2.1 hd ht (kt rfl p l e R s m args below meth c H locs ls dC dI tc ad A N0 ad0 Qr hC hW hl hs.2 hv hg hn hr)
  | some k => exact lv_ifnull hC.1 hC.2.1 hd (kf k rfl p l e R s m args below meth c H locs ls dC dI tc ad A N0 ad0 Qr hC hW hl hs.2 hv hg hn hr)
theorem ax_ifnonnull {r : Option Nat} {off : Int} {tgt : Nat} (hd : decode M.2.1 pc = .ok (.ifnonnull off, 3)) (ht : (pc : Int) + off = (tgt : Int)) (kt : ∀ k, r = some k → AX X M d mc ms cu su tgt lv st Z G L Q) (kf : r = none → AX X M d mc ms cu su (pc + 3) lv st Z G L Q) : AX X M d mc ms cu su pc lv (orf r :: st) Z G L Q := by
  intro p l e R s m args below meth c H locs ls dC dI tc ad A N0 ad0 Qr hC hW hl hs hv hg hn hr
  cases r with
  | some k => exact lv_ifnonnull hC.1 hC.2.1 hd ht (kt k rfl p l e R s m args below meth c H locs ls dC dI tc ad A N0 ad0 Qr hC hW hl hs.2 hv hg hn hr)
  | none => exact lv_ifnonnullN hC.1 hC.2.1 hd (kf rfl p l e R s m args below meth c H locs ls dC dI tc ad A N0 ad0 Qr hC hW hl hs.2 hv hg hn hr)
theorem ax_iret {v : Int32} {ty : FieldType} (hd : decode M.2.1 pc = .ok (.ireturn, 1)) (h1 : M.2.2.2 = some ty) (h2 : narrow ty (.int v) = .int v) (hc1 : cu ≤ mc) (hc2 : su ≤ ms) (hq : Q (some (.int v)) Z G L) : AX X M d mc ms cu su pc lv [.int v] Z G L Q := by
  intro p l e R s m args below meth c H locs ls dC dI tc ad A N0 ad0 Qr hC hW hl hs hv hg hn hr
  exact W.widen hc1 hc2 (hr (some (.int v)) Z G L ad H locs pc ls hq hW (fun v h => by cases h; exact trivial) hg hn ⟨hd, ty, h1, h2⟩)
theorem ax_lret {v : Int64} (hd : decode M.2.1 pc = .ok (.lreturn, 1)) (h1 : M.2.2.2 = some .long) (hc1 : cu ≤ mc) (hc2 : su ≤ ms) (hq : Q (some (.long v)) Z G L) : AX X M d mc ms cu su pc lv [.long v] Z G L Q := by
  intro p l e R s m args below meth c H locs ls dC dI tc ad A N0 ad0 Qr hC hW hl hs hv hg hn hr
  exact W.widen hc1 hc2 (hr (some (.long v)) Z G L ad H locs pc ls hq hW (fun v h => by cases h; exact trivial) hg hn ⟨hd, h1⟩)
theorem ax_aret {k : Nat} {rt : FieldType} (hd : decode M.2.1 pc = .ok (.areturn, 1)) (h1 : M.2.2.2 = some rt) (h2 : (∃ n, rt = .object n) ∨ ∃ t, rt = .array t) (hc1 : cu ≤ mc) (hc2 : su ≤ ms) (hq : Q (some (.ref k)) Z G L) : AX X M d mc ms cu su pc lv [.ref k] Z G L Q := by
  intro p l e R s m args below meth c H locs ls dC dI tc ad A N0 ad0 Qr hC hW hl hs hv hg hn hr
  exact W.widen hc1 hc2 (hr (some (.ref k)) Z G L ad H locs pc ls hq hW (fun v h => by cases h; exact hs.1) hg hn ⟨hd, rt, h1, h2⟩)
theorem ax_vret (hd : decode M.2.1 pc = .ok (.return_, 1)) (h1 : M.2.2.2 = none) (hc1 : cu ≤ mc) (hc2 : su ≤ ms) (hq : Q none Z G L) : AX X M d mc ms cu su pc lv [] Z G L Q := by
  intro p l e R s m args below meth c H locs ls dC dI tc ad A N0 ad0 Qr hC hW hl hs hv hg hn hr
  exact W.widen hc1 hc2 (hr none Z G L ad H locs pc ls hq hW (fun v h => by cases h) hg hn ⟨hd, h1⟩)
end AXR
end
section
-- ===== contracts out of the abstract judgement, and calls =====
theorem AO2.moved {C : FieldType} {u U : State} (hvm : u.vm.Alike U.vm) (h : AO2 (.array C) u) : AO2 (.array C) U := by
  obtain ⟨comp, c, k, h1, h2, h3, h4, h5⟩ := arrayOverA_spec h
  obtain ⟨k', hk', he⟩ := hvm.2.2 _ _ h3
  have hi : (U.vm.classes.findIdx? fun (x : Class) => match x.kind with | .array component _ => component == comp | _ => false) = some c := by
    have e1 := va_idx_bare U.vm comp
    have e2 := va_idx_bare u.vm comp
    first | rw [hvm.bare_eq] at e1 | rw [← hvm.bare_eq] at e1
    exact e1.symm.trans (e2.trans h2)
  have hkind : k'.kind = .array comp (.array C) := by rw [he]; exact h4
  have f1 : U.vm.findClass (FieldType.array C).toString = some comp := by rw [hvm.findClass]; exact h1
  have f2 : U.vm.findClass ("[" ++ (FieldType.array C).toString) = some c := by rw [hvm.findClass]; exact h5
  unfold AO2 Cond.before Cond.holds
  simp only [Cond.value]
  rw [f1, Option.bind_some]
  refine (congrArg (fun o : Option Nat => (o.bind (fun c => (U.vm.classes[c]?).map fun (k : Class) => match k.kind with | .array _ ty => decide (ty = FieldType.array C) && decide (U.vm.findClass ("[" ++ (FieldType.array C).toString) = some c) | _ => false) == some true)) hi).trans ?_
  simp [hk', hkind, f2]
theorem SF_in {ad : Nat → Nat} {A A' : Nat → Prop} {s U : State} {H : Heap} {locs : List Loc} (h : SF ad A s) (hS : va_S A s.heap H locs) (hW : s.WarmedH U.vm) (hU : U.heap = H) (hAA : ∀ q, A' q → A q) : SF ad A' U := by
  subst hU
  obtain ⟨h1, h2, h3, h4, h5, h6, h7, h8, h9, h10⟩ := h
  exact ⟨((h1.moved hW.alike).kept hS.2.1).narrow hAA, fun q hq => vk_R.warm hW (h2 q hq), ((h3.moved hW.alike).kept hS.2.1).narrow hAA, ((h4.moved hW.alike).kept hS.2.1).narrow hAA, ((h5.moved hW.alike).kept hS.2.1).narrow hAA, fun q hq => va_Nw.warmM hW (h6 q hq), fun q hq => va_Nw.warmC hW (h7 q hq), h8.moved hW.alike, h9.moved hW.alike, h10.moved hW.alike⟩
theorem SF_ag {N : Nat} {ad ad' : Nat → Nat} {A : Nat → Prop} {s : State} (h : SF ad A s) (hg : Ag N ad ad') : SF ad' A s := by
  have e1 : (fun i => ad' (1000 + i)) = fun i => ad (1000 + i) := funext fun i => hg _ (Or.inr (by omega))
  have e2 : (fun i => ad' (1100 + i)) = fun i => ad (1100 + i) := funext fun i => hg _ (Or.inr (by omega))
  have e3 : ad' 2000 = ad 2000 := hg _ (Or.inr (by omega))
  obtain ⟨h1, h2, h3, h4, h5, h6⟩ := h
  refine ⟨by rw [e1, e2]; exact h1, fun q hq => ?_, by rw [e3]; exact h3, by rw [e3]; exact h4, h5, h6⟩
  rw [hg _ (Or.inr (Nat.le_add_right 1000 _))]
  exact h2 q hq
theorem SX_ag {N : Nat} {X : Option (Nat × (Nat → Int32))} {ad ad' : Nat → Nat} {A : Nat → Prop} {s : State} (h : SX X ad A s) (hg : Ag N ad ad') : SX X ad' A s := by
  have e3 : ad' 3000 = ad 3000 := hg _ (Or.inr (by omega))
  cases X with
  | none => trivial
  | some q =>
    unfold SX at h ⊢
    rw [e3]
    exact h
theorem lg_sl_cs (ad : Nat → Nat) : ∀ av : List Value, (lg_sl (cs ad av)).length = (lg_sl av).length
  | [] => rfl
  | v :: t => by
    have ih := lg_sl_cs ad t
    unfold lg_sl at ih ⊢
    show (List.flatMap _ (cv ad v :: cs ad t)).length = _
    rw [List.flatMap_cons, List.flatMap_cons, List.length_append, List.length_append, ih, cv_cat]
    by_cases h : v.category = 2
    · rw [if_pos h, if_pos h]; rfl
    · rw [if_neg h, if_neg h]; rfl
theorem lv_args_cs (ad : Nat → Nat) : ∀ (av : List Value) (i j : Nat) (v : Value), lk (lv_args i av) j = some v → (j, cv ad v) ∈ lv_args i (cs ad av)
  | [], _, _, _, h => by cases h
  | w :: t, i, j, v, h => by
    show (j, cv ad v) ∈ (i, cv ad w) :: lv_args (if (cv ad w).category = 2 then i + 2 else i + 1) (cs ad t)
    rw [cv_cat]
    unfold lv_args lk at h
    cases e : Nat.beq i j with
    | true =>
      rw [show Nat.beq (i, w).1 j = true from e] at h
      cases h
      rw [Nat.eq_of_beq_eq_true e]
      exact List.mem_cons_self
    | false =>
      rw [show Nat.beq (i, w).1 j = false from e] at h
      exact List.mem_cons_of_mem _ (lv_args_cs ad t _ j v h)
theorem okL_args {N : Nat} : ∀ (av : List Value) (i : Nat), okS N av → okL N (lv_args i av)
  | [], _, _ => fun j v h => by cases h
  | w :: t, i, h => okL_cons (okL_args t _ h.2) h.1
theorem AC.intro {M : Mt} {d mc ms : Nat} {av : List Value} {Z : Zt} {G : Gt} {L : Lt} {Q : Qt} (hy : plainName M.1.cls = true) (hfit : (lg_sl av).length ≤ M.2.2.1) (k : AX none M d mc ms 0 0 0 (lv_args 0 av) [] Z G L Q) : AC M d mc ms av Z G L Q := by
  intro l dC dI tc ad sz
  refine Met.ofW (cc := M.2.1) (maxL := M.2.2.1) (ret := M.2.2.2) hy rfl ?_
  intro p e s m args below meth c s₁ B hml hv
  obtain ⟨rfl, hsz, hK, hP, hD0, hSF, hWF, hok⟩ := hv
  subst hsz
  have hts := atoms_spec (ws := wsx M) B.pre
  have hl := lv_entry (cs ad av) (n := M.2.2.1) (by rw [lg_sl_cs]; exact hfit)
  rw [lg_entry_eq]
  generalize (lg_sl (cs ad av) ++ List.replicate (M.2.2.1 - (lg_sl (cs ad av)).length) Slot.unset).toArray = ls at hl ⊢
  refine k p l e _ s m _ below meth c s.heap [] ls dC dI tc ad (va_A (cw tc ad Z G L) s.heap.size) Z.1 ad _ ⟨B.exec, B.bytes, hml, B.returns, findClass_of_methodNamed B.named, fun w h => hts w (List.mem_cons_of_mem _ h), B.notSynchronized, (name_of_methodNamed B.named B.method).1, Nat.le_refl _, Nat.le_refl _, Nat.le_refl _, Nat.le_refl _⟩ ⟨hK, hP, hD0.self, va_S.rf, fun q h => Or.inr h, hSF, trivial, hWF⟩ (okL_args av 0 hok) trivial ⟨hl.1, hl.2.1, fun j v h => hl.2.2 _ (lv_args_cs ad av 0 j v h)⟩ Ag_rf (Nat.le_refl _) ?_
  intro r Z' G' L' ad' H locs pc ls2 hq hW hokr hAg hN hRI
  obtain ⟨hK', hP', hD', hS', hA', hSF', -, hWF'⟩ := hW
  have hpost : ∀ t : State, t.heap = H → s.WarmedH t.vm → Qcx dC dI tc ad s.heap.size Z G L Q (cs ad av).toArray s (.returned (r.map (cv ad'))) t := fun t ht hWt => ⟨⟨r, Z', G', L', ad', rfl, hq, hAg, hN, hokr, hWF', by rw [ht]; exact hP', hD'⟩, hS'.F ht⟩
  have hlocks := B.notSynchronized
  cases r with
  | none => exact W.vret B.exec B.bytes (B.returns.trans hRI.2) hpost hS'.2.2 hRI.1
  | some v =>
    cases v with
    | int x =>
      obtain ⟨h1, ty, h2, h3⟩ := hRI
      exact W.zret B.exec B.bytes (B.returns.trans h2) h3 hpost hS'.2.2 h1
    | long x =>
      obtain ⟨h1, h2⟩ := hRI
      exact W.lret B.exec B.bytes (B.returns.trans h2) hpost hS'.2.2 h1
    | ref x =>
      obtain ⟨h1, rt, h2, h3⟩ := hRI
      exact W.aret B.exec B.bytes (B.returns.trans h2) h3 (Or.inr ⟨_, rfl⟩) hpost hS'.2.2 h1
    | _ => exact hRI.elim
theorem Pcx_blind {dC : Nat → ClassId} {dI : Nat → Nat → Nat} {tc : FieldType → ClassId} {ad : Nat → Nat} {sz : Nat} {av : List Value} {Z : Zt} {G : Gt} {L : Lt} : FrameBlind (Pcx dC dI tc ad sz av Z G L) := by
  intro a U g mk h
  obtain ⟨h0, h1, h2, h3, h4, h5, h6⟩ := h
  obtain ⟨q1, q2, q3, q4, q5, q6, q7, q8, q9, q10⟩ := h5
  have hal : U.vm.Alike (U.calling g mk a).vm := Vm.Alike.refl U.vm
  refine ⟨h0, h1, va_K.moved hal h2, h3, h4, ⟨q1.moved hal, fun q hq => vk_R.same rfl (q2 q hq), q3.moved hal, q4.moved hal, q5.moved hal, fun q hq => va_Nw.same rfl rfl (q6 q hq), fun q hq => va_Nw.same rfl rfl (q7 q hq), q8.moved hal, q9.moved hal, q10.moved hal⟩, h6⟩
theorem Wd_free {X : Option (Nat × (Nat → Int32))} {dC : Nat → ClassId} {dI : Nat → Nat → Nat} {tc : FieldType → ClassId} {ad : Nat → Nat} {A : Nat → Prop} {Z : Zt} {G : Gt} {L : Lt} {s : State} {H : Heap} {locs : List Loc} (hW : Wd X dC dI tc ad A Z G L s H locs) : ∀ q, va_A (cw tc ad Z G L) H.size q → A q := by
  obtain ⟨hK, hP, hD, hS, hA, -⟩ := hW
  intro q h
  rcases h with ⟨k, e, h⟩ | h
  · exact hD.2 k _ h
  · exact hA q (Nat.le_trans hS.1 h)
theorem Wd_pre {X : Option (Nat × (Nat → Int32))} {dC : Nat → ClassId} {dI : Nat → Nat → Nat} {tc : FieldType → ClassId} {ad : Nat → Nat} {A : Nat → Prop} {Z : Zt} {G : Gt} {L : Lt} {s : State} {H : Heap} {locs : List Loc} (hW : Wd X dC dI tc ad A Z G L s H locs) {av : List Value} (hok : okS Z.1 av) (U : State) (hU : U.heap = H) (hWm : s.WarmedH U.vm) : Pcx dC dI tc ad H.size av Z G L (cs ad av).toArray U := by
  have hf := Wd_free hW
  obtain ⟨hK, hP, hD, hS, hA, hSF, -, hWF⟩ := hW
  exact ⟨rfl, by rw [hU], va_K.moved hWm.alike hK, by rw [hU]; exact hP, hD.weaken (fun _ _ _ _ => trivial), SF_in hSF hS hWm hU hf, hWF, hok⟩
theorem GoodIn_ws {M : Mt} (h : CW M ∈ TB) : GoodIn TB (wsx M) := by
  intro w hw
  rcases List.mem_cons.mp hw with rfl | h2
  · exact ⟨h, good_of_word (TB_good h)⟩
  · exact ⟨h2, good_of_word (TB_good h2)⟩
section AXC
variable {X : Option (Nat × (Nat → Int32))} {M : Mt} {d mc ms cu su pc : Nat} {lv : Lv} {st : List Value} {Z : Zt} {G : Gt} {L : Lt} {Q : Qt}
theorem ax_back {mc' ms' : Nat} {st0 : List Value} {Q' : Qt} {a : Array Value} {p : Program} {l : Launch} {e : Env} {R : Room} {s : State} {m : MethodId} {args : Array Value} {below : List Frame} {meth : Method} {c : Code} {H : Heap} {locs : List Loc} {ls : Array Slot} {dC : Nat → ClassId} {dI : Nat → Nat → Nat} {tc : FieldType → ClassId} {ad : Nat → Nat} {A : Nat → Prop} {N0 : Nat} {ad0 : Nat → Nat} {Qr : State → Prop}
    (hC : Cx M d mc ms p R s m args meth c) (hW : Wd X dC dI tc ad A Z G L s H locs) (hl : okL Z.1 lv) (hs : okS Z.1 st) (hv : LV ad ls M.2.2.1 lv) (hg : Ag N0 ad0 ad) (hn : N0 ≤ Z.1) (hr : Rt X M mc ms Q p l e R s m args below meth c dC dI tc A N0 ad0 Qr)
    (run : va_Run p l e R s m args below meth c H locs cu su mc' ms' (F0 m pc ls st0) (cs ad st) (Qcx dC dI tc ad H.size Z G L Q' a) (va_A (cw tc ad Z G L) H.size))
    (kk : ∀ (r : Option Value) (Z' : Zt) (G' : Gt) (L' : Lt), Q' r Z' G' L' → AX X M d mc ms (cu + mc') (su + ms') (pc + 3) lv (r.toList ++ st) Z' G' L' Q) : W p l e R s m args below meth c H locs cu su Qr (F0 m pc ls st0) := by
  intro T hT Xs
  have hfree := Wd_free hW
  obtain ⟨v, st₀, t, T', Lc, h0, X', hL, e1, e2, ⟨⟨r, Z', G', L', ad', hv', hq, hag, hN', hok', hWF', hP', hD'⟩, hz, hk⟩, stp⟩ := run T hT Xs
  cases hv'
  obtain ⟨hK, hP, hD, hS, hA, hSF, hSX, hWF⟩ := hW
  rw [h0] at hz hk
  obtain ⟨t2, a1, b1⟩ := kk r Z' G' L' hq p l e R s m args below meth c T'.heap (locs ++ Lc) ls dC dI tc ad' A N0 ad0 Qr hC ⟨hK, by rw [e1]; exact hP', hD'.weaken (fun k q _ h => hfree _ h),
    ⟨Nat.le_trans hS.1 (by rw [e1]; exact hz), fun q h1 h2 => by rw [e1, hk q (Nat.lt_of_lt_of_le h1 hS.1) (fun z => h2 (hfree q z))]; exact hS.2.1 q h1 h2, fun q hq => by
      rcases List.mem_append.mp hq with h | h
      · exact hS.2.2 q h
      · exact hfree _ (hL q h)⟩, hA, SF_ag hSF hag, SX_ag hSX hag, hWF'⟩ (okL_mono hN' hl) (okS_app.mpr ⟨by
        cases r with
        | none => trivial
        | some w => exact ⟨hok' w rfl, trivial⟩, okS_mono hN' hs⟩) (LV_ag hag hl hv) (Ag_tr hn hg hag) (Nat.le_trans hn hN') hr T' rfl X'
  refine ⟨t2, stp t2 ?_, b1⟩
  rw [cs_app, cs_ag hag hs] at a1
  have e9 : (r.map (cv ad')).toList = cs ad' r.toList := by cases r <;> rfl
  rw [e9]
  exact a1
def LkS (own : String) (idx : Nat) (M' : Mt) (n : Nat) : Prop := Cond.methodLink own idx M'.1 ∈ TB ∧ Cond.static M'.1 ∈ TB ∧ Cond.initialized M'.1.cls ∈ TB ∧ CW M' ∈ TB ∧ (M'.1.cls ≠ "java/lang/invoke/MethodHandle" ∧ M'.1.cls ≠ "java/lang/invoke/VarHandle" ∧ (parseMethodDescriptor M'.1.desc).map (fun d => d.parameters.length) = some n) ∧ M'.2.2.1 ≤ 45
theorem ax_callS {idx n d' mc' ms' : Nat} {M' : Mt} {av st0 : List Value} {Q' : Qt} (hd : decode M.2.1 pc = .ok (.invokestatic idx, 3)) (hlk : LkS M.1.cls idx M' n) (hA : AC M' d' mc' ms' av Z G L Q') (hst0 : st0 = av.reverse ++ st) (hn9 : av.length = n) (hst : (st.map fun v => v.category).sum ≤ 8) (hdd : d' + 1 ≤ d) (hc1 : cu + mc' ≤ mc) (hc2 : su + ms' ≤ ms)
    (kk : ∀ (r : Option Value) (Z' : Zt) (G' : Gt) (L' : Lt), Q' r Z' G' L' → AX X M d mc ms (cu + mc') (su + ms') (pc + 3) lv (r.toList ++ st) Z' G' L' Q) : AX X M d mc ms cu su pc lv st0 Z G L Q := by
  subst hst0
  intro p l e R s m args below meth c H locs ls dC dI tc ad A N0 ad0 Qr hC hW hl hs hv hg hn hr
  obtain ⟨k1, k2, k3, k4, k5, k6⟩ := hlk
  have hs2 := okS_app.mp hs
  obtain ⟨c1, c2, c3, c4, c5, c6, c7, c8, c9, c10, c11, c12⟩ := id hC
  refine ax_back hC hW hl hs2.2 hv hg hn hr (va_runS (As := cs ad av) (rest := cs ad st) ⟨c1, c2, c3, c5, c6⟩ (hA l dC dI tc ad H.size) ⟨callB_of n c6 (GoodIn_ws k4) rfl rfl rfl (c6 _ k3) (c6 _ k1) k5 ⟨by show d' + 1 ≤ R.frames; omega, by show 8 + (M'.2.2.1 + 11) + 64 * d' ≤ R.locals; omega⟩, c6 _ k2⟩ ⟨Pcx_blind, Wd_pre hW (okS_rev' hs2.1)⟩ rfl (by rw [cs_len]; exact hn9) hv.1 (by show cs ad (av.reverse ++ st) = _; rw [cs_app, cs_rev]) (lv_room (by rw [cs_cat]; exact hst)) hd ⟨by omega, by omega⟩) kk
def LkV (own : String) (idx : Nat) (M' : Mt) (n : Nat) : Prop := Cond.methodLink own idx M'.1 ∈ TB ∧ Cond.instanceMethod M'.1 ∈ TB ∧ Cond.selects M'.1.cls M'.1 M'.1 ∈ TB ∧ Cond.initialized M'.1.cls ∈ TB ∧ CW M' ∈ TB ∧ (M'.1.cls ≠ "java/lang/invoke/MethodHandle" ∧ M'.1.cls ≠ "java/lang/invoke/VarHandle" ∧ (parseMethodDescriptor M'.1.desc).map (fun d => d.parameters.length) = some n) ∧ M'.2.2.1 ≤ 45
theorem cw_get {tc : FieldType → ClassId} {ad : Nat → Nat} {k : Nat} (h : k < Z.1) : (cw tc ad Z G L)[k]? = some (ad k, cellOf tc ad Z G L k) := by
  unfold cw
  rw [List.getElem?_map, List.getElem?_range h]
  rfl
theorem cw_obj {tc : FieldType → ClassId} {ad : Nat → Nat} {k ci : Nat} (hF : WF Z) (h : Z.2.1 k = some (.inl ci)) : (cw tc ad Z G L)[k]? = some (ad k, .inr (ci, (List.range (nF ci)).map (fun i => fv ad (tyF ci i) Z G L k i))) := by
  rw [cw_get (hF.2.1 k _ h)]
  unfold cellOf
  rw [h]
theorem cw_arr {tc : FieldType → ClassId} {ad : Nat → Nat} {k : Nat} {ty : FieldType} {n : Nat} (hF : WF Z) (h : Z.2.1 k = some (.inr (ty, n))) : (cw tc ad Z G L)[k]? = some (ad k, .inl (tc ty, av9 ad ty n Z G L k)) := by
  rw [cw_get (hF.2.1 k _ h)]
  unfold cellOf
  rw [h]
theorem ax_callV {idx n d' mc' ms' k ci : Nat} {M' : Mt} {av st0 : List Value} {Q' : Qt} (hd : decode M.2.1 pc = .ok (.invokevirtual idx, 3)) (hlk : LkV M.1.cls idx M' n) (hA : AC M' d' mc' ms' (.ref k :: av) Z G L Q') (hst0 : st0 = av.reverse ++ .ref k :: st) (hsh : Z.2.1 k = some (.inl ci)) (hci : ∃ q : vw_C, CL[ci]? = some q ∧ q.1 = M'.1.cls) (hn9 : av.length = n) (hst : (st.map fun v => v.category).sum ≤ 8) (hdd : d' + 1 ≤ d) (hc1 : cu + mc' ≤ mc) (hc2 : su + ms' ≤ ms)
    (kk : ∀ (r : Option Value) (Z' : Zt) (G' : Gt) (L' : Lt), Q' r Z' G' L' → AX X M d mc ms (cu + mc') (su + ms') (pc + 3) lv (r.toList ++ st) Z' G' L' Q) : AX X M d mc ms cu su pc lv st0 Z G L Q := by
  subst hst0
  intro p l e R s m args below meth c H locs ls dC dI tc ad A N0 ad0 Qr hC hW hl hs hv hg hn hr
  obtain ⟨k1, k2, k3, k4, k5, k6, k7⟩ := hlk
  have hs2 := okS_app.mp hs
  obtain ⟨c1, c2, c3, c4, c5, c6, c7, c8, c9, c10, c11, c12⟩ := id hC
  obtain ⟨q, hq1, hq2⟩ := hci
  have hrecv : ∃ cell : Cell, H[ad k]? = some cell ∧ cell.vm.isStatics = false ∧ s.vm.findClass M'.1.cls = some cell.cls := by
    rw [← hq2]
    exact va_recv hW.1 hW.2.1 hq1 (cw_obj hW.2.2.2.2.2.2.2 hsh)
  refine ax_back hC hW hl hs2.2.2 hv hg hn hr (va_runV (C := M'.1.cls) (b := ad k) (As := cs ad av) (rest := cs ad st) ⟨c1, c2, c3, c5, c6⟩ (hA l dC dI tc ad H.size) ⟨callB_of n c6 (GoodIn_ws k5) rfl rfl rfl (c6 _ k4) (c6 _ k1) k6 ⟨by show d' + 1 ≤ R.frames; omega, by show 8 + (M'.2.2.1 + 11) + 64 * d' ≤ R.locals; omega⟩, c6 _ k2, c6 _ k3⟩ ⟨Pcx_blind, hrecv, Wd_pre hW (av := .ref k :: av) ⟨hs2.2.1, okS_rev' hs2.1⟩⟩ rfl (by rw [cs_len]; exact hn9) hv.1 (by show cs ad (av.reverse ++ .ref k :: st) = _; rw [cs_app, cs_rev]; rfl) (lv_room (by rw [cs_cat]; exact hst)) hd ⟨by omega, by omega⟩) kk
end AXC
end
section
-- ===== rows of the abstract machine: fields and arrays =====
def isI (ty : FieldType) : Bool := match ty with
  | .int => true
  | .boolean => true
  | .byte => true
  | .short => true
  | .char => true
  | _ => false
def isR (ty : FieldType) : Bool := match ty with
  | .object _ => true
  | .array _ => true
  | _ => false
theorem fv_I {ad : Nat → Nat} {ty : FieldType} {Z : Zt} {G : Gt} {L : Lt} {k i : Nat} (h : isI ty = true) : fv ad ty Z G L k i = .int (G k i) := by cases ty <;> first | rfl | cases h
theorem fv_R {ad : Nat → Nat} {ty : FieldType} {Z : Zt} {G : Gt} {L : Lt} {k i : Nat} (h : isR ty = true) : fv ad ty Z G L k i = va_rf ((Z.2.2 k i).map ad) := by cases ty <;> first | rfl | cases h
theorem orf_cv (ad : Nat → Nat) (o : Option Nat) : cv ad (orf o) = va_rf (o.map ad) := by cases o <;> rfl
/-- a field: own's constant idx names field i of class ci -/
def FL (own : String) (idx ci i : Nat) : Prop := ∃ C T N, CL[ci]? = some (C, T, N) ∧ nF ci = N ∧ i < N ∧ Cond.fieldLink own idx (T i).1 (T i).2.1 (T i).2.2.1 ∈ TB ∧ (∀ w ∈ u_ws C T N, w ∈ TB) ∧ (∀ k, k < N → parseFieldDescriptor (T k).2.2.1 = some (tyF ci k)) ∧ (∀ a, a < N → ∀ b, b < N → a ≠ b → (T a).2.1 ≠ (T b).2.1)
def FLp (ci i : Nat) (fin : Bool) (own : String) : Prop := ∃ C T N, CL[ci]? = some (C, T, N) ∧ (T i).2.2.2 = fin ∧ (T i).1 = own
theorem up2_s {α : Type} {G : Nat → Nat → α} {k i : Nat} {v : α} : up2 G k i v k i = v := by simp [up2]
theorem up2_k {α : Type} {G : Nat → Nat → α} {k i a b : Nat} {v : α} (h : a ≠ k) : up2 G k i v a b = G a b := by simp [up2, h]
theorem up2_i {α : Type} {G : Nat → Nat → α} {k i a b : Nat} {v : α} (h : b ≠ i) : up2 G k i v a b = G a b := by simp [up2, h]
theorem up2_row {α : Type} {G : Nat → Nat → α} {k i a : Nat} {v : α} (h : a ≠ k) : up2 G k i v a = G a := funext fun b => up2_k h
theorem up2_upd {G : Gt} {k i : Nat} {v : Int32} : up2 G k i v k = upd (G k) i v := by funext b; simp [up2, upd]
theorem up2_updL {L : Lt} {k i : Nat} {v : Int64} : up2 L k i v k = vp_updL (L k) i v := by funext b; simp [up2, vp_updL]
theorem up2_up {α : Type} {G : Nat → Nat → α} {k i : Nat} {v : α} : up2 G k i v k = va_up (G k) i v := by funext b; simp [up2, va_up]
theorem cell_cong {tc : FieldType → ClassId} {ad : Nat → Nat} {Z Z' : Zt} {G G' : Gt} {L L' : Lt} {k : Nat} (h1 : Z'.2.1 k = Z.2.1 k) (h2 : Z'.2.2 k = Z.2.2 k) (h3 : G' k = G k) (h4 : L' k = L k) : cellOf tc ad Z' G' L' k = cellOf tc ad Z G L k := by
  unfold cellOf
  rw [h1]
  cases e : Z.2.1 k with
  | none => rfl
  | some x =>
    cases x with
    | inl ci =>
      show Sum.inr (ci, _) = Sum.inr (ci, _)
      refine congrArg (fun z => Sum.inr (ci, z)) (List.map_congr_left fun i _ => ?_)
      unfold fv
      rw [h2, h3, h4]
    | inr q =>
      show Sum.inl (tc q.1, _) = Sum.inl (tc q.1, _)
      unfold av9
      rw [h2, h3, h4]
theorem cw_set {tc : FieldType → ClassId} {ad : Nat → Nat} {Z Z' : Zt} {G G' : Gt} {L L' : Lt} {k : Nat} {e : va_E} (hN : Z'.1 = Z.1) (ho : ∀ j, j ≠ k → cellOf tc ad Z' G' L' j = cellOf tc ad Z G L j) (he : cellOf tc ad Z' G' L' k = e) : (cw tc ad Z G L).set k (ad k, e) = cw tc ad Z' G' L' := by
  unfold cw
  rw [hN]
  apply List.ext_getElem?
  intro j
  rw [List.getElem?_set, List.getElem?_map, List.getElem?_map]
  by_cases hj : k = j
  · subst hj
    rw [if_pos rfl]
    by_cases h : k < Z.1
    · rw [List.getElem?_range h]
      simp [h, he]
    · rw [List.getElem?_eq_none (by simp; omega)]
      simp [h]
  · rw [if_neg hj]
    by_cases h : j < Z.1
    · rw [List.getElem?_range h]
      show some (ad j, _) = some (ad j, _)
      rw [ho j (fun z => hj z.symm)]
    · rw [List.getElem?_eq_none (by simp; omega)]
      rfl
section AXH
variable {X : Option (Nat × (Nat → Int32))} {M : Mt} {d mc ms cu su pc : Nat} {lv : Lv} {st : List Value} {Z : Zt} {G : Gt} {L : Lt} {Q : Qt}
theorem ax_getI {idx ci i k : Nat} (hd : decode M.2.1 pc = .ok (.getfield idx, 3)) (hf : FL M.1.cls idx ci i) (ht : isI (tyF ci i) = true) (hz : Z.2.1 k = some (.inl ci)) (kk : AX X M d mc ms cu su (pc + 3) lv (.int (G k i) :: st) Z G L Q) : AX X M d mc ms cu su pc lv (.ref k :: st) Z G L Q := by
  intro p l e R s m args below meth c H locs ls dC dI tc ad A N0 ad0 Qr hC hW hl hs hv hg hn hr
  obtain ⟨C, T, N, f1, f2, f3, f4, f5, f6, f7⟩ := hf
  obtain ⟨c1, c2, c3, c4, c5, c6, c7⟩ := id hC
  obtain ⟨hK, hP, hD, hS, hA, hSF, hSX, hF⟩ := id hW
  refine va_get (D := (dC, dI)) (ci := ci) (v := .int (G k i)) c1 c2 c6 f5 c5 hK hP k (cw_obj hF hz) f1 i f3 (c6 _ f4) (fun _ h9 => h9) ?_ hd (kk p l e R s m args below meth c H locs ls dC dI tc ad A N0 ad0 Qr hC hW hl ⟨trivial, hs.2⟩ hv hg hn hr)
  rw [f2, List.getElem?_map, List.getElem?_range f3]
  exact congrArg some (fv_I ht)
theorem ax_getO {idx ci i k : Nat} (hd : decode M.2.1 pc = .ok (.getfield idx, 3)) (hf : FL M.1.cls idx ci i) (ht : isR (tyF ci i) = true) (hz : Z.2.1 k = some (.inl ci)) (kk : AX X M d mc ms cu su (pc + 3) lv (orf (Z.2.2 k i) :: st) Z G L Q) : AX X M d mc ms cu su pc lv (.ref k :: st) Z G L Q := by
  intro p l e R s m args below meth c H locs ls dC dI tc ad A N0 ad0 Qr hC hW hl hs hv hg hn hr
  obtain ⟨C, T, N, f1, f2, f3, f4, f5, f6, f7⟩ := hf
  obtain ⟨c1, c2, c3, c4, c5, c6, c7⟩ := id hC
  obtain ⟨hK, hP, hD, hS, hA, hSF, hSX, hF⟩ := id hW
  refine va_get (D := (dC, dI)) (ci := ci) (v := cv ad (orf (Z.2.2 k i))) c1 c2 c6 f5 c5 hK hP k (cw_obj hF hz) f1 i f3 (c6 _ f4) (fun _ h9 => h9) ?_ hd (kk p l e R s m args below meth c H locs ls dC dI tc ad A N0 ad0 Qr hC hW hl ⟨?_, hs.2⟩ hv hg hn hr)
  · rw [f2, List.getElem?_map, List.getElem?_range f3]
    exact congrArg some ((fv_R ht).trans (orf_cv ad _).symm)
  · cases e9 : Z.2.2 k i with
    | none => trivial
    | some j => exact Or.inl (hF.2.2.1 k i j e9)
theorem ax_getR {idx ci i k j : Nat} (hd : decode M.2.1 pc = .ok (.getfield idx, 3)) (hf : FL M.1.cls idx ci i) (ht : isR (tyF ci i) = true) (hz : Z.2.1 k = some (.inl ci)) (hj : Z.2.2 k i = some j) (kk : AX X M d mc ms cu su (pc + 3) lv (.ref j :: st) Z G L Q) : AX X M d mc ms cu su pc lv (.ref k :: st) Z G L Q := ax_getO hd hf ht hz (by rw [hj]; exact kk)
theorem fl_set {ad : Nat → Nat} {Z Z' : Zt} {G G' : Gt} {L L' : Lt} {k ci i : Nat} {v : Value} (ho : ∀ j, j ≠ i → fv ad (tyF ci j) Z' G' L' k j = fv ad (tyF ci j) Z G L k j) (hi : fv ad (tyF ci i) Z' G' L' k i = v) : ((List.range (nF ci)).map (fun i => fv ad (tyF ci i) Z G L k i)).set i v = (List.range (nF ci)).map (fun i => fv ad (tyF ci i) Z' G' L' k i) := by
  apply List.ext_getElem?
  intro j
  rw [List.getElem?_set, List.getElem?_map, List.getElem?_map]
  by_cases hj : i = j
  · subst hj
    rw [if_pos rfl]
    by_cases h : i < nF ci
    · rw [List.getElem?_range h]
      simp [h, hi]
    · rw [List.getElem?_eq_none (by simp; omega)]
      simp [h]
  · rw [if_neg hj]
    by_cases h : j < nF ci
    · rw [List.getElem?_range h]
      exact congrArg some (ho j (fun z => hj z.symm)).symm
    · rw [List.getElem?_eq_none (by simp; omega)]
      rfl
theorem fits_R {ty : FieldType} (h : isR ty = true) (v : Value) (hv : v = .null ∨ ∃ a, v = .ref a) : narrow ty v = v ∧ fits ty v = true := by
  rcases hv with rfl | ⟨a, rfl⟩ <;> cases ty <;> first | exact ⟨rfl, rfl⟩ | cases h
/-- a field of ints is put -/
theorem ax_putI {idx ci i k : Nat} {x : Int32} (hd : decode M.2.1 pc = .ok (.putfield idx, 3)) (hf : FL M.1.cls idx ci i) (hfin : FLp ci i false M.1.cls ∨ (FLp ci i true M.1.cls ∧ M.1.name = "<init>")) (ht : isI (tyF ci i) = true) (hnw : narrow (tyF ci i) (.int x) = .int x) (hfx : fits (tyF ci i) (.int x) = true) (hz : Z.2.1 k = some (.inl ci)) (kk : AX X M d mc ms cu su (pc + 3) lv st Z (up2 G k i x) L Q) : AX X M d mc ms cu su pc lv (.int x :: .ref k :: st) Z G L Q := by
  intro p l e R s m args below meth c H locs ls dC dI tc ad A N0 ad0 Qr hC hW hl hs hv hg hn hr
  obtain ⟨C, T, N, f1, f2, f3, f4, f5, f6, f7⟩ := hf
  obtain ⟨c1, c2, c3, c4, c5, c6, c7, c8, c9⟩ := id hC
  obtain ⟨hK, hP, hD, hS, hA, hSF, hSX, hF⟩ := id hW
  have hlen : i < ((List.range (nF ci)).map (fun i => fv ad (tyF ci i) Z G L k i)).length := by rw [List.length_map, List.length_range, f2]; exact f3
  have e2 : ((List.range (nF ci)).map (fun i => fv ad (tyF ci i) Z G L k i)).set i (.int x) = (List.range (nF ci)).map (fun i' => fv ad (tyF ci i') Z (up2 G k i x) L k i') := fl_set (ad := ad) (Z := Z) (Z' := Z) (G := G) (G' := up2 G k i x) (L := L) (L' := L) (k := k) (ci := ci) (i := i) (v := .int x) (fun j hj => by unfold fv; rw [up2_i hj]) (by rw [fv_I ht, up2_s])
  have e1 : ∀ q, (cw tc ad Z G L).set k (ad k, .inr (ci, ((List.range (nF ci)).map (fun i => fv ad (tyF ci i) Z G L k i)).set i (.int x))) = q → q = cw tc ad Z (up2 G k i x) L := fun q hq => by
    rw [← hq]
    exact cw_set rfl (fun j hj => cell_cong rfl rfl (up2_row hj) rfl) (by unfold cellOf; rw [hz, e2])
  have go : ∀ (H1 : Heap) (locs1 : List Loc), va_P (dC, dI) CL ((cw tc ad Z G L).set k (ad k, .inr (ci, ((List.range (nF ci)).map (fun i => fv ad (tyF ci i) Z G L k i)).set i (.int x)))) H1 → va_D A ((cw tc ad Z G L).set k (ad k, .inr (ci, ((List.range (nF ci)).map (fun i => fv ad (tyF ci i) Z G L k i)).set i (.int x)))) → va_S A s.heap H1 locs1 → W p l e R s m args below meth c H1 locs1 cu su Qr (F0 m (pc + 3) ls (cs ad st)) := fun H1 locs1 hP1 hD1 hS1 => by
    rw [e1 _ rfl] at hP1 hD1
    exact kk p l e R s m args below meth c H1 locs1 ls dC dI tc ad A N0 ad0 Qr hC ⟨hK, hP1, hD1, hS1, hA, hSF, hSX, hF⟩ hl hs.2.2 hv hg hn hr
  rcases hfin with ⟨C', T', N', g1, g2, g3⟩ | ⟨⟨C', T', N', g1, g2, g3⟩, g4⟩
  · cases f1.symm.trans g1
    exact va_put (D := (dC, dI)) (ci := ci) (v := .int x) (ty := tyF ci i) c1 c2 c6 f5 (tyF ci) f6 f7 c5 hK hP hD hS k (cw_obj hF hz) f1 i f3 (c6 _ f4) (fun _ h9 => h9) g2 (f6 i f3) hnw hfx hlen hd go
  · cases f1.symm.trans g1
    exact va_putF (D := (dC, dI)) (ci := ci) (v := .int x) (ty := tyF ci i) c1 c2 c6 f5 (tyF ci) f6 f7 c5 hK hP hD hS k (cw_obj hF hz) f1 i f3 (c6 _ f4) (fun _ h9 => h9) g2 (c8.trans g4) g3 (f6 i f3) hnw hfx hlen hd go
theorem WF_putR {k i j : Nat} (hF : WF Z) (hj : j < Z.1) : WF (Z.1, Z.2.1, up2 Z.2.2 k i (some j)) := by
  refine ⟨hF.1, hF.2.1, fun a b c h => ?_, hF.2.2.2⟩
  unfold up2 at h
  by_cases h1 : a = k
  · by_cases h2 : b = i
    · rw [show (Z.1, Z.2.1, fun a b => if a = k then if b = i then some j else Z.2.2 a b else Z.2.2 a b).2.2 a b = some j by simp [h1, h2]] at h
      cases h
      exact hj
    · exact hF.2.2.1 a b c (by simpa [h1, h2] using h)
  · exact hF.2.2.1 a b c (by simpa [h1] using h)
theorem WF_putN {k i : Nat} (hF : WF Z) : WF (Z.1, Z.2.1, up2 Z.2.2 k i none) := by
  refine ⟨hF.1, hF.2.1, fun a b c h => ?_, hF.2.2.2⟩
  unfold up2 at h
  by_cases h1 : a = k
  · by_cases h2 : b = i
    · simp [h1, h2] at h
    · exact hF.2.2.1 a b c (by simpa [h1, h2] using h)
  · exact hF.2.2.1 a b c (by simpa [h1] using h)
/-- a field of references is put -/
theorem ax_putO {idx ci i k : Nat} {o : Option Nat} (hd : decode M.2.1 pc = .ok (.putfield idx, 3)) (hf : FL M.1.cls idx ci i) (hfin : FLp ci i false M.1.cls ∨ (FLp ci i true M.1.cls ∧ M.1.name = "<init>")) (ht : isR (tyF ci i) = true) (ho : ∀ j, o = some j → j < Z.1) (hz : Z.2.1 k = some (.inl ci)) (kk : AX X M d mc ms cu su (pc + 3) lv st (Z.1, Z.2.1, up2 Z.2.2 k i o) G L Q) : AX X M d mc ms cu su pc lv (orf o :: .ref k :: st) Z G L Q := by
  intro p l e R s m args below meth c H locs ls dC dI tc ad A N0 ad0 Qr hC hW hl hs hv hg hn hr
  obtain ⟨C, T, N, f1, f2, f3, f4, f5, f6, f7⟩ := hf
  obtain ⟨c1, c2, c3, c4, c5, c6, c7, c8, c9⟩ := id hC
  obtain ⟨hK, hP, hD, hS, hA, hSF, hSX, hF⟩ := id hW
  have hF' : WF (Z.1, Z.2.1, up2 Z.2.2 k i o) := by
    cases o with
    | none => exact WF_putN hF
    | some j => exact WF_putR hF (ho j rfl)
  have hvr : cv ad (orf o) = .null ∨ ∃ a, cv ad (orf o) = .ref a := by
    cases o with
    | none => exact Or.inl rfl
    | some j => exact Or.inr ⟨_, rfl⟩
  have hlen : i < ((List.range (nF ci)).map (fun i => fv ad (tyF ci i) Z G L k i)).length := by rw [List.length_map, List.length_range, f2]; exact f3
  have e2 : ((List.range (nF ci)).map (fun i => fv ad (tyF ci i) Z G L k i)).set i (cv ad (orf o)) = (List.range (nF ci)).map (fun i' => fv ad (tyF ci i') (Z.1, Z.2.1, up2 Z.2.2 k i o) G L k i') := fl_set (ad := ad) (Z := Z) (Z' := (Z.1, Z.2.1, up2 Z.2.2 k i o)) (G := G) (G' := G) (L := L) (L' := L) (k := k) (ci := ci) (i := i) (v := cv ad (orf o)) (fun j hj => by unfold fv; rw [show (Z.1, Z.2.1, up2 Z.2.2 k i o).2.2 k j = Z.2.2 k j from up2_i hj]) (by rw [fv_R ht, orf_cv]; exact congrArg (fun z => va_rf (Option.map ad z)) up2_s)
  have e1 : (cw tc ad Z G L).set k (ad k, .inr (ci, ((List.range (nF ci)).map (fun i => fv ad (tyF ci i) Z G L k i)).set i (cv ad (orf o)))) = cw tc ad (Z.1, Z.2.1, up2 Z.2.2 k i o) G L := cw_set rfl (fun j hj => cell_cong rfl (up2_row hj) rfl rfl) (by unfold cellOf; rw [show (Z.1, Z.2.1, up2 Z.2.2 k i o).2.1 k = some (.inl ci) from hz, e2])
  have go : ∀ (H1 : Heap) (locs1 : List Loc), va_P (dC, dI) CL ((cw tc ad Z G L).set k (ad k, .inr (ci, ((List.range (nF ci)).map (fun i => fv ad (tyF ci i) Z G L k i)).set i (cv ad (orf o))))) H1 → va_D A ((cw tc ad Z G L).set k (ad k, .inr (ci, ((List.range (nF ci)).map (fun i => fv ad (tyF ci i) Z G L k i)).set i (cv ad (orf o))))) → va_S A s.heap H1 locs1 → W p l e R s m args below meth c H1 locs1 cu su Qr (F0 m (pc + 3) ls (cs ad st)) := fun H1 locs1 hP1 hD1 hS1 => by
    rw [e1] at hP1 hD1
    exact kk p l e R s m args below meth c H1 locs1 ls dC dI tc ad A N0 ad0 Qr hC ⟨hK, hP1, hD1, hS1, hA, hSF, hSX, hF'⟩ hl hs.2.2 hv hg hn hr
  have hfr := fits_R ht _ hvr
  rcases hfin with ⟨C', T', N', g1, g2, g3⟩ | ⟨⟨C', T', N', g1, g2, g3⟩, g4⟩
  · cases f1.symm.trans g1
    exact va_put (D := (dC, dI)) (ci := ci) (v := cv ad (orf o)) (ty := tyF ci i) c1 c2 c6 f5 (tyF ci) f6 f7 c5 hK hP hD hS k (cw_obj hF hz) f1 i f3 (c6 _ f4) (fun _ h9 => h9) g2 (f6 i f3) hfr.1 hfr.2 hlen hd go
  · cases f1.symm.trans g1
    exact va_putF (D := (dC, dI)) (ci := ci) (v := cv ad (orf o)) (ty := tyF ci i) c1 c2 c6 f5 (tyF ci) f6 f7 c5 hK hP hD hS k (cw_obj hF hz) f1 i f3 (c6 _ f4) (fun _ h9 => h9) g2 (c8.trans g4) g3 (f6 i f3) hfr.1 hfr.2 hlen hd go
end AXH
end
