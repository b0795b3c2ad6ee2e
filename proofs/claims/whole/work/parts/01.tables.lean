-- ===== PART A: goes FIRST, ahead of the names: the tables' words, and 'selects' of the private methods out of them =====
/-- a private method of a class that the tables say can be made, by its rows of tables_1 -/
def lw_okq (q : MethodName × Nat) : Prop := (q.1.cls ≠ "java/lang/invoke/MethodHandle" ∧ q.1.cls ≠ "java/lang/invoke/VarHandle") ∧ Cond.instantiable q.1.cls q.2 ∈ tables_1 ∧ Cond.privateMethod q.1 ∈ tables_1 ∧ Cond.instanceMethod q.1 ∈ tables_1
theorem lw_p0 : lw_okq (⟨"FireApologies", "brightestMinutes", "(I)I"⟩, 11) := ⟨⟨by decide +kernel, by decide +kernel⟩, List.mem_of_getElem? (i := 24) (by decide +kernel), List.mem_of_getElem? (i := 332) (by decide +kernel), List.mem_of_getElem? (i := 333) (by decide +kernel)⟩
theorem lw_p1 : lw_okq (⟨"FireApologies", "lightOn", "(II)I"⟩, 11) := ⟨⟨by decide +kernel, by decide +kernel⟩, List.mem_of_getElem? (i := 24) (by decide +kernel), List.mem_of_getElem? (i := 362) (by decide +kernel), List.mem_of_getElem? (i := 363) (by decide +kernel)⟩
theorem lw_p2 : lw_okq (⟨"FireApologies", "giftTo", "(I)I"⟩, 11) := ⟨⟨by decide +kernel, by decide +kernel⟩, List.mem_of_getElem? (i := 24) (by decide +kernel), List.mem_of_getElem? (i := 366) (by decide +kernel), List.mem_of_getElem? (i := 367) (by decide +kernel)⟩
theorem lw_p3 : lw_okq (⟨"FireApologies", "fitting", "(III)I"⟩, 11) := ⟨⟨by decide +kernel, by decide +kernel⟩, List.mem_of_getElem? (i := 24) (by decide +kernel), List.mem_of_getElem? (i := 394) (by decide +kernel), List.mem_of_getElem? (i := 395) (by decide +kernel)⟩
theorem lw_p4 : lw_okq (⟨"FireApologies", "areMarksSo", "(III)Z"⟩, 11) := ⟨⟨by decide +kernel, by decide +kernel⟩, List.mem_of_getElem? (i := 24) (by decide +kernel), List.mem_of_getElem? (i := 398) (by decide +kernel), List.mem_of_getElem? (i := 399) (by decide +kernel)⟩
theorem lw_p5 : lw_okq (⟨"FireApologies", "isMarkSo", "(III)Z"⟩, 11) := ⟨⟨by decide +kernel, by decide +kernel⟩, List.mem_of_getElem? (i := 24) (by decide +kernel), List.mem_of_getElem? (i := 402) (by decide +kernel), List.mem_of_getElem? (i := 403) (by decide +kernel)⟩
theorem lw_p6 : lw_okq (⟨"FireApologies$Reader", "takeClause", "()Z"⟩, 7) := ⟨⟨by decide +kernel, by decide +kernel⟩, List.mem_of_getElem? (i := 162) (by decide +kernel), List.mem_of_getElem? (i := 444) (by decide +kernel), List.mem_of_getElem? (i := 445) (by decide +kernel)⟩
theorem lw_p7 : lw_okq (⟨"FireApologies$Reader", "next", "()I"⟩, 7) := ⟨⟨by decide +kernel, by decide +kernel⟩, List.mem_of_getElem? (i := 162) (by decide +kernel), List.mem_of_getElem? (i := 448) (by decide +kernel), List.mem_of_getElem? (i := 449) (by decide +kernel)⟩
theorem lw_p8 : lw_okq (⟨"FireApologies$Reader", "takeAll", "(Ljava/lang/String;)Z"⟩, 7) := ⟨⟨by decide +kernel, by decide +kernel⟩, List.mem_of_getElem? (i := 162) (by decide +kernel), List.mem_of_getElem? (i := 453) (by decide +kernel), List.mem_of_getElem? (i := 454) (by decide +kernel)⟩
theorem lw_p9 : lw_okq (⟨"FireApologies$Reader", "take", "(I)Z"⟩, 7) := ⟨⟨by decide +kernel, by decide +kernel⟩, List.mem_of_getElem? (i := 162) (by decide +kernel), List.mem_of_getElem? (i := 505) (by decide +kernel), List.mem_of_getElem? (i := 506) (by decide +kernel)⟩
theorem lw_p10 : lw_okq (⟨"FireApologies$Reader", "takeNumber", "()Z"⟩, 7) := ⟨⟨by decide +kernel, by decide +kernel⟩, List.mem_of_getElem? (i := 162) (by decide +kernel), List.mem_of_getElem? (i := 510) (by decide +kernel), List.mem_of_getElem? (i := 511) (by decide +kernel)⟩
theorem lw_p11 : lw_okq (⟨"FireApologies$Reader", "takeEither", "(I)Z"⟩, 7) := ⟨⟨by decide +kernel, by decide +kernel⟩, List.mem_of_getElem? (i := 162) (by decide +kernel), List.mem_of_getElem? (i := 515) (by decide +kernel), List.mem_of_getElem? (i := 516) (by decide +kernel)⟩
theorem lw_p12 : lw_okq (⟨"FireApologies$Reader", "takeFactor", "(I)Z"⟩, 7) := ⟨⟨by decide +kernel, by decide +kernel⟩, List.mem_of_getElem? (i := 162) (by decide +kernel), List.mem_of_getElem? (i := 519) (by decide +kernel), List.mem_of_getElem? (i := 520) (by decide +kernel)⟩
theorem lw_p13 : lw_okq (⟨"FireApologies$Reader", "addStep", "(III)V"⟩, 7) := ⟨⟨by decide +kernel, by decide +kernel⟩, List.mem_of_getElem? (i := 162) (by decide +kernel), List.mem_of_getElem? (i := 523) (by decide +kernel), List.mem_of_getElem? (i := 524) (by decide +kernel)⟩
theorem lw_p14 : lw_okq (⟨"FireApologies$Reader", "takeTest", "()Z"⟩, 7) := ⟨⟨by decide +kernel, by decide +kernel⟩, List.mem_of_getElem? (i := 162) (by decide +kernel), List.mem_of_getElem? (i := 527) (by decide +kernel), List.mem_of_getElem? (i := 528) (by decide +kernel)⟩
theorem lw_p15 : lw_okq (⟨"FireApologies", "toldOfAll", "(I)I"⟩, 11) := ⟨⟨by decide +kernel, by decide +kernel⟩, List.mem_of_getElem? (i := 24) (by decide +kernel), List.mem_of_getElem? (i := 627) (by decide +kernel), List.mem_of_getElem? (i := 628) (by decide +kernel)⟩
def lw_privs_1 : List (MethodName × Nat) := [(⟨"FireApologies", "brightestMinutes", "(I)I"⟩, 11), (⟨"FireApologies", "lightOn", "(II)I"⟩, 11), (⟨"FireApologies", "giftTo", "(I)I"⟩, 11), (⟨"FireApologies", "fitting", "(III)I"⟩, 11), (⟨"FireApologies", "areMarksSo", "(III)Z"⟩, 11), (⟨"FireApologies", "isMarkSo", "(III)Z"⟩, 11), (⟨"FireApologies$Reader", "takeClause", "()Z"⟩, 7), (⟨"FireApologies$Reader", "next", "()I"⟩, 7), (⟨"FireApologies$Reader", "takeAll", "(Ljava/lang/String;)Z"⟩, 7), (⟨"FireApologies$Reader", "take", "(I)Z"⟩, 7), (⟨"FireApologies$Reader", "takeNumber", "()Z"⟩, 7), (⟨"FireApologies$Reader", "takeEither", "(I)Z"⟩, 7), (⟨"FireApologies$Reader", "takeFactor", "(I)Z"⟩, 7), (⟨"FireApologies$Reader", "addStep", "(III)V"⟩, 7), (⟨"FireApologies$Reader", "takeTest", "()Z"⟩, 7), (⟨"FireApologies", "toldOfAll", "(I)I"⟩, 11)]
theorem lw_r1 : ∀ q ∈ lw_privs_1, lw_okq q := List.forall_mem_cons.mpr ⟨lw_p0, List.forall_mem_cons.mpr ⟨lw_p1, List.forall_mem_cons.mpr ⟨lw_p2, List.forall_mem_cons.mpr ⟨lw_p3, List.forall_mem_cons.mpr ⟨lw_p4, List.forall_mem_cons.mpr ⟨lw_p5, List.forall_mem_cons.mpr ⟨lw_p6, List.forall_mem_cons.mpr ⟨lw_p7, List.forall_mem_cons.mpr ⟨lw_p8, List.forall_mem_cons.mpr ⟨lw_p9, List.forall_mem_cons.mpr ⟨lw_p10, List.forall_mem_cons.mpr ⟨lw_p11, List.forall_mem_cons.mpr ⟨lw_p12, List.forall_mem_cons.mpr ⟨lw_p13, List.forall_mem_cons.mpr ⟨lw_p14, List.forall_mem_cons.mpr ⟨lw_p15, fun _ h => absurd h List.not_mem_nil⟩⟩⟩⟩⟩⟩⟩⟩⟩⟩⟩⟩⟩⟩⟩⟩
theorem lw_p16 : lw_okq (⟨"FireApologies", "enoughFor", "(I)I"⟩, 11) := ⟨⟨by decide +kernel, by decide +kernel⟩, List.mem_of_getElem? (i := 24) (by decide +kernel), List.mem_of_getElem? (i := 634) (by decide +kernel), List.mem_of_getElem? (i := 635) (by decide +kernel)⟩
theorem lw_p17 : lw_okq (⟨"FireApologies", "bestRow", "(I)I"⟩, 11) := ⟨⟨by decide +kernel, by decide +kernel⟩, List.mem_of_getElem? (i := 24) (by decide +kernel), List.mem_of_getElem? (i := 651) (by decide +kernel), List.mem_of_getElem? (i := 652) (by decide +kernel)⟩
theorem lw_p18 : lw_okq (⟨"FireApologies", "orderOf", "(II)V"⟩, 11) := ⟨⟨by decide +kernel, by decide +kernel⟩, List.mem_of_getElem? (i := 24) (by decide +kernel), List.mem_of_getElem? (i := 655) (by decide +kernel), List.mem_of_getElem? (i := 656) (by decide +kernel)⟩
theorem lw_p19 : lw_okq (⟨"FireApologies", "canLightOrder", "(I)Z"⟩, 11) := ⟨⟨by decide +kernel, by decide +kernel⟩, List.mem_of_getElem? (i := 24) (by decide +kernel), List.mem_of_getElem? (i := 659) (by decide +kernel), List.mem_of_getElem? (i := 660) (by decide +kernel)⟩
theorem lw_p20 : lw_okq (⟨"FireApologies", "tryOrder", "(I)V"⟩, 11) := ⟨⟨by decide +kernel, by decide +kernel⟩, List.mem_of_getElem? (i := 24) (by decide +kernel), List.mem_of_getElem? (i := 663) (by decide +kernel), List.mem_of_getElem? (i := 664) (by decide +kernel)⟩
theorem lw_p21 : lw_okq (⟨"FireApologies", "tryPlanned", "(II)V"⟩, 11) := ⟨⟨by decide +kernel, by decide +kernel⟩, List.mem_of_getElem? (i := 24) (by decide +kernel), List.mem_of_getElem? (i := 703) (by decide +kernel), List.mem_of_getElem? (i := 704) (by decide +kernel)⟩
theorem lw_p22 : lw_okq (⟨"FireApologies", "hasItem", "(II)Z"⟩, 11) := ⟨⟨by decide +kernel, by decide +kernel⟩, List.mem_of_getElem? (i := 24) (by decide +kernel), List.mem_of_getElem? (i := 719) (by decide +kernel), List.mem_of_getElem? (i := 720) (by decide +kernel)⟩
theorem lw_p23 : lw_okq (⟨"FireApologies", "hasItems", "(III)Z"⟩, 11) := ⟨⟨by decide +kernel, by decide +kernel⟩, List.mem_of_getElem? (i := 24) (by decide +kernel), List.mem_of_getElem? (i := 855) (by decide +kernel), List.mem_of_getElem? (i := 856) (by decide +kernel)⟩
theorem lw_p24 : lw_okq (⟨"FireApologiesModel", "isOne", "(I)Z"⟩, 49) := ⟨⟨by decide +kernel, by decide +kernel⟩, List.mem_of_getElem? (i := 860) (by decide +kernel), List.mem_of_getElem? (i := 1029) (by decide +kernel), List.mem_of_getElem? (i := 1030) (by decide +kernel)⟩
theorem lw_p25 : lw_okq (⟨"FireApologiesModel", "lightOf", "(I)I"⟩, 49) := ⟨⟨by decide +kernel, by decide +kernel⟩, List.mem_of_getElem? (i := 860) (by decide +kernel), List.mem_of_getElem? (i := 1033) (by decide +kernel), List.mem_of_getElem? (i := 1034) (by decide +kernel)⟩
theorem lw_p26 : lw_okq (⟨"FireApologiesModel", "sum", "(I)I"⟩, 49) := ⟨⟨by decide +kernel, by decide +kernel⟩, List.mem_of_getElem? (i := 860) (by decide +kernel), List.mem_of_getElem? (i := 1037) (by decide +kernel), List.mem_of_getElem? (i := 1038) (by decide +kernel)⟩
theorem lw_p27 : lw_okq (⟨"FireApologiesModel", "isTrue", "(II)Z"⟩, 49) := ⟨⟨by decide +kernel, by decide +kernel⟩, List.mem_of_getElem? (i := 860) (by decide +kernel), List.mem_of_getElem? (i := 1041) (by decide +kernel), List.mem_of_getElem? (i := 1042) (by decide +kernel)⟩
theorem lw_p28 : lw_okq (⟨"FireApologiesModel", "letterOf", "(II)I"⟩, 49) := ⟨⟨by decide +kernel, by decide +kernel⟩, List.mem_of_getElem? (i := 860) (by decide +kernel), List.mem_of_getElem? (i := 1045) (by decide +kernel), List.mem_of_getElem? (i := 1046) (by decide +kernel)⟩
theorem lw_p29 : lw_okq (⟨"FireApologiesModel", "areSo", "(I)I"⟩, 49) := ⟨⟨by decide +kernel, by decide +kernel⟩, List.mem_of_getElem? (i := 860) (by decide +kernel), List.mem_of_getElem? (i := 1049) (by decide +kernel), List.mem_of_getElem? (i := 1050) (by decide +kernel)⟩
theorem lw_p30 : lw_okq (⟨"FireApologiesModel", "brightest", "(II)I"⟩, 49) := ⟨⟨by decide +kernel, by decide +kernel⟩, List.mem_of_getElem? (i := 860) (by decide +kernel), List.mem_of_getElem? (i := 1054) (by decide +kernel), List.mem_of_getElem? (i := 1055) (by decide +kernel)⟩
theorem lw_p31 : lw_okq (⟨"FireApologiesModel", "keep", "([I)V"⟩, 49) := ⟨⟨by decide +kernel, by decide +kernel⟩, List.mem_of_getElem? (i := 860) (by decide +kernel), List.mem_of_getElem? (i := 1058) (by decide +kernel), List.mem_of_getElem? (i := 1059) (by decide +kernel)⟩
def lw_privs_2 : List (MethodName × Nat) := [(⟨"FireApologies", "enoughFor", "(I)I"⟩, 11), (⟨"FireApologies", "bestRow", "(I)I"⟩, 11), (⟨"FireApologies", "orderOf", "(II)V"⟩, 11), (⟨"FireApologies", "canLightOrder", "(I)Z"⟩, 11), (⟨"FireApologies", "tryOrder", "(I)V"⟩, 11), (⟨"FireApologies", "tryPlanned", "(II)V"⟩, 11), (⟨"FireApologies", "hasItem", "(II)Z"⟩, 11), (⟨"FireApologies", "hasItems", "(III)Z"⟩, 11), (⟨"FireApologiesModel", "isOne", "(I)Z"⟩, 49), (⟨"FireApologiesModel", "lightOf", "(I)I"⟩, 49), (⟨"FireApologiesModel", "sum", "(I)I"⟩, 49), (⟨"FireApologiesModel", "isTrue", "(II)Z"⟩, 49), (⟨"FireApologiesModel", "letterOf", "(II)I"⟩, 49), (⟨"FireApologiesModel", "areSo", "(I)I"⟩, 49), (⟨"FireApologiesModel", "brightest", "(II)I"⟩, 49), (⟨"FireApologiesModel", "keep", "([I)V"⟩, 49)]
theorem lw_r2 : ∀ q ∈ lw_privs_2, lw_okq q := List.forall_mem_cons.mpr ⟨lw_p16, List.forall_mem_cons.mpr ⟨lw_p17, List.forall_mem_cons.mpr ⟨lw_p18, List.forall_mem_cons.mpr ⟨lw_p19, List.forall_mem_cons.mpr ⟨lw_p20, List.forall_mem_cons.mpr ⟨lw_p21, List.forall_mem_cons.mpr ⟨lw_p22, List.forall_mem_cons.mpr ⟨lw_p23, List.forall_mem_cons.mpr ⟨lw_p24, List.forall_mem_cons.mpr ⟨lw_p25, List.forall_mem_cons.mpr ⟨lw_p26, List.forall_mem_cons.mpr ⟨lw_p27, List.forall_mem_cons.mpr ⟨lw_p28, List.forall_mem_cons.mpr ⟨lw_p29, List.forall_mem_cons.mpr ⟨lw_p30, List.forall_mem_cons.mpr ⟨lw_p31, fun _ h => absurd h List.not_mem_nil⟩⟩⟩⟩⟩⟩⟩⟩⟩⟩⟩⟩⟩⟩⟩⟩
theorem lw_p32 : lw_okq (⟨"FireApologiesModel", "goesMinute", "()V"⟩, 49) := ⟨⟨by decide +kernel, by decide +kernel⟩, List.mem_of_getElem? (i := 860) (by decide +kernel), List.mem_of_getElem? (i := 1062) (by decide +kernel), List.mem_of_getElem? (i := 1063) (by decide +kernel)⟩
theorem lw_p33 : lw_okq (⟨"FireApologiesModel", "dryBy", "()I"⟩, 49) := ⟨⟨by decide +kernel, by decide +kernel⟩, List.mem_of_getElem? (i := 860) (by decide +kernel), List.mem_of_getElem? (i := 1066) (by decide +kernel), List.mem_of_getElem? (i := 1067) (by decide +kernel)⟩
theorem lw_p34 : lw_okq (⟨"FireApologiesModel", "again", "([I)V"⟩, 49) := ⟨⟨by decide +kernel, by decide +kernel⟩, List.mem_of_getElem? (i := 860) (by decide +kernel), List.mem_of_getElem? (i := 1072) (by decide +kernel), List.mem_of_getElem? (i := 1073) (by decide +kernel)⟩
theorem lw_p35 : lw_okq (⟨"FireApologiesModel", "gift", "(I)I"⟩, 49) := ⟨⟨by decide +kernel, by decide +kernel⟩, List.mem_of_getElem? (i := 860) (by decide +kernel), List.mem_of_getElem? (i := 1076) (by decide +kernel), List.mem_of_getElem? (i := 1077) (by decide +kernel)⟩
theorem lw_p36 : lw_okq (⟨"FireApologiesModel", "lightsAll", "(I)V"⟩, 49) := ⟨⟨by decide +kernel, by decide +kernel⟩, List.mem_of_getElem? (i := 860) (by decide +kernel), List.mem_of_getElem? (i := 1080) (by decide +kernel), List.mem_of_getElem? (i := 1081) (by decide +kernel)⟩
theorem lw_p37 : lw_okq (⟨"FireApologiesModel", "lights", "(I)V"⟩, 49) := ⟨⟨by decide +kernel, by decide +kernel⟩, List.mem_of_getElem? (i := 860) (by decide +kernel), List.mem_of_getElem? (i := 1087) (by decide +kernel), List.mem_of_getElem? (i := 1088) (by decide +kernel)⟩
theorem lw_p38 : lw_okq (⟨"FireApologiesModel", "even", "()I"⟩, 49) := ⟨⟨by decide +kernel, by decide +kernel⟩, List.mem_of_getElem? (i := 860) (by decide +kernel), List.mem_of_getElem? (i := 1091) (by decide +kernel), List.mem_of_getElem? (i := 1092) (by decide +kernel)⟩
theorem lw_p39 : lw_okq (⟨"FireApologiesModel", "allGrief", "()I"⟩, 49) := ⟨⟨by decide +kernel, by decide +kernel⟩, List.mem_of_getElem? (i := 860) (by decide +kernel), List.mem_of_getElem? (i := 1095) (by decide +kernel), List.mem_of_getElem? (i := 1096) (by decide +kernel)⟩
theorem lw_p40 : lw_okq (⟨"FireApologiesModel", "sizes", "(I)I"⟩, 49) := ⟨⟨by decide +kernel, by decide +kernel⟩, List.mem_of_getElem? (i := 860) (by decide +kernel), List.mem_of_getElem? (i := 1099) (by decide +kernel), List.mem_of_getElem? (i := 1100) (by decide +kernel)⟩
theorem lw_p41 : lw_okq (⟨"FireApologiesModel", "areMarked", "(I)Z"⟩, 49) := ⟨⟨by decide +kernel, by decide +kernel⟩, List.mem_of_getElem? (i := 860) (by decide +kernel), List.mem_of_getElem? (i := 1103) (by decide +kernel), List.mem_of_getElem? (i := 1104) (by decide +kernel)⟩
theorem lw_p42 : lw_okq (⟨"FireApologiesModel", "isMarked", "(I)Z"⟩, 49) := ⟨⟨by decide +kernel, by decide +kernel⟩, List.mem_of_getElem? (i := 860) (by decide +kernel), List.mem_of_getElem? (i := 1107) (by decide +kernel), List.mem_of_getElem? (i := 1108) (by decide +kernel)⟩
theorem lw_p43 : lw_okq (⟨"FireApologiesModel", "isClause", "(I)Z"⟩, 49) := ⟨⟨by decide +kernel, by decide +kernel⟩, List.mem_of_getElem? (i := 860) (by decide +kernel), List.mem_of_getElem? (i := 1139) (by decide +kernel), List.mem_of_getElem? (i := 1140) (by decide +kernel)⟩
theorem lw_p44 : lw_okq (⟨"FireApologiesModel", "isAll", "(Ljava/lang/String;)Z"⟩, 49) := ⟨⟨by decide +kernel, by decide +kernel⟩, List.mem_of_getElem? (i := 860) (by decide +kernel), List.mem_of_getElem? (i := 1144) (by decide +kernel), List.mem_of_getElem? (i := 1145) (by decide +kernel)⟩
theorem lw_p45 : lw_okq (⟨"FireApologiesModel", "is", "(I)Z"⟩, 49) := ⟨⟨by decide +kernel, by decide +kernel⟩, List.mem_of_getElem? (i := 860) (by decide +kernel), List.mem_of_getElem? (i := 1150) (by decide +kernel), List.mem_of_getElem? (i := 1151) (by decide +kernel)⟩
theorem lw_p46 : lw_okq (⟨"FireApologiesModel", "isNumber", "()Z"⟩, 49) := ⟨⟨by decide +kernel, by decide +kernel⟩, List.mem_of_getElem? (i := 860) (by decide +kernel), List.mem_of_getElem? (i := 1156) (by decide +kernel), List.mem_of_getElem? (i := 1157) (by decide +kernel)⟩
theorem lw_p47 : lw_okq (⟨"FireApologiesModel", "isDigit", "()Z"⟩, 49) := ⟨⟨by decide +kernel, by decide +kernel⟩, List.mem_of_getElem? (i := 860) (by decide +kernel), List.mem_of_getElem? (i := 1160) (by decide +kernel), List.mem_of_getElem? (i := 1161) (by decide +kernel)⟩
def lw_privs_3 : List (MethodName × Nat) := [(⟨"FireApologiesModel", "goesMinute", "()V"⟩, 49), (⟨"FireApologiesModel", "dryBy", "()I"⟩, 49), (⟨"FireApologiesModel", "again", "([I)V"⟩, 49), (⟨"FireApologiesModel", "gift", "(I)I"⟩, 49), (⟨"FireApologiesModel", "lightsAll", "(I)V"⟩, 49), (⟨"FireApologiesModel", "lights", "(I)V"⟩, 49), (⟨"FireApologiesModel", "even", "()I"⟩, 49), (⟨"FireApologiesModel", "allGrief", "()I"⟩, 49), (⟨"FireApologiesModel", "sizes", "(I)I"⟩, 49), (⟨"FireApologiesModel", "areMarked", "(I)Z"⟩, 49), (⟨"FireApologiesModel", "isMarked", "(I)Z"⟩, 49), (⟨"FireApologiesModel", "isClause", "(I)Z"⟩, 49), (⟨"FireApologiesModel", "isAll", "(Ljava/lang/String;)Z"⟩, 49), (⟨"FireApologiesModel", "is", "(I)Z"⟩, 49), (⟨"FireApologiesModel", "isNumber", "()Z"⟩, 49), (⟨"FireApologiesModel", "isDigit", "()Z"⟩, 49)]
theorem lw_r3 : ∀ q ∈ lw_privs_3, lw_okq q := List.forall_mem_cons.mpr ⟨lw_p32, List.forall_mem_cons.mpr ⟨lw_p33, List.forall_mem_cons.mpr ⟨lw_p34, List.forall_mem_cons.mpr ⟨lw_p35, List.forall_mem_cons.mpr ⟨lw_p36, List.forall_mem_cons.mpr ⟨lw_p37, List.forall_mem_cons.mpr ⟨lw_p38, List.forall_mem_cons.mpr ⟨lw_p39, List.forall_mem_cons.mpr ⟨lw_p40, List.forall_mem_cons.mpr ⟨lw_p41, List.forall_mem_cons.mpr ⟨lw_p42, List.forall_mem_cons.mpr ⟨lw_p43, List.forall_mem_cons.mpr ⟨lw_p44, List.forall_mem_cons.mpr ⟨lw_p45, List.forall_mem_cons.mpr ⟨lw_p46, List.forall_mem_cons.mpr ⟨lw_p47, fun _ h => absurd h List.not_mem_nil⟩⟩⟩⟩⟩⟩⟩⟩⟩⟩⟩⟩⟩⟩⟩⟩
theorem lw_p48 : lw_okq (⟨"FireApologiesModel", "isE", "()Z"⟩, 49) := ⟨⟨by decide +kernel, by decide +kernel⟩, List.mem_of_getElem? (i := 860) (by decide +kernel), List.mem_of_getElem? (i := 1164) (by decide +kernel), List.mem_of_getElem? (i := 1165) (by decide +kernel)⟩
theorem lw_p49 : lw_okq (⟨"FireApologiesModel", "isT", "()Z"⟩, 49) := ⟨⟨by decide +kernel, by decide +kernel⟩, List.mem_of_getElem? (i := 860) (by decide +kernel), List.mem_of_getElem? (i := 1168) (by decide +kernel), List.mem_of_getElem? (i := 1169) (by decide +kernel)⟩
theorem lw_p50 : lw_okq (⟨"FireApologiesModel", "isF", "()Z"⟩, 49) := ⟨⟨by decide +kernel, by decide +kernel⟩, List.mem_of_getElem? (i := 860) (by decide +kernel), List.mem_of_getElem? (i := 1172) (by decide +kernel), List.mem_of_getElem? (i := 1173) (by decide +kernel)⟩
theorem lw_p51 : lw_okq (⟨"FireApologiesModel", "isOpened", "(I)Z"⟩, 49) := ⟨⟨by decide +kernel, by decide +kernel⟩, List.mem_of_getElem? (i := 860) (by decide +kernel), List.mem_of_getElem? (i := 1176) (by decide +kernel), List.mem_of_getElem? (i := 1177) (by decide +kernel)⟩
theorem lw_p52 : lw_okq (⟨"FireApologiesModel", "codes", "(I)Z"⟩, 49) := ⟨⟨by decide +kernel, by decide +kernel⟩, List.mem_of_getElem? (i := 860) (by decide +kernel), List.mem_of_getElem? (i := 1180) (by decide +kernel), List.mem_of_getElem? (i := 1181) (by decide +kernel)⟩
theorem lw_p53 : lw_okq (⟨"FireApologiesModel", "isTest", "()Z"⟩, 49) := ⟨⟨by decide +kernel, by decide +kernel⟩, List.mem_of_getElem? (i := 860) (by decide +kernel), List.mem_of_getElem? (i := 1184) (by decide +kernel), List.mem_of_getElem? (i := 1185) (by decide +kernel)⟩
theorem lw_p54 : lw_okq (⟨"FireApologiesModel", "enough", "(I)I"⟩, 49) := ⟨⟨by decide +kernel, by decide +kernel⟩, List.mem_of_getElem? (i := 860) (by decide +kernel), List.mem_of_getElem? (i := 1195) (by decide +kernel), List.mem_of_getElem? (i := 1196) (by decide +kernel)⟩
theorem lw_p55 : lw_okq (⟨"FireApologiesModel", "tries", "(II)V"⟩, 49) := ⟨⟨by decide +kernel, by decide +kernel⟩, List.mem_of_getElem? (i := 860) (by decide +kernel), List.mem_of_getElem? (i := 1211) (by decide +kernel), List.mem_of_getElem? (i := 1212) (by decide +kernel)⟩
theorem lw_p56 : lw_okq (⟨"FireApologiesModel", "hisses", "(III)I"⟩, 49) := ⟨⟨by decide +kernel, by decide +kernel⟩, List.mem_of_getElem? (i := 860) (by decide +kernel), List.mem_of_getElem? (i := 1272) (by decide +kernel), List.mem_of_getElem? (i := 1273) (by decide +kernel)⟩
theorem lw_p57 : lw_okq (⟨"FireApologiesModel", "ran", "(I)V"⟩, 49) := ⟨⟨by decide +kernel, by decide +kernel⟩, List.mem_of_getElem? (i := 860) (by decide +kernel), List.mem_of_getElem? (i := 1276) (by decide +kernel), List.mem_of_getElem? (i := 1277) (by decide +kernel)⟩
theorem lw_p58 : lw_okq (⟨"FireApologiesModel", "climbs", "(III)I"⟩, 49) := ⟨⟨by decide +kernel, by decide +kernel⟩, List.mem_of_getElem? (i := 860) (by decide +kernel), List.mem_of_getElem? (i := 1283) (by decide +kernel), List.mem_of_getElem? (i := 1284) (by decide +kernel)⟩
theorem lw_p59 : lw_okq (⟨"FireApologiesModel", "tells", "(III)I"⟩, 49) := ⟨⟨by decide +kernel, by decide +kernel⟩, List.mem_of_getElem? (i := 860) (by decide +kernel), List.mem_of_getElem? (i := 1287) (by decide +kernel), List.mem_of_getElem? (i := 1288) (by decide +kernel)⟩
def lw_privs_4 : List (MethodName × Nat) := [(⟨"FireApologiesModel", "isE", "()Z"⟩, 49), (⟨"FireApologiesModel", "isT", "()Z"⟩, 49), (⟨"FireApologiesModel", "isF", "()Z"⟩, 49), (⟨"FireApologiesModel", "isOpened", "(I)Z"⟩, 49), (⟨"FireApologiesModel", "codes", "(I)Z"⟩, 49), (⟨"FireApologiesModel", "isTest", "()Z"⟩, 49), (⟨"FireApologiesModel", "enough", "(I)I"⟩, 49), (⟨"FireApologiesModel", "tries", "(II)V"⟩, 49), (⟨"FireApologiesModel", "hisses", "(III)I"⟩, 49), (⟨"FireApologiesModel", "ran", "(I)V"⟩, 49), (⟨"FireApologiesModel", "climbs", "(III)I"⟩, 49), (⟨"FireApologiesModel", "tells", "(III)I"⟩, 49)]
theorem lw_r4 : ∀ q ∈ lw_privs_4, lw_okq q := List.forall_mem_cons.mpr ⟨lw_p48, List.forall_mem_cons.mpr ⟨lw_p49, List.forall_mem_cons.mpr ⟨lw_p50, List.forall_mem_cons.mpr ⟨lw_p51, List.forall_mem_cons.mpr ⟨lw_p52, List.forall_mem_cons.mpr ⟨lw_p53, List.forall_mem_cons.mpr ⟨lw_p54, List.forall_mem_cons.mpr ⟨lw_p55, List.forall_mem_cons.mpr ⟨lw_p56, List.forall_mem_cons.mpr ⟨lw_p57, List.forall_mem_cons.mpr ⟨lw_p58, List.forall_mem_cons.mpr ⟨lw_p59, fun _ h => absurd h List.not_mem_nil⟩⟩⟩⟩⟩⟩⟩⟩⟩⟩⟩⟩
def lw_privs : List (MethodName × Nat) := lw_privs_1 ++ (lw_privs_2 ++ (lw_privs_3 ++ (lw_privs_4)))
def lw_tbl : List Cond := k2_sels lw_privs ++ tables_1
theorem lw_privs_ok : ∀ q ∈ lw_privs, lw_okq q := by
  show ∀ q ∈ lw_privs_1 ++ (lw_privs_2 ++ (lw_privs_3 ++ (lw_privs_4))), lw_okq q
  exact List.forall_mem_append.mpr ⟨lw_r1, List.forall_mem_append.mpr ⟨lw_r2, List.forall_mem_append.mpr ⟨lw_r3, lw_r4⟩⟩⟩

/-- the words of the tables that may be handed on -/
def TB : List Cond := lw_tbl.filter goodWord
theorem in_TB {w : Cond} (h1 : w ∈ lw_tbl) (h2 : goodWord w = true) : w ∈ TB := List.mem_filter.mpr ⟨h1, h2⟩
theorem in_TBt {w : Cond} (i : Nat) (h1 : tables_1[i]? = some w) (h2 : goodWord w = true) : w ∈ TB := in_TB (List.mem_append_right _ (List.mem_of_getElem? h1)) h2
theorem in_TBp {w : Cond} (i : Nat) (h1 : (k2_sels lw_privs)[i]? = some w) (h2 : goodWord w = true) : w ∈ TB := in_TB (List.mem_append_left _ (List.mem_of_getElem? h1)) h2
theorem TB_good {w : Cond} (h : w ∈ TB) : goodWord w = true := (List.mem_filter.mp h).2
theorem TB_all {P : Cond → Prop} (h : ∀ w ∈ lw_tbl, P w) : ∀ w ∈ TB, P w := fun w hw => h w (List.mem_filter.mp hw).1

def RX0 : String := "FireApologies$Acting"
def TX0 : u_T := fun k => match k with
  | 0 => ("FireApologies$Acting", "bodies", "[I", true)
  | 1 => ("FireApologies$Acting", "ran", "I", false)
  | 2 => ("FireApologies$Acting", "number", "I", false)
  | _ => ("FireApologies$Acting", "v", "I", false)
def tyX0 : Nat → FieldType := fun k => match k with
  | 0 => .array .int
  | 1 => .int
  | 2 => .int
  | _ => .int
theorem nmX0 : ∀ a, a < 4 → ∀ b, b < 4 → a ≠ b → (TX0 a).2.1 ≠ (TX0 b).2.1 := by decide +kernel
theorem tyX0_ok : ∀ k, k < 4 → parseFieldDescriptor (TX0 k).2.2.1 = some (tyX0 k) := by decide +kernel
abbrev cX0_init : ByteArray := prog_2_method_1_code
def yX0_init : MethodName := ⟨RX0, "<init>", "()V"⟩
abbrev cX0_begin : ByteArray := prog_2_method_2_code
def yX0_begin : MethodName := ⟨RX0, "begin", "(I)V"⟩
def RX1 : String := "FireApologies$Cake"
def TX1 : u_T := fun k => match k with
  | _ => ("", "", "", false)
def tyX1 : Nat → FieldType := fun k => match k with
  | _ => .int
theorem nmX1 : ∀ a, a < 0 → ∀ b, b < 0 → a ≠ b → (TX1 a).2.1 ≠ (TX1 b).2.1 := by decide +kernel
theorem tyX1_ok : ∀ k, k < 0 → parseFieldDescriptor (TX1 k).2.2.1 = some (tyX1 k) := by decide +kernel
abbrev cX1_init : ByteArray := prog_3_method_1_code
def yX1_init : MethodName := ⟨RX1, "<init>", "()V"⟩
abbrev cX1_brightness : ByteArray := prog_3_method_2_code
def yX1_brightness : MethodName := ⟨RX1, "brightness", "(LFireApologies$World;[II)I"⟩
abbrev cX1_hisses : ByteArray := prog_3_method_3_code
def yX1_hisses : MethodName := ⟨RX1, "hisses", "(LFireApologies$Acting;I)I"⟩
abbrev cX1_climbs : ByteArray := prog_3_method_4_code
def yX1_climbs : MethodName := ⟨RX1, "climbs", "(LFireApologies$Acting;I)I"⟩
def RX2 : String := "FireApologies$Fountain"
def TX2 : u_T := fun k => match k with
  | _ => ("", "", "", false)
def tyX2 : Nat → FieldType := fun k => match k with
  | _ => .int
theorem nmX2 : ∀ a, a < 0 → ∀ b, b < 0 → a ≠ b → (TX2 a).2.1 ≠ (TX2 b).2.1 := by decide +kernel
theorem tyX2_ok : ∀ k, k < 0 → parseFieldDescriptor (TX2 k).2.2.1 = some (tyX2 k) := by decide +kernel
abbrev cX2_init : ByteArray := prog_4_method_1_code
def yX2_init : MethodName := ⟨RX2, "<init>", "()V"⟩
abbrev cX2_brightness : ByteArray := prog_4_method_2_code
def yX2_brightness : MethodName := ⟨RX2, "brightness", "(LFireApologies$World;[II)I"⟩
abbrev cX2_climbs : ByteArray := prog_4_method_3_code
def yX2_climbs : MethodName := ⟨RX2, "climbs", "(LFireApologies$Acting;I)I"⟩
def RX3 : String := "FireApologies$Frame"
def TX3 : u_T := fun k => match k with
  | _ => ("", "", "", false)
def tyX3 : Nat → FieldType := fun k => match k with
  | _ => .int
theorem nmX3 : ∀ a, a < 0 → ∀ b, b < 0 → a ≠ b → (TX3 a).2.1 ≠ (TX3 b).2.1 := by decide +kernel
theorem tyX3_ok : ∀ k, k < 0 → parseFieldDescriptor (TX3 k).2.2.1 = some (tyX3 k) := by decide +kernel
abbrev cX3_init : ByteArray := prog_5_method_1_code
def yX3_init : MethodName := ⟨RX3, "<init>", "()V"⟩
abbrev cX3_brightness : ByteArray := prog_5_method_2_code
def yX3_brightness : MethodName := ⟨RX3, "brightness", "(LFireApologies$World;[II)I"⟩
abbrev cX3_tells : ByteArray := prog_5_method_3_code
def yX3_tells : MethodName := ⟨RX3, "tells", "(LFireApologies$Acting;I)I"⟩
def RX4 : String := "FireApologies$Reader"
def TX4 : u_T := fun k => match k with
  | 0 => ("FireApologies$Reader", "text", "[B", true)
  | 1 => ("FireApologies$Reader", "length", "I", false)
  | 2 => ("FireApologies$Reader", "steps", "[I", true)
  | 3 => ("FireApologies$Reader", "stepsEnd", "I", false)
  | 4 => ("FireApologies$Reader", "place", "I", false)
  | 5 => ("FireApologies$Reader", "number", "I", false)
  | _ => ("FireApologies$Reader", "dry", "I", false)
def tyX4 : Nat → FieldType := fun k => match k with
  | 0 => .array .byte
  | 1 => .int
  | 2 => .array .int
  | 3 => .int
  | 4 => .int
  | 5 => .int
  | _ => .int
theorem nmX4 : ∀ a, a < 7 → ∀ b, b < 7 → a ≠ b → (TX4 a).2.1 ≠ (TX4 b).2.1 := by decide +kernel
theorem tyX4_ok : ∀ k, k < 7 → parseFieldDescriptor (TX4 k).2.2.1 = some (tyX4 k) := by decide +kernel
abbrev cX4_init : ByteArray := prog_6_method_1_code
def yX4_init : MethodName := ⟨RX4, "<init>", "()V"⟩
abbrev cX4_findFault : ByteArray := prog_6_method_2_code
def yX4_findFault : MethodName := ⟨RX4, "findFault", "()I"⟩
abbrev cX4_makeShow : ByteArray := prog_6_method_3_code
def yX4_makeShow : MethodName := ⟨RX4, "makeShow", "()LFireApologies$Show;"⟩
abbrev cX4_takeClause : ByteArray := prog_6_method_4_code
def yX4_takeClause : MethodName := ⟨RX4, "takeClause", "()Z"⟩
abbrev cX4_takeEither : ByteArray := prog_6_method_5_code
def yX4_takeEither : MethodName := ⟨RX4, "takeEither", "(I)Z"⟩
abbrev cX4_takeFactor : ByteArray := prog_6_method_6_code
def yX4_takeFactor : MethodName := ⟨RX4, "takeFactor", "(I)Z"⟩
abbrev cX4_takeTest : ByteArray := prog_6_method_7_code
def yX4_takeTest : MethodName := ⟨RX4, "takeTest", "()Z"⟩
abbrev cX4_takeNumber : ByteArray := prog_6_method_8_code
def yX4_takeNumber : MethodName := ⟨RX4, "takeNumber", "()Z"⟩
abbrev cX4_takeAll : ByteArray := prog_6_method_9_code
def yX4_takeAll : MethodName := ⟨RX4, "takeAll", "(Ljava/lang/String;)Z"⟩
abbrev cX4_take : ByteArray := prog_6_method_10_code
def yX4_take : MethodName := ⟨RX4, "take", "(I)Z"⟩
abbrev cX4_next : ByteArray := prog_6_method_11_code
def yX4_next : MethodName := ⟨RX4, "next", "()I"⟩
abbrev cX4_addStep : ByteArray := prog_6_method_12_code
def yX4_addStep : MethodName := ⟨RX4, "addStep", "(III)V"⟩
def RX5 : String := "FireApologies$Rocket"
def TX5 : u_T := fun k => match k with
  | _ => ("", "", "", false)
def tyX5 : Nat → FieldType := fun k => match k with
  | _ => .int
theorem nmX5 : ∀ a, a < 0 → ∀ b, b < 0 → a ≠ b → (TX5 a).2.1 ≠ (TX5 b).2.1 := by decide +kernel
theorem tyX5_ok : ∀ k, k < 0 → parseFieldDescriptor (TX5 k).2.2.1 = some (tyX5 k) := by decide +kernel
abbrev cX5_init : ByteArray := prog_7_method_1_code
def yX5_init : MethodName := ⟨RX5, "<init>", "()V"⟩
abbrev cX5_brightness : ByteArray := prog_7_method_2_code
def yX5_brightness : MethodName := ⟨RX5, "brightness", "(LFireApologies$World;[II)I"⟩
abbrev cX5_hisses : ByteArray := prog_7_method_3_code
def yX5_hisses : MethodName := ⟨RX5, "hisses", "(LFireApologies$Acting;I)I"⟩
abbrev cX5_climbs : ByteArray := prog_7_method_4_code
def yX5_climbs : MethodName := ⟨RX5, "climbs", "(LFireApologies$Acting;I)I"⟩
abbrev cX5_tells : ByteArray := prog_7_method_5_code
def yX5_tells : MethodName := ⟨RX5, "tells", "(LFireApologies$Acting;I)I"⟩
def RX6 : String := "FireApologies$Show"
def TX6 : u_T := fun k => match k with
  | 0 => ("FireApologies$Show", "steps", "[I", true)
  | _ => ("FireApologies$Show", "dry", "I", true)
def tyX6 : Nat → FieldType := fun k => match k with
  | 0 => .array .int
  | _ => .int
theorem nmX6 : ∀ a, a < 2 → ∀ b, b < 2 → a ≠ b → (TX6 a).2.1 ≠ (TX6 b).2.1 := by decide +kernel
theorem tyX6_ok : ∀ k, k < 2 → parseFieldDescriptor (TX6 k).2.2.1 = some (tyX6 k) := by decide +kernel
abbrev cX6_init : ByteArray := prog_8_method_1_code
def yX6_init : MethodName := ⟨RX6, "<init>", "([II)V"⟩
abbrev cX6_brightens : ByteArray := prog_8_method_2_code
def yX6_brightens : MethodName := ⟨RX6, "brightens", "(I[II)I"⟩
abbrev cX6_operand : ByteArray := prog_8_method_3_code
def yX6_operand : MethodName := ⟨RX6, "operand", "(II[II)I"⟩
abbrev cX6_compares : ByteArray := prog_8_method_4_code
def yX6_compares : MethodName := ⟨RX6, "compares", "(III)Z"⟩
def RX7 : String := "FireApologies$Told"
def TX7 : u_T := fun k => match k with
  | _ => ("", "", "", false)
def tyX7 : Nat → FieldType := fun k => match k with
  | _ => .int
theorem nmX7 : ∀ a, a < 0 → ∀ b, b < 0 → a ≠ b → (TX7 a).2.1 ≠ (TX7 b).2.1 := by decide +kernel
theorem tyX7_ok : ∀ k, k < 0 → parseFieldDescriptor (TX7 k).2.2.1 = some (tyX7 k) := by decide +kernel
abbrev cX7_init : ByteArray := prog_9_method_1_code
def yX7_init : MethodName := ⟨RX7, "<init>", "()V"⟩
abbrev cX7_brightness : ByteArray := prog_9_method_2_code
def yX7_brightness : MethodName := ⟨RX7, "brightness", "(LFireApologies$World;[II)I"⟩
abbrev cX7_climbs : ByteArray := prog_9_method_3_code
def yX7_climbs : MethodName := ⟨RX7, "climbs", "(LFireApologies$Acting;I)I"⟩
abbrev cX7_hisses : ByteArray := prog_9_method_4_code
def yX7_hisses : MethodName := ⟨RX7, "hisses", "(LFireApologies$Acting;I)I"⟩
def RX8 : String := "FireApologies$Wheel"
def TX8 : u_T := fun k => match k with
  | _ => ("", "", "", false)
def tyX8 : Nat → FieldType := fun k => match k with
  | _ => .int
theorem nmX8 : ∀ a, a < 0 → ∀ b, b < 0 → a ≠ b → (TX8 a).2.1 ≠ (TX8 b).2.1 := by decide +kernel
theorem tyX8_ok : ∀ k, k < 0 → parseFieldDescriptor (TX8 k).2.2.1 = some (tyX8 k) := by decide +kernel
abbrev cX8_init : ByteArray := prog_10_method_1_code
def yX8_init : MethodName := ⟨RX8, "<init>", "()V"⟩
abbrev cX8_brightness : ByteArray := prog_10_method_2_code
def yX8_brightness : MethodName := ⟨RX8, "brightness", "(LFireApologies$World;[II)I"⟩
abbrev cX8_tells : ByteArray := prog_10_method_3_code
def yX8_tells : MethodName := ⟨RX8, "tells", "(LFireApologies$Acting;I)I"⟩
def RX9 : String := "FireApologies$Whistle"
def TX9 : u_T := fun k => match k with
  | _ => ("", "", "", false)
def tyX9 : Nat → FieldType := fun k => match k with
  | _ => .int
theorem nmX9 : ∀ a, a < 0 → ∀ b, b < 0 → a ≠ b → (TX9 a).2.1 ≠ (TX9 b).2.1 := by decide +kernel
theorem tyX9_ok : ∀ k, k < 0 → parseFieldDescriptor (TX9 k).2.2.1 = some (tyX9 k) := by decide +kernel
abbrev cX9_init : ByteArray := prog_11_method_1_code
def yX9_init : MethodName := ⟨RX9, "<init>", "()V"⟩
abbrev cX9_brightness : ByteArray := prog_11_method_2_code
def yX9_brightness : MethodName := ⟨RX9, "brightness", "(LFireApologies$World;[II)I"⟩
abbrev cX9_hisses : ByteArray := prog_11_method_3_code
def yX9_hisses : MethodName := ⟨RX9, "hisses", "(LFireApologies$Acting;I)I"⟩
def RX10 : String := "FireApologies$World"
def TX10 : u_T := fun k => match k with
  | 0 => ("FireApologies$World", "kinds", "[LFireApologies$Rocket;", true)
  | 1 => ("FireApologies$World", "rockets", "[[I", true)
  | 2 => ("FireApologies$World", "griefs", "[I", true)
  | 3 => ("FireApologies$World", "rains", "[I", true)
  | 4 => ("FireApologies$World", "markedRockets", "[I", true)
  | 5 => ("FireApologies$World", "markedMinutes", "[I", true)
  | 6 => ("FireApologies$World", "markedLights", "[I", true)
  | 7 => ("FireApologies$World", "plannedActs", "[I", true)
  | 8 => ("FireApologies$World", "plannedRockets", "[I", true)
  | 9 => ("FireApologies$World", "bookedRockets", "[I", true)
  | 10 => ("FireApologies$World", "bookedDamps", "[I", true)
  | 11 => ("FireApologies$World", "rocketCount", "I", false)
  | 12 => ("FireApologies$World", "markedCount", "I", false)
  | 13 => ("FireApologies$World", "plannedCount", "I", false)
  | 14 => ("FireApologies$World", "bookedCount", "I", false)
  | 15 => ("FireApologies$World", "minute", "I", false)
  | _ => ("FireApologies$World", "held", "LFireApologies$Show;", false)
def tyX10 : Nat → FieldType := fun k => match k with
  | 0 => .array (.object "FireApologies$Rocket")
  | 1 => .array (.array .int)
  | 2 => .array .int
  | 3 => .array .int
  | 4 => .array .int
  | 5 => .array .int
  | 6 => .array .int
  | 7 => .array .int
  | 8 => .array .int
  | 9 => .array .int
  | 10 => .array .int
  | 11 => .int
  | 12 => .int
  | 13 => .int
  | 14 => .int
  | 15 => .int
  | _ => .object "FireApologies$Show"
theorem nmX10 : ∀ a, a < 17 → ∀ b, b < 17 → a ≠ b → (TX10 a).2.1 ≠ (TX10 b).2.1 := by decide +kernel
theorem tyX10_ok : ∀ k, k < 17 → parseFieldDescriptor (TX10 k).2.2.1 = some (tyX10 k) := by decide +kernel
abbrev cX10_init : ByteArray := prog_12_method_1_code
def yX10_init : MethodName := ⟨RX10, "<init>", "()V"⟩
abbrev cX10_goOnFrom : ByteArray := prog_12_method_2_code
def yX10_goOnFrom : MethodName := ⟨RX10, "goOnFrom", "(LFireApologies$World;)V"⟩
abbrev cX10_copyRowsOf : ByteArray := prog_12_method_3_code
def yX10_copyRowsOf : MethodName := ⟨RX10, "copyRowsOf", "(LFireApologies$World;)V"⟩
abbrev cX10_addRocket : ByteArray := prog_12_method_4_code
def yX10_addRocket : MethodName := ⟨RX10, "addRocket", "(IIII)I"⟩
abbrev cX10_has : ByteArray := prog_12_method_5_code
def yX10_has : MethodName := ⟨RX10, "has", "(I)Z"⟩
abbrev cX10_isUnlit : ByteArray := prog_12_method_6_code
def yX10_isUnlit : MethodName := ⟨RX10, "isUnlit", "(I)Z"⟩
abbrev cX10_rainNow : ByteArray := prog_12_method_7_code
def yX10_rainNow : MethodName := ⟨RX10, "rainNow", "()I"⟩
abbrev cX10_dryness : ByteArray := prog_12_method_8_code
def yX10_dryness : MethodName := ⟨RX10, "dryness", "()I"⟩
abbrev cX10_brightness : ByteArray := prog_12_method_9_code
def yX10_brightness : MethodName := ⟨RX10, "brightness", "(I)I"⟩
abbrev cX10_ignite : ByteArray := prog_12_method_10_code
def yX10_ignite : MethodName := ⟨RX10, "ignite", "(I)I"⟩
abbrev cX10_igniteAll : ByteArray := prog_12_method_11_code
def yX10_igniteAll : MethodName := ⟨RX10, "igniteAll", "(I)V"⟩
abbrev cX10_minutesGo : ByteArray := prog_12_method_12_code
def yX10_minutesGo : MethodName := ⟨RX10, "minutesGo", "(I)V"⟩
abbrev cX10_rocketsIn : ByteArray := prog_12_method_13_code
def yX10_rocketsIn : MethodName := ⟨RX10, "rocketsIn", "(I)I"⟩
abbrev cX10_evenPeople : ByteArray := prog_12_method_14_code
def yX10_evenPeople : MethodName := ⟨RX10, "evenPeople", "()I"⟩
abbrev cX10_griefOfAll : ByteArray := prog_12_method_15_code
def yX10_griefOfAll : MethodName := ⟨RX10, "griefOfAll", "()I"⟩
abbrev cX10_score : ByteArray := prog_12_method_16_code
def yX10_score : MethodName := ⟨RX10, "score", "()I"⟩
def RX11 : String := "FireApologies"
def TX11 : u_T := fun k => match k with
  | 0 => ("FireApologies", "now", "LFireApologies$World;", true)
  | 1 => ("FireApologies", "saved", "LFireApologies$World;", true)
  | 2 => ("FireApologies", "trial", "LFireApologies$World;", true)
  | 3 => ("FireApologies", "shows", "I", false)
  | 4 => ("FireApologies", "reader", "LFireApologies$Reader;", true)
  | 5 => ("FireApologies", "acting", "LFireApologies$Acting;", true)
  | 6 => ("FireApologies", "order", "[I", true)
  | 7 => ("FireApologies", "tapeSorts", "[I", true)
  | 8 => ("FireApologies", "tapeLengths", "[I", true)
  | 9 => ("FireApologies", "tapeItems", "[[J", true)
  | _ => ("FireApologies", "hasImage", "Z", false)
def tyX11 : Nat → FieldType := fun k => match k with
  | 0 => .object "FireApologies$World"
  | 1 => .object "FireApologies$World"
  | 2 => .object "FireApologies$World"
  | 3 => .int
  | 4 => .object "FireApologies$Reader"
  | 5 => .object "FireApologies$Acting"
  | 6 => .array .int
  | 7 => .array .int
  | 8 => .array .int
  | 9 => .array (.array .long)
  | _ => .boolean
theorem nmX11 : ∀ a, a < 11 → ∀ b, b < 11 → a ≠ b → (TX11 a).2.1 ≠ (TX11 b).2.1 := by decide +kernel
theorem tyX11_ok : ∀ k, k < 11 → parseFieldDescriptor (TX11 k).2.2.1 = some (tyX11 k) := by decide +kernel
abbrev cX11_init : ByteArray := prog_1_method_1_code
def yX11_init : MethodName := ⟨RX11, "<init>", "()V"⟩
abbrev cX11_rocket : ByteArray := prog_1_method_2_code
def yX11_rocket : MethodName := ⟨RX11, "rocket", "(IIII)I"⟩
abbrev cX11_of : ByteArray := prog_1_method_3_code
def yX11_of : MethodName := ⟨RX11, "of", "(II)I"⟩
abbrev cX11_set : ByteArray := prog_1_method_4_code
def yX11_set : MethodName := ⟨RX11, "set", "(III)I"⟩
abbrev cX11_light : ByteArray := prog_1_method_5_code
def yX11_light : MethodName := ⟨RX11, "light", "(I)I"⟩
abbrev cX11_grieve : ByteArray := prog_1_method_6_code
def yX11_grieve : MethodName := ⟨RX11, "grieve", "(II)I"⟩
abbrev cX11_rain : ByteArray := prog_1_method_7_code
def yX11_rain : MethodName := ⟨RX11, "rain", "(II)I"⟩
abbrev cX11_row : ByteArray := prog_1_method_8_code
def yX11_row : MethodName := ⟨RX11, "row", "(III)I"⟩
abbrev cX11_feed : ByteArray := prog_1_method_9_code
def yX11_feed : MethodName := ⟨RX11, "feed", "(I)I"⟩
abbrev cX11_show : ByteArray := prog_1_method_10_code
def yX11_show : MethodName := ⟨RX11, "show", "()I"⟩
abbrev cX11_told : ByteArray := prog_1_method_11_code
def yX11_told : MethodName := ⟨RX11, "told", "(I)I"⟩
abbrev cX11_toldOfAll : ByteArray := prog_1_method_12_code
def yX11_toldOfAll : MethodName := ⟨RX11, "toldOfAll", "(I)I"⟩
abbrev cX11_pass : ByteArray := prog_1_method_13_code
def yX11_pass : MethodName := ⟨RX11, "pass", "(I)I"⟩
abbrev cX11_on : ByteArray := prog_1_method_14_code
def yX11_on : MethodName := ⟨RX11, "on", "(II)I"⟩
abbrev cX11_best : ByteArray := prog_1_method_15_code
def yX11_best : MethodName := ⟨RX11, "best", "(II)I"⟩
abbrev cX11_lightOn : ByteArray := prog_1_method_16_code
def yX11_lightOn : MethodName := ⟨RX11, "lightOn", "(II)I"⟩
abbrev cX11_brightestMinutes : ByteArray := prog_1_method_17_code
def yX11_brightestMinutes : MethodName := ⟨RX11, "brightestMinutes", "(I)I"⟩
abbrev cX11_bestRow : ByteArray := prog_1_method_18_code
def yX11_bestRow : MethodName := ⟨RX11, "bestRow", "(I)I"⟩
abbrev cX11_orderOf : ByteArray := prog_1_method_19_code
def yX11_orderOf : MethodName := ⟨RX11, "orderOf", "(II)V"⟩
abbrev cX11_canLightOrder : ByteArray := prog_1_method_20_code
def yX11_canLightOrder : MethodName := ⟨RX11, "canLightOrder", "(I)Z"⟩
abbrev cX11_tryOrder : ByteArray := prog_1_method_21_code
def yX11_tryOrder : MethodName := ⟨RX11, "tryOrder", "(I)V"⟩
abbrev cX11_enoughFor : ByteArray := prog_1_method_22_code
def yX11_enoughFor : MethodName := ⟨RX11, "enoughFor", "(I)I"⟩
abbrev cX11_giftTo : ByteArray := prog_1_method_23_code
def yX11_giftTo : MethodName := ⟨RX11, "giftTo", "(I)I"⟩
abbrev cX11_mark : ByteArray := prog_1_method_24_code
def yX11_mark : MethodName := ⟨RX11, "mark", "(III)I"⟩
abbrev cX11_wrong : ByteArray := prog_1_method_25_code
def yX11_wrong : MethodName := ⟨RX11, "wrong", "()I"⟩
abbrev cX11_can : ByteArray := prog_1_method_26_code
def yX11_can : MethodName := ⟨RX11, "can", "(II)I"⟩
abbrev cX11_odds : ByteArray := prog_1_method_27_code
def yX11_odds : MethodName := ⟨RX11, "odds", "(II)J"⟩
abbrev cX11_mean : ByteArray := prog_1_method_28_code
def yX11_mean : MethodName := ⟨RX11, "mean", "(I)J"⟩
abbrev cX11_fitting : ByteArray := prog_1_method_29_code
def yX11_fitting : MethodName := ⟨RX11, "fitting", "(III)I"⟩
abbrev cX11_areMarksSo : ByteArray := prog_1_method_30_code
def yX11_areMarksSo : MethodName := ⟨RX11, "areMarksSo", "(III)Z"⟩
abbrev cX11_isMarkSo : ByteArray := prog_1_method_31_code
def yX11_isMarkSo : MethodName := ⟨RX11, "isMarkSo", "(III)Z"⟩
abbrev cX11_inLowestTerms : ByteArray := prog_1_method_32_code
def yX11_inLowestTerms : MethodName := ⟨RX11, "inLowestTerms", "(III)J"⟩
abbrev cX11_plan : ByteArray := prog_1_method_33_code
def yX11_plan : MethodName := ⟨RX11, "plan", "(II)I"⟩
abbrev cX11_ends : ByteArray := prog_1_method_34_code
def yX11_ends : MethodName := ⟨RX11, "ends", "(I)I"⟩
abbrev cX11_tryPlanned : ByteArray := prog_1_method_35_code
def yX11_tryPlanned : MethodName := ⟨RX11, "tryPlanned", "(II)V"⟩
abbrev cX11_book : ByteArray := prog_1_method_36_code
def yX11_book : MethodName := ⟨RX11, "book", "(II)I"⟩
abbrev cX11_looked : ByteArray := prog_1_method_37_code
def yX11_looked : MethodName := ⟨RX11, "looked", "()I"⟩
abbrev cX11_judge : ByteArray := prog_1_method_38_code
def yX11_judge : MethodName := ⟨RX11, "judge", "(II)I"⟩
abbrev cX11_image : ByteArray := prog_1_method_39_code
def yX11_image : MethodName := ⟨RX11, "image", "()I"⟩
abbrev cX11_undo : ByteArray := prog_1_method_40_code
def yX11_undo : MethodName := ⟨RX11, "undo", "()I"⟩
abbrev cX11_act : ByteArray := prog_1_method_41_code
def yX11_act : MethodName := ⟨RX11, "act", "(III)I"⟩
abbrev cX11_trace : ByteArray := prog_1_method_42_code
def yX11_trace : MethodName := ⟨RX11, "trace", "(I)I"⟩
abbrev cX11_taken : ByteArray := prog_1_method_43_code
def yX11_taken : MethodName := ⟨RX11, "taken", "(II)I"⟩
abbrev cX11_count : ByteArray := prog_1_method_44_code
def yX11_count : MethodName := ⟨RX11, "count", "(I)I"⟩
abbrev cX11_tape : ByteArray := prog_1_method_45_code
def yX11_tape : MethodName := ⟨RX11, "tape", "(III)I"⟩
abbrev cX11_item : ByteArray := prog_1_method_46_code
def yX11_item : MethodName := ⟨RX11, "item", "(IIJ)I"⟩
abbrev cX11_read : ByteArray := prog_1_method_47_code
def yX11_read : MethodName := ⟨RX11, "read", "(II)J"⟩
abbrev cX11_shift : ByteArray := prog_1_method_48_code
def yX11_shift : MethodName := ⟨RX11, "shift", "(IIIII)I"⟩
abbrev cX11_hasItem : ByteArray := prog_1_method_49_code
def yX11_hasItem : MethodName := ⟨RX11, "hasItem", "(II)Z"⟩
abbrev cX11_hasItems : ByteArray := prog_1_method_50_code
def yX11_hasItems : MethodName := ⟨RX11, "hasItems", "(III)Z"⟩
abbrev cX11_lowestBits : ByteArray := prog_1_method_51_code
def yX11_lowestBits : MethodName := ⟨RX11, "lowestBits", "(IJ)J"⟩
abbrev cX11_within : ByteArray := prog_1_method_52_code
def yX11_within : MethodName := ⟨RX11, "within", "(II)Z"⟩
abbrev cX11_swap : ByteArray := prog_1_method_53_code
def yX11_swap : MethodName := ⟨RX11, "swap", "([III)I"⟩
def RX12 : String := "FireApologiesModel"
def TX12 : u_T := fun k => match k with
  | 0 => ("FireApologiesModel", "grief", "[I", true)
  | 1 => ("FireApologiesModel", "rains", "[I", true)
  | 2 => ("FireApologiesModel", "rockets", "I", false)
  | 3 => ("FireApologiesModel", "kind", "[I", true)
  | 4 => ("FireApologiesModel", "v", "[I", true)
  | 5 => ("FireApologiesModel", "size", "[I", true)
  | 6 => ("FireApologiesModel", "whom", "[I", true)
  | 7 => ("FireApologiesModel", "damp", "[I", true)
  | 8 => ("FireApologiesModel", "state", "[I", true)
  | 9 => ("FireApologiesModel", "rows", "[I", true)
  | 10 => ("FireApologiesModel", "minute", "I", false)
  | 11 => ("FireApologiesModel", "texted", "I", false)
  | 12 => ("FireApologiesModel", "text", "[I", true)
  | 13 => ("FireApologiesModel", "at", "I", false)
  | 14 => ("FireApologiesModel", "value", "I", false)
  | 15 => ("FireApologiesModel", "digits", "I", false)
  | 16 => ("FireApologiesModel", "open", "I", false)
  | 17 => ("FireApologiesModel", "shows", "I", false)
  | 18 => ("FireApologiesModel", "holds", "I", false)
  | 19 => ("FireApologiesModel", "clauses", "[I", true)
  | 20 => ("FireApologiesModel", "word", "[I", true)
  | 21 => ("FireApologiesModel", "number", "[I", true)
  | 22 => ("FireApologiesModel", "begins", "[I", true)
  | 23 => ("FireApologiesModel", "length", "[I", true)
  | 24 => ("FireApologiesModel", "code", "[I", true)
  | 25 => ("FireApologiesModel", "coded", "I", false)
  | 26 => ("FireApologiesModel", "stack", "[Z", true)
  | 27 => ("FireApologiesModel", "marked", "I", false)
  | 28 => ("FireApologiesModel", "markOf", "[I", true)
  | 29 => ("FireApologiesModel", "markIn", "[I", true)
  | 30 => ("FireApologiesModel", "markLight", "[I", true)
  | 31 => ("FireApologiesModel", "inPlan", "I", false)
  | 32 => ("FireApologiesModel", "goes", "[I", true)
  | 33 => ("FireApologiesModel", "whose", "[I", true)
  | 34 => ("FireApologiesModel", "inBook", "I", false)
  | 35 => ("FireApologiesModel", "booked", "[I", true)
  | 36 => ("FireApologiesModel", "bookDamp", "[I", true)
  | 37 => ("FireApologiesModel", "traced", "I", false)
  | 38 => ("FireApologiesModel", "traces", "[I", true)
  | 39 => ("FireApologiesModel", "imaged", "Z", false)
  | 40 => ("FireApologiesModel", "image", "[I", true)
  | 41 => ("FireApologiesModel", "ahead", "[I", true)
  | 42 => ("FireApologiesModel", "tried", "[I", true)
  | 43 => ("FireApologiesModel", "best", "[I", true)
  | 44 => ("FireApologiesModel", "bestEven", "I", false)
  | 45 => ("FireApologiesModel", "bestGrief", "I", false)
  | 46 => ("FireApologiesModel", "tapeSort", "[I", true)
  | 47 => ("FireApologiesModel", "tapeSize", "[I", true)
  | _ => ("FireApologiesModel", "items", "[J", true)
def tyX12 : Nat → FieldType := fun k => match k with
  | 0 => .array .int
  | 1 => .array .int
  | 2 => .int
  | 3 => .array .int
  | 4 => .array .int
  | 5 => .array .int
  | 6 => .array .int
  | 7 => .array .int
  | 8 => .array .int
  | 9 => .array .int
  | 10 => .int
  | 11 => .int
  | 12 => .array .int
  | 13 => .int
  | 14 => .int
  | 15 => .int
  | 16 => .int
  | 17 => .int
  | 18 => .int
  | 19 => .array .int
  | 20 => .array .int
  | 21 => .array .int
  | 22 => .array .int
  | 23 => .array .int
  | 24 => .array .int
  | 25 => .int
  | 26 => .array .boolean
  | 27 => .int
  | 28 => .array .int
  | 29 => .array .int
  | 30 => .array .int
  | 31 => .int
  | 32 => .array .int
  | 33 => .array .int
  | 34 => .int
  | 35 => .array .int
  | 36 => .array .int
  | 37 => .int
  | 38 => .array .int
  | 39 => .boolean
  | 40 => .array .int
  | 41 => .array .int
  | 42 => .array .int
  | 43 => .array .int
  | 44 => .int
  | 45 => .int
  | 46 => .array .int
  | 47 => .array .int
  | _ => .array .long
theorem nmX12 : ∀ a, a < 49 → ∀ b, b < 49 → a ≠ b → (TX12 a).2.1 ≠ (TX12 b).2.1 := by decide +kernel
theorem tyX12_ok : ∀ k, k < 49 → parseFieldDescriptor (TX12 k).2.2.1 = some (tyX12 k) := by decide +kernel
abbrev cX12_init : ByteArray := prog_14_method_1_code
def yX12_init : MethodName := ⟨RX12, "<init>", "()V"⟩
abbrev cX12_within : ByteArray := prog_14_method_2_code
def yX12_within : MethodName := ⟨RX12, "within", "(III)Z"⟩
abbrev cX12_isOne : ByteArray := prog_14_method_3_code
def yX12_isOne : MethodName := ⟨RX12, "isOne", "(I)Z"⟩
abbrev cX12_isPerson : ByteArray := prog_14_method_4_code
def yX12_isPerson : MethodName := ⟨RX12, "isPerson", "(I)Z"⟩
abbrev cX12_has : ByteArray := prog_14_method_5_code
def yX12_has : MethodName := ⟨RX12, "has", "(II)Z"⟩
abbrev cX12_rocket : ByteArray := prog_14_method_6_code
def yX12_rocket : MethodName := ⟨RX12, "rocket", "(IIII)I"⟩
abbrev cX12_of : ByteArray := prog_14_method_7_code
def yX12_of : MethodName := ⟨RX12, "of", "(II)I"⟩
abbrev cX12_set : ByteArray := prog_14_method_8_code
def yX12_set : MethodName := ⟨RX12, "set", "(III)I"⟩
abbrev cX12_light : ByteArray := prog_14_method_9_code
def yX12_light : MethodName := ⟨RX12, "light", "(I)I"⟩
abbrev cX12_grieve : ByteArray := prog_14_method_10_code
def yX12_grieve : MethodName := ⟨RX12, "grieve", "(II)I"⟩
abbrev cX12_rain : ByteArray := prog_14_method_11_code
def yX12_rain : MethodName := ⟨RX12, "rain", "(II)I"⟩
abbrev cX12_row : ByteArray := prog_14_method_12_code
def yX12_row : MethodName := ⟨RX12, "row", "(III)I"⟩
abbrev cX12_feed : ByteArray := prog_14_method_13_code
def yX12_feed : MethodName := ⟨RX12, "feed", "(I)I"⟩
abbrev cX12_is : ByteArray := prog_14_method_14_code
def yX12_is : MethodName := ⟨RX12, "is", "(I)Z"⟩
abbrev cX12_isDigit : ByteArray := prog_14_method_15_code
def yX12_isDigit : MethodName := ⟨RX12, "isDigit", "()Z"⟩
abbrev cX12_isNumber : ByteArray := prog_14_method_16_code
def yX12_isNumber : MethodName := ⟨RX12, "isNumber", "()Z"⟩
abbrev cX12_isAll : ByteArray := prog_14_method_17_code
def yX12_isAll : MethodName := ⟨RX12, "isAll", "(Ljava/lang/String;)Z"⟩
abbrev cX12_codes : ByteArray := prog_14_method_18_code
def yX12_codes : MethodName := ⟨RX12, "codes", "(I)Z"⟩
abbrev cX12_isTest : ByteArray := prog_14_method_19_code
def yX12_isTest : MethodName := ⟨RX12, "isTest", "()Z"⟩
abbrev cX12_isOpened : ByteArray := prog_14_method_20_code
def yX12_isOpened : MethodName := ⟨RX12, "isOpened", "(I)Z"⟩
abbrev cX12_isF : ByteArray := prog_14_method_21_code
def yX12_isF : MethodName := ⟨RX12, "isF", "()Z"⟩
abbrev cX12_isT : ByteArray := prog_14_method_22_code
def yX12_isT : MethodName := ⟨RX12, "isT", "()Z"⟩
abbrev cX12_isE : ByteArray := prog_14_method_23_code
def yX12_isE : MethodName := ⟨RX12, "isE", "()Z"⟩
abbrev cX12_isClause : ByteArray := prog_14_method_24_code
def yX12_isClause : MethodName := ⟨RX12, "isClause", "(I)Z"⟩
abbrev cX12_show : ByteArray := prog_14_method_25_code
def yX12_show : MethodName := ⟨RX12, "show", "()I"⟩
abbrev cX12_letterOf : ByteArray := prog_14_method_26_code
def yX12_letterOf : MethodName := ⟨RX12, "letterOf", "(II)I"⟩
abbrev cX12_isTrue : ByteArray := prog_14_method_27_code
def yX12_isTrue : MethodName := ⟨RX12, "isTrue", "(II)Z"⟩
abbrev cX12_sum : ByteArray := prog_14_method_28_code
def yX12_sum : MethodName := ⟨RX12, "sum", "(I)I"⟩
abbrev cX12_dryBy : ByteArray := prog_14_method_29_code
def yX12_dryBy : MethodName := ⟨RX12, "dryBy", "()I"⟩
abbrev cX12_areSo : ByteArray := prog_14_method_30_code
def yX12_areSo : MethodName := ⟨RX12, "areSo", "(I)I"⟩
abbrev cX12_lightOf : ByteArray := prog_14_method_31_code
def yX12_lightOf : MethodName := ⟨RX12, "lightOf", "(I)I"⟩
abbrev cX12_lights : ByteArray := prog_14_method_32_code
def yX12_lights : MethodName := ⟨RX12, "lights", "(I)V"⟩
abbrev cX12_lightsAll : ByteArray := prog_14_method_33_code
def yX12_lightsAll : MethodName := ⟨RX12, "lightsAll", "(I)V"⟩
abbrev cX12_goesMinute : ByteArray := prog_14_method_34_code
def yX12_goesMinute : MethodName := ⟨RX12, "goesMinute", "()V"⟩
abbrev cX12_even : ByteArray := prog_14_method_35_code
def yX12_even : MethodName := ⟨RX12, "even", "()I"⟩
abbrev cX12_allGrief : ByteArray := prog_14_method_36_code
def yX12_allGrief : MethodName := ⟨RX12, "allGrief", "()I"⟩
abbrev cX12_told : ByteArray := prog_14_method_37_code
def yX12_told : MethodName := ⟨RX12, "told", "(I)I"⟩
abbrev cX12_pass : ByteArray := prog_14_method_38_code
def yX12_pass : MethodName := ⟨RX12, "pass", "(I)I"⟩
abbrev cX12_on : ByteArray := prog_14_method_39_code
def yX12_on : MethodName := ⟨RX12, "on", "(II)I"⟩
abbrev cX12_brightest : ByteArray := prog_14_method_40_code
def yX12_brightest : MethodName := ⟨RX12, "brightest", "(II)I"⟩
abbrev cX12_tries : ByteArray := prog_14_method_41_code
def yX12_tries : MethodName := ⟨RX12, "tries", "(II)V"⟩
abbrev cX12_best : ByteArray := prog_14_method_42_code
def yX12_best : MethodName := ⟨RX12, "best", "(II)I"⟩
abbrev cX12_enough : ByteArray := prog_14_method_43_code
def yX12_enough : MethodName := ⟨RX12, "enough", "(I)I"⟩
abbrev cX12_gift : ByteArray := prog_14_method_44_code
def yX12_gift : MethodName := ⟨RX12, "gift", "(I)I"⟩
abbrev cX12_mark : ByteArray := prog_14_method_45_code
def yX12_mark : MethodName := ⟨RX12, "mark", "(III)I"⟩
abbrev cX12_isMarked : ByteArray := prog_14_method_46_code
def yX12_isMarked : MethodName := ⟨RX12, "isMarked", "(I)Z"⟩
abbrev cX12_areMarked : ByteArray := prog_14_method_47_code
def yX12_areMarked : MethodName := ⟨RX12, "areMarked", "(I)Z"⟩
abbrev cX12_sizes : ByteArray := prog_14_method_48_code
def yX12_sizes : MethodName := ⟨RX12, "sizes", "(I)I"⟩
abbrev cX12_wrong : ByteArray := prog_14_method_49_code
def yX12_wrong : MethodName := ⟨RX12, "wrong", "()I"⟩
abbrev cX12_can : ByteArray := prog_14_method_50_code
def yX12_can : MethodName := ⟨RX12, "can", "(II)I"⟩
abbrev cX12_part : ByteArray := prog_14_method_51_code
def yX12_part : MethodName := ⟨RX12, "part", "(JJI)J"⟩
abbrev cX12_odds : ByteArray := prog_14_method_52_code
def yX12_odds : MethodName := ⟨RX12, "odds", "(II)J"⟩
abbrev cX12_mean : ByteArray := prog_14_method_53_code
def yX12_mean : MethodName := ⟨RX12, "mean", "(I)J"⟩
abbrev cX12_plan : ByteArray := prog_14_method_54_code
def yX12_plan : MethodName := ⟨RX12, "plan", "(II)I"⟩
abbrev cX12_ends : ByteArray := prog_14_method_55_code
def yX12_ends : MethodName := ⟨RX12, "ends", "(I)I"⟩
abbrev cX12_book : ByteArray := prog_14_method_56_code
def yX12_book : MethodName := ⟨RX12, "book", "(II)I"⟩
abbrev cX12_looked : ByteArray := prog_14_method_57_code
def yX12_looked : MethodName := ⟨RX12, "looked", "()I"⟩
abbrev cX12_judge : ByteArray := prog_14_method_58_code
def yX12_judge : MethodName := ⟨RX12, "judge", "(II)I"⟩
abbrev cX12_keep : ByteArray := prog_14_method_59_code
def yX12_keep : MethodName := ⟨RX12, "keep", "([I)V"⟩
abbrev cX12_again : ByteArray := prog_14_method_60_code
def yX12_again : MethodName := ⟨RX12, "again", "([I)V"⟩
abbrev cX12_image : ByteArray := prog_14_method_61_code
def yX12_image : MethodName := ⟨RX12, "image", "()I"⟩
abbrev cX12_undo : ByteArray := prog_14_method_62_code
def yX12_undo : MethodName := ⟨RX12, "undo", "()I"⟩
abbrev cX12_ran : ByteArray := prog_14_method_63_code
def yX12_ran : MethodName := ⟨RX12, "ran", "(I)V"⟩
abbrev cX12_above : ByteArray := prog_14_method_64_code
def yX12_above : MethodName := ⟨RX12, "above", "(I)I"⟩
abbrev cX12_hisses : ByteArray := prog_14_method_65_code
def yX12_hisses : MethodName := ⟨RX12, "hisses", "(III)I"⟩
abbrev cX12_climbs : ByteArray := prog_14_method_66_code
def yX12_climbs : MethodName := ⟨RX12, "climbs", "(III)I"⟩
abbrev cX12_tells : ByteArray := prog_14_method_67_code
def yX12_tells : MethodName := ⟨RX12, "tells", "(III)I"⟩
abbrev cX12_act : ByteArray := prog_14_method_68_code
def yX12_act : MethodName := ⟨RX12, "act", "(III)I"⟩
abbrev cX12_trace : ByteArray := prog_14_method_69_code
def yX12_trace : MethodName := ⟨RX12, "trace", "(I)I"⟩
abbrev cX12_taken : ByteArray := prog_14_method_70_code
def yX12_taken : MethodName := ⟨RX12, "taken", "(II)I"⟩
abbrev cX12_count : ByteArray := prog_14_method_71_code
def yX12_count : MethodName := ⟨RX12, "count", "(I)I"⟩
abbrev cX12_isTape : ByteArray := prog_14_method_72_code
def yX12_isTape : MethodName := ⟨RX12, "isTape", "(I)Z"⟩
abbrev cX12_tape : ByteArray := prog_14_method_73_code
def yX12_tape : MethodName := ⟨RX12, "tape", "(III)I"⟩
abbrev cX12_kept : ByteArray := prog_14_method_74_code
def yX12_kept : MethodName := ⟨RX12, "kept", "(IJ)J"⟩
abbrev cX12_item : ByteArray := prog_14_method_75_code
def yX12_item : MethodName := ⟨RX12, "item", "(IIJ)I"⟩
abbrev cX12_read : ByteArray := prog_14_method_76_code
def yX12_read : MethodName := ⟨RX12, "read", "(II)J"⟩
abbrev cX12_shift : ByteArray := prog_14_method_77_code
def yX12_shift : MethodName := ⟨RX12, "shift", "(IIIII)I"⟩
def RJx145de : String := "java/io/Serializable"
def TJx145de : u_T := fun k => match k with
  | _ => ("", "", "", false)
def tyJx145de : Nat → FieldType := fun k => match k with
  | _ => .int
theorem nmJx145de : ∀ a, a < 0 → ∀ b, b < 0 → a ≠ b → (TJx145de a).2.1 ≠ (TJx145de b).2.1 := by decide +kernel
theorem tyJx145de_ok : ∀ k, k < 0 → parseFieldDescriptor (TJx145de k).2.2.1 = some (tyJx145de k) := by decide +kernel
def RJx9f9b0 : String := "java/lang/CharSequence"
def TJx9f9b0 : u_T := fun k => match k with
  | _ => ("", "", "", false)
def tyJx9f9b0 : Nat → FieldType := fun k => match k with
  | _ => .int
theorem nmJx9f9b0 : ∀ a, a < 0 → ∀ b, b < 0 → a ≠ b → (TJx9f9b0 a).2.1 ≠ (TJx9f9b0 b).2.1 := by decide +kernel
theorem tyJx9f9b0_ok : ∀ k, k < 0 → parseFieldDescriptor (TJx9f9b0 k).2.2.1 = some (tyJx9f9b0 k) := by decide +kernel
def RJ11 : String := "java/lang/Character"
def TJ11 : u_T := fun k => match k with
  | _ => ("", "", "", false)
def tyJ11 : Nat → FieldType := fun k => match k with
  | _ => .int
theorem nmJ11 : ∀ a, a < 0 → ∀ b, b < 0 → a ≠ b → (TJ11 a).2.1 ≠ (TJ11 b).2.1 := by decide +kernel
theorem tyJ11_ok : ∀ k, k < 0 → parseFieldDescriptor (TJ11 k).2.2.1 = some (tyJ11 k) := by decide +kernel
abbrev cJ11_isValidCodePoint_9a6ad : ByteArray := prog_15_method_11_code
def yJ11_isValidCodePoint_9a6ad : MethodName := ⟨RJ11, "isValidCodePoint", "(I)Z"⟩
abbrev cJ11_highSurrogate_5068e : ByteArray := prog_15_method_28_code
def yJ11_highSurrogate_5068e : MethodName := ⟨RJ11, "highSurrogate", "(I)C"⟩
abbrev cJ11_lowSurrogate_5068e : ByteArray := prog_15_method_29_code
def yJ11_lowSurrogate_5068e : MethodName := ⟨RJ11, "lowSurrogate", "(I)C"⟩
def RJx8e188 : String := "java/lang/Cloneable"
def TJx8e188 : u_T := fun k => match k with
  | _ => ("", "", "", false)
def tyJx8e188 : Nat → FieldType := fun k => match k with
  | _ => .int
theorem nmJx8e188 : ∀ a, a < 0 → ∀ b, b < 0 → a ≠ b → (TJx8e188 a).2.1 ≠ (TJx8e188 b).2.1 := by decide +kernel
theorem tyJx8e188_ok : ∀ k, k < 0 → parseFieldDescriptor (TJx8e188 k).2.2.1 = some (tyJx8e188 k) := by decide +kernel
def RJxb160c : String := "java/lang/Comparable"
def TJxb160c : u_T := fun k => match k with
  | _ => ("", "", "", false)
def tyJxb160c : Nat → FieldType := fun k => match k with
  | _ => .int
theorem nmJxb160c : ∀ a, a < 0 → ∀ b, b < 0 → a ≠ b → (TJxb160c a).2.1 ≠ (TJxb160c b).2.1 := by decide +kernel
theorem tyJxb160c_ok : ∀ k, k < 0 → parseFieldDescriptor (TJxb160c k).2.2.1 = some (tyJxb160c k) := by decide +kernel
def RJ6 : String := "java/lang/Integer"
def TJ6 : u_T := fun k => match k with
  | _ => ("", "", "", false)
def tyJ6 : Nat → FieldType := fun k => match k with
  | _ => .int
theorem nmJ6 : ∀ a, a < 0 → ∀ b, b < 0 → a ≠ b → (TJ6 a).2.1 ≠ (TJ6 b).2.1 := by decide +kernel
theorem tyJ6_ok : ∀ k, k < 0 → parseFieldDescriptor (TJ6 k).2.2.1 = some (tyJ6 k) := by decide +kernel
abbrev cJ6_numberOfTrailingZeros_0f7a4 : ByteArray := prog_17_method_48_code
def yJ6_numberOfTrailingZeros_0f7a4 : MethodName := ⟨RJ6, "numberOfTrailingZeros", "(I)I"⟩
abbrev cJ6_bitCount_0f7a4 : ByteArray := prog_17_method_49_code
def yJ6_bitCount_0f7a4 : MethodName := ⟨RJ6, "bitCount", "(I)I"⟩
def RJ9 : String := "java/lang/Math"
def TJ9 : u_T := fun k => match k with
  | _ => ("", "", "", false)
def tyJ9 : Nat → FieldType := fun k => match k with
  | _ => .int
theorem nmJ9 : ∀ a, a < 0 → ∀ b, b < 0 → a ≠ b → (TJ9 a).2.1 ≠ (TJ9 b).2.1 := by decide +kernel
theorem tyJ9_ok : ∀ k, k < 0 → parseFieldDescriptor (TJ9 k).2.2.1 = some (tyJ9 k) := by decide +kernel
abbrev cJ9_floorDiv_7cf53 : ByteArray := prog_18_method_47_code
def yJ9_floorDiv_7cf53 : MethodName := ⟨RJ9, "floorDiv", "(II)I"⟩
abbrev cJ9_floorMod_7cf53 : ByteArray := prog_18_method_50_code
def yJ9_floorMod_7cf53 : MethodName := ⟨RJ9, "floorMod", "(II)I"⟩
abbrev cJ9_max_7cf53 : ByteArray := prog_18_method_65_code
def yJ9_max_7cf53 : MethodName := ⟨RJ9, "max", "(II)I"⟩
abbrev cJ9_min_7cf53 : ByteArray := prog_18_method_69_code
def yJ9_min_7cf53 : MethodName := ⟨RJ9, "min", "(II)I"⟩
def RJ0 : String := "java/lang/String"
def TJ0 : u_T := fun k => match k with
  | _ => ("", "", "", false)
def tyJ0 : Nat → FieldType := fun k => match k with
  | _ => .int
theorem nmJ0 : ∀ a, a < 0 → ∀ b, b < 0 → a ≠ b → (TJ0 a).2.1 ≠ (TJ0 b).2.1 := by decide +kernel
theorem tyJ0_ok : ∀ k, k < 0 → parseFieldDescriptor (TJ0 k).2.2.1 = some (tyJ0 k) := by decide +kernel
abbrev cJ0_length_8abf5 : ByteArray := prog_19_method_54_code
def yJ0_length_8abf5 : MethodName := ⟨RJ0, "length", "()I"⟩
abbrev cJ0_charAt_5068e : ByteArray := prog_19_method_56_code
def yJ0_charAt_5068e : MethodName := ⟨RJ0, "charAt", "(I)C"⟩
abbrev cJ0_indexOf_0f7a4 : ByteArray := prog_19_method_79_code
def yJ0_indexOf_0f7a4 : MethodName := ⟨RJ0, "indexOf", "(I)I"⟩
abbrev cJ0_indexOf_7cf53 : ByteArray := prog_19_method_80_code
def yJ0_indexOf_7cf53 : MethodName := ⟨RJ0, "indexOf", "(II)I"⟩
abbrev cJ0_coder_7d493 : ByteArray := prog_19_method_152_code
def yJ0_coder_7d493 : MethodName := ⟨RJ0, "coder", "()B"⟩
abbrev cJ0_isLatin1_aae02 : ByteArray := prog_19_method_154_code
def yJ0_isLatin1_aae02 : MethodName := ⟨RJ0, "isLatin1", "()Z"⟩
abbrev cJ0_checkIndex_df160 : ByteArray := prog_19_method_155_code
def yJ0_checkIndex_df160 : MethodName := ⟨RJ0, "checkIndex", "(II)V"⟩
abbrev cJ0_checkBoundsBeginEnd_23922 : ByteArray := prog_19_method_158_code
def yJ0_checkBoundsBeginEnd_23922 : MethodName := ⟨RJ0, "checkBoundsBeginEnd", "(III)V"⟩
def RJ1 : String := "java/lang/StringLatin1"
def TJ1 : u_T := fun k => match k with
  | _ => ("", "", "", false)
def tyJ1 : Nat → FieldType := fun k => match k with
  | _ => .int
theorem nmJ1 : ∀ a, a < 0 → ∀ b, b < 0 → a ≠ b → (TJ1 a).2.1 ≠ (TJ1 b).2.1 := by decide +kernel
theorem tyJ1_ok : ∀ k, k < 0 → parseFieldDescriptor (TJ1 k).2.2.1 = some (tyJ1 k) := by decide +kernel
abbrev cJ1_charAt_3b067 : ByteArray := prog_20_method_2_code
def yJ1_charAt_3b067 : MethodName := ⟨RJ1, "charAt", "([BI)C"⟩
abbrev cJ1_canEncode_9a6ad : ByteArray := prog_20_method_4_code
def yJ1_canEncode_9a6ad : MethodName := ⟨RJ1, "canEncode", "(I)Z"⟩
abbrev cJ1_indexOf_4cfef : ByteArray := prog_20_method_22_code
def yJ1_indexOf_4cfef : MethodName := ⟨RJ1, "indexOf", "([BIII)I"⟩
abbrev cJ1_indexOfChar_4cfef : ByteArray := prog_20_method_23_code
def yJ1_indexOfChar_4cfef : MethodName := ⟨RJ1, "indexOfChar", "([BIII)I"⟩
def RJ2 : String := "java/lang/StringUTF16"
def TJ2 : u_T := fun k => match k with
  | _ => ("", "", "", false)
def tyJ2 : Nat → FieldType := fun k => match k with
  | _ => .int
theorem nmJ2 : ∀ a, a < 0 → ∀ b, b < 0 → a ≠ b → (TJ2 a).2.1 ≠ (TJ2 b).2.1 := by decide +kernel
theorem tyJ2_ok : ∀ k, k < 0 → parseFieldDescriptor (TJ2 k).2.2.1 = some (tyJ2 k) := by decide +kernel
abbrev cJ2_getChar_3b067 : ByteArray := prog_21_method_5_code
def yJ2_getChar_3b067 : MethodName := ⟨RJ2, "getChar", "([BI)C"⟩
abbrev cJ2_length_9d52b : ByteArray := prog_21_method_6_code
def yJ2_length_9d52b : MethodName := ⟨RJ2, "length", "([B)I"⟩
abbrev cJ2_indexOf_4cfef : ByteArray := prog_21_method_40_code
def yJ2_indexOf_4cfef : MethodName := ⟨RJ2, "indexOf", "([BIII)I"⟩
abbrev cJ2_indexOfChar_4cfef : ByteArray := prog_21_method_47_code
def yJ2_indexOfChar_4cfef : MethodName := ⟨RJ2, "indexOfChar", "([BIII)I"⟩
abbrev cJ2_indexOfCharUnsafe_4cfef : ByteArray := prog_21_method_48_code
def yJ2_indexOfCharUnsafe_4cfef : MethodName := ⟨RJ2, "indexOfCharUnsafe", "([BIII)I"⟩
abbrev cJ2_indexOfSupplementary_4cfef : ByteArray := prog_21_method_49_code
def yJ2_indexOfSupplementary_4cfef : MethodName := ⟨RJ2, "indexOfSupplementary", "([BIII)I"⟩
abbrev cJ2_charAt_3b067 : ByteArray := prog_21_method_83_code
def yJ2_charAt_3b067 : MethodName := ⟨RJ2, "charAt", "([BI)C"⟩
abbrev cJ2_checkIndex_2214a : ByteArray := prog_21_method_91_code
def yJ2_checkIndex_2214a : MethodName := ⟨RJ2, "checkIndex", "(I[B)V"⟩
abbrev cJ2_checkBoundsBeginEnd_d044e : ByteArray := prog_21_method_93_code
def yJ2_checkBoundsBeginEnd_d044e : MethodName := ⟨RJ2, "checkBoundsBeginEnd", "(II[B)V"⟩
def RJ10 : String := "java/lang/System"
def TJ10 : u_T := fun k => match k with
  | _ => ("", "", "", false)
def tyJ10 : Nat → FieldType := fun k => match k with
  | _ => .int
theorem nmJ10 : ∀ a, a < 0 → ∀ b, b < 0 → a ≠ b → (TJ10 a).2.1 ≠ (TJ10 b).2.1 := by decide +kernel
theorem tyJ10_ok : ∀ k, k < 0 → parseFieldDescriptor (TJ10 k).2.2.1 = some (tyJ10 k) := by decide +kernel
def RJxfd54e : String := "java/lang/constant/Constable"
def TJxfd54e : u_T := fun k => match k with
  | _ => ("", "", "", false)
def tyJxfd54e : Nat → FieldType := fun k => match k with
  | _ => .int
theorem nmJxfd54e : ∀ a, a < 0 → ∀ b, b < 0 → a ≠ b → (TJxfd54e a).2.1 ≠ (TJxfd54e b).2.1 := by decide +kernel
theorem tyJxfd54e_ok : ∀ k, k < 0 → parseFieldDescriptor (TJxfd54e k).2.2.1 = some (tyJxfd54e k) := by decide +kernel
def RJx3cf43 : String := "java/lang/constant/ConstantDesc"
def TJx3cf43 : u_T := fun k => match k with
  | _ => ("", "", "", false)
def tyJx3cf43 : Nat → FieldType := fun k => match k with
  | _ => .int
theorem nmJx3cf43 : ∀ a, a < 0 → ∀ b, b < 0 → a ≠ b → (TJx3cf43 a).2.1 ≠ (TJx3cf43 b).2.1 := by decide +kernel
theorem tyJx3cf43_ok : ∀ k, k < 0 → parseFieldDescriptor (TJx3cf43 k).2.2.1 = some (tyJx3cf43 k) := by decide +kernel
def RJ7 : String := "java/util/Arrays"
def TJ7 : u_T := fun k => match k with
  | _ => ("", "", "", false)
def tyJ7 : Nat → FieldType := fun k => match k with
  | _ => .int
theorem nmJ7 : ∀ a, a < 0 → ∀ b, b < 0 → a ≠ b → (TJ7 a).2.1 ≠ (TJ7 b).2.1 := by decide +kernel
theorem tyJ7_ok : ∀ k, k < 0 → parseFieldDescriptor (TJ7 k).2.2.1 = some (tyJ7 k) := by decide +kernel
abbrev cJ7_fill_d0a16 : ByteArray := prog_23_method_101_code
def yJ7_fill_d0a16 : MethodName := ⟨RJ7, "fill", "([JJ)V"⟩
abbrev cJ7_fill_53178 : ByteArray := prog_23_method_103_code
def yJ7_fill_53178 : MethodName := ⟨RJ7, "fill", "([II)V"⟩
abbrev cJ7_copyOf_59c91 : ByteArray := prog_23_method_123_code
def yJ7_copyOf_59c91 : MethodName := ⟨RJ7, "copyOf", "([II)[I"⟩
def RJ3 : String := "jdk/internal/util/Preconditions"
def TJ3 : u_T := fun k => match k with
  | _ => ("", "", "", false)
def tyJ3 : Nat → FieldType := fun k => match k with
  | _ => .int
theorem nmJ3 : ∀ a, a < 0 → ∀ b, b < 0 → a ≠ b → (TJ3 a).2.1 ≠ (TJ3 b).2.1 := by decide +kernel
theorem tyJ3_ok : ∀ k, k < 0 → parseFieldDescriptor (TJ3 k).2.2.1 = some (tyJ3 k) := by decide +kernel
abbrev cJ3_checkIndex_8e157 : ByteArray := prog_24_method_11_code
def yJ3_checkIndex_8e157 : MethodName := ⟨RJ3, "checkIndex", "(IILjava/util/function/BiFunction;)I"⟩
abbrev cJ3_checkFromToIndex_8c36e : ByteArray := prog_24_method_12_code
def yJ3_checkFromToIndex_8c36e : MethodName := ⟨RJ3, "checkFromToIndex", "(IIILjava/util/function/BiFunction;)I"⟩
