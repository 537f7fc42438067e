def lw_okq (q : MethodName × Nat) : Prop := (q.1.cls ≠ "java/lang/invoke/MethodHandle" ∧ q.1.cls ≠ "java/lang/invoke/VarHandle") ∧ Cond.instantiable q.1.cls q.2 ∈ tables_1 ∧ Cond.privateMethod q.1 ∈ tables_1 ∧ Cond.instanceMethod q.1 ∈ tables_1
theorem lw_p0 : lw_okq (⟨"BothSidesSheet", "isTray", "(I)Z"⟩, 11) := ⟨⟨by decide +kernel, by decide +kernel⟩, List.mem_of_getElem? (i := 22) (by decide +kernel), List.mem_of_getElem? (i := 299) (by decide +kernel), List.mem_of_getElem? (i := 300) (by decide +kernel)⟩
theorem lw_p1 : lw_okq (⟨"BothSidesSheet$Reader", "clause", "()Z"⟩, 8) := ⟨⟨by decide +kernel, by decide +kernel⟩, List.mem_of_getElem? (i := 133) (by decide +kernel), List.mem_of_getElem? (i := 319) (by decide +kernel), List.mem_of_getElem? (i := 320) (by decide +kernel)⟩
theorem lw_p2 : lw_okq (⟨"BothSidesSheet$Reader", "word", "()I"⟩, 8) := ⟨⟨by decide +kernel, by decide +kernel⟩, List.mem_of_getElem? (i := 133) (by decide +kernel), List.mem_of_getElem? (i := 323) (by decide +kernel), List.mem_of_getElem? (i := 324) (by decide +kernel)⟩
theorem lw_p3 : lw_okq (⟨"BothSidesSheet$Reader", "sign", "()I"⟩, 8) := ⟨⟨by decide +kernel, by decide +kernel⟩, List.mem_of_getElem? (i := 133) (by decide +kernel), List.mem_of_getElem? (i := 371) (by decide +kernel), List.mem_of_getElem? (i := 372) (by decide +kernel)⟩
theorem lw_p4 : lw_okq (⟨"BothSidesSheet$Reader", "bound", "(I)Z"⟩, 8) := ⟨⟨by decide +kernel, by decide +kernel⟩, List.mem_of_getElem? (i := 133) (by decide +kernel), List.mem_of_getElem? (i := 375) (by decide +kernel), List.mem_of_getElem? (i := 376) (by decide +kernel)⟩
theorem lw_p5 : lw_okq (⟨"BothSidesSheet$Reader", "number", "()I"⟩, 8) := ⟨⟨by decide +kernel, by decide +kernel⟩, List.mem_of_getElem? (i := 133) (by decide +kernel), List.mem_of_getElem? (i := 379) (by decide +kernel), List.mem_of_getElem? (i := 380) (by decide +kernel)⟩
theorem lw_p6 : lw_okq (⟨"BothSidesSheet$Reader", "anyOf", "(I)Z"⟩, 8) := ⟨⟨by decide +kernel, by decide +kernel⟩, List.mem_of_getElem? (i := 133) (by decide +kernel), List.mem_of_getElem? (i := 386) (by decide +kernel), List.mem_of_getElem? (i := 387) (by decide +kernel)⟩
theorem lw_p7 : lw_okq (⟨"BothSidesSheet$Reader", "allOf", "(I)Z"⟩, 8) := ⟨⟨by decide +kernel, by decide +kernel⟩, List.mem_of_getElem? (i := 133) (by decide +kernel), List.mem_of_getElem? (i := 390) (by decide +kernel), List.mem_of_getElem? (i := 391) (by decide +kernel)⟩
theorem lw_p8 : lw_okq (⟨"BothSidesSheet$Reader", "one", "(I)Z"⟩, 8) := ⟨⟨by decide +kernel, by decide +kernel⟩, List.mem_of_getElem? (i := 133) (by decide +kernel), List.mem_of_getElem? (i := 394) (by decide +kernel), List.mem_of_getElem? (i := 395) (by decide +kernel)⟩
theorem lw_p9 : lw_okq (⟨"BothSidesSheet$Reader", "test", "(I)Z"⟩, 8) := ⟨⟨by decide +kernel, by decide +kernel⟩, List.mem_of_getElem? (i := 133) (by decide +kernel), List.mem_of_getElem? (i := 398) (by decide +kernel), List.mem_of_getElem? (i := 399) (by decide +kernel)⟩
theorem lw_p10 : lw_okq (⟨"BothSidesSheet$Pile", "turnWhole", "()V"⟩, 2) := ⟨⟨by decide +kernel, by decide +kernel⟩, List.mem_of_getElem? (i := 36) (by decide +kernel), List.mem_of_getElem? (i := 541) (by decide +kernel), List.mem_of_getElem? (i := 542) (by decide +kernel)⟩
theorem lw_p11 : lw_okq (⟨"BothSidesSheet", "isSheet", "(I)Z"⟩, 11) := ⟨⟨by decide +kernel, by decide +kernel⟩, List.mem_of_getElem? (i := 22) (by decide +kernel), List.mem_of_getElem? (i := 568) (by decide +kernel), List.mem_of_getElem? (i := 569) (by decide +kernel)⟩
theorem lw_p12 : lw_okq (⟨"BothSidesSheet", "isJob", "(I)Z"⟩, 11) := ⟨⟨by decide +kernel, by decide +kernel⟩, List.mem_of_getElem? (i := 22) (by decide +kernel), List.mem_of_getElem? (i := 599) (by decide +kernel), List.mem_of_getElem? (i := 600) (by decide +kernel)⟩
theorem lw_p13 : lw_okq (⟨"BothSidesSheet$Copier", "gather", "(LBothSidesSheet$Pile;I)V"⟩, 3) := ⟨⟨by decide +kernel, by decide +kernel⟩, List.mem_of_getElem? (i := 183) (by decide +kernel), List.mem_of_getElem? (i := 640) (by decide +kernel), List.mem_of_getElem? (i := 641) (by decide +kernel)⟩
theorem lw_p14 : lw_okq (⟨"BothSidesSheet", "tryRun", "(III)V"⟩, 11) := ⟨⟨by decide +kernel, by decide +kernel⟩, List.mem_of_getElem? (i := 22) (by decide +kernel), List.mem_of_getElem? (i := 648) (by decide +kernel), List.mem_of_getElem? (i := 649) (by decide +kernel)⟩
theorem lw_p15 : lw_okq (⟨"BothSidesSheet", "rightsAfter", "(II)I"⟩, 11) := ⟨⟨by decide +kernel, by decide +kernel⟩, List.mem_of_getElem? (i := 22) (by decide +kernel), List.mem_of_getElem? (i := 661) (by decide +kernel), List.mem_of_getElem? (i := 662) (by decide +kernel)⟩
def lw_privs_1 : List (MethodName × Nat) := [(⟨"BothSidesSheet", "isTray", "(I)Z"⟩, 11), (⟨"BothSidesSheet$Reader", "clause", "()Z"⟩, 8), (⟨"BothSidesSheet$Reader", "word", "()I"⟩, 8), (⟨"BothSidesSheet$Reader", "sign", "()I"⟩, 8), (⟨"BothSidesSheet$Reader", "bound", "(I)Z"⟩, 8), (⟨"BothSidesSheet$Reader", "number", "()I"⟩, 8), (⟨"BothSidesSheet$Reader", "anyOf", "(I)Z"⟩, 8), (⟨"BothSidesSheet$Reader", "allOf", "(I)Z"⟩, 8), (⟨"BothSidesSheet$Reader", "one", "(I)Z"⟩, 8), (⟨"BothSidesSheet$Reader", "test", "(I)Z"⟩, 8), (⟨"BothSidesSheet$Pile", "turnWhole", "()V"⟩, 2), (⟨"BothSidesSheet", "isSheet", "(I)Z"⟩, 11), (⟨"BothSidesSheet", "isJob", "(I)Z"⟩, 11), (⟨"BothSidesSheet$Copier", "gather", "(LBothSidesSheet$Pile;I)V"⟩, 3), (⟨"BothSidesSheet", "tryRun", "(III)V"⟩, 11), (⟨"BothSidesSheet", "rightsAfter", "(II)I"⟩, 11)]
theorem lw_r1 : ∀ q ∈ lw_privs_1, lw_okq q := List.forall_mem_cons.mpr ⟨lw_p0, List.forall_mem_cons.mpr ⟨lw_p1, List.forall_mem_cons.mpr ⟨lw_p2, List.forall_mem_cons.mpr ⟨lw_p3, List.forall_mem_cons.mpr ⟨lw_p4, List.forall_mem_cons.mpr ⟨lw_p5, List.forall_mem_cons.mpr ⟨lw_p6, List.forall_mem_cons.mpr ⟨lw_p7, List.forall_mem_cons.mpr ⟨lw_p8, List.forall_mem_cons.mpr ⟨lw_p9, List.forall_mem_cons.mpr ⟨lw_p10, List.forall_mem_cons.mpr ⟨lw_p11, List.forall_mem_cons.mpr ⟨lw_p12, List.forall_mem_cons.mpr ⟨lw_p13, List.forall_mem_cons.mpr ⟨lw_p14, List.forall_mem_cons.mpr ⟨lw_p15, fun _ h => absurd h List.not_mem_nil⟩⟩⟩⟩⟩⟩⟩⟩⟩⟩⟩⟩⟩⟩⟩⟩
theorem lw_p16 : lw_okq (⟨"BothSidesSheet", "rightsBehind", "(III)I"⟩, 11) := ⟨⟨by decide +kernel, by decide +kernel⟩, List.mem_of_getElem? (i := 22) (by decide +kernel), List.mem_of_getElem? (i := 673) (by decide +kernel), List.mem_of_getElem? (i := 674) (by decide +kernel)⟩
theorem lw_p17 : lw_okq (⟨"BothSidesSheet", "isSeenAfter", "(III)Z"⟩, 11) := ⟨⟨by decide +kernel, by decide +kernel⟩, List.mem_of_getElem? (i := 22) (by decide +kernel), List.mem_of_getElem? (i := 713) (by decide +kernel), List.mem_of_getElem? (i := 714) (by decide +kernel)⟩
theorem lw_p18 : lw_okq (⟨"BothSidesSheet", "doPlanned", "(III)V"⟩, 11) := ⟨⟨by decide +kernel, by decide +kernel⟩, List.mem_of_getElem? (i := 22) (by decide +kernel), List.mem_of_getElem? (i := 745) (by decide +kernel), List.mem_of_getElem? (i := 746) (by decide +kernel)⟩
theorem lw_p19 : lw_okq (⟨"BothSidesSheet$Acts", "feeds", "(III)I"⟩, 5) := ⟨⟨by decide +kernel, by decide +kernel⟩, List.mem_of_getElem? (i := 203) (by decide +kernel), List.mem_of_getElem? (i := 802) (by decide +kernel), List.mem_of_getElem? (i := 803) (by decide +kernel)⟩
theorem lw_p20 : lw_okq (⟨"BothSidesSheet$Acts", "begins", "(II)Z"⟩, 5) := ⟨⟨by decide +kernel, by decide +kernel⟩, List.mem_of_getElem? (i := 203) (by decide +kernel), List.mem_of_getElem? (i := 806) (by decide +kernel), List.mem_of_getElem? (i := 807) (by decide +kernel)⟩
theorem lw_p21 : lw_okq (⟨"BothSidesSheet$Acts", "prints", "(III)I"⟩, 5) := ⟨⟨by decide +kernel, by decide +kernel⟩, List.mem_of_getElem? (i := 203) (by decide +kernel), List.mem_of_getElem? (i := 810) (by decide +kernel), List.mem_of_getElem? (i := 811) (by decide +kernel)⟩
theorem lw_p22 : lw_okq (⟨"BothSidesSheet$Acts", "tells", "(III)I"⟩, 5) := ⟨⟨by decide +kernel, by decide +kernel⟩, List.mem_of_getElem? (i := 203) (by decide +kernel), List.mem_of_getElem? (i := 814) (by decide +kernel), List.mem_of_getElem? (i := 815) (by decide +kernel)⟩
theorem lw_p23 : lw_okq (⟨"BothSidesSheetModel", "in", "(III)Z"⟩, 69) := ⟨⟨by decide +kernel, by decide +kernel⟩, List.mem_of_getElem? (i := 871) (by decide +kernel), List.mem_of_getElem? (i := 1090) (by decide +kernel), List.mem_of_getElem? (i := 1091) (by decide +kernel)⟩
theorem lw_p24 : lw_okq (⟨"BothSidesSheetModel", "isTray", "(I)Z"⟩, 69) := ⟨⟨by decide +kernel, by decide +kernel⟩, List.mem_of_getElem? (i := 871) (by decide +kernel), List.mem_of_getElem? (i := 1098) (by decide +kernel), List.mem_of_getElem? (i := 1099) (by decide +kernel)⟩
theorem lw_p25 : lw_okq (⟨"BothSidesSheetModel", "goesText", "(I)Z"⟩, 69) := ⟨⟨by decide +kernel, by decide +kernel⟩, List.mem_of_getElem? (i := 871) (by decide +kernel), List.mem_of_getElem? (i := 1114) (by decide +kernel), List.mem_of_getElem? (i := 1115) (by decide +kernel)⟩
theorem lw_p26 : lw_okq (⟨"BothSidesSheetModel", "takesClause", "(I)Z"⟩, 69) := ⟨⟨by decide +kernel, by decide +kernel⟩, List.mem_of_getElem? (i := 871) (by decide +kernel), List.mem_of_getElem? (i := 1118) (by decide +kernel), List.mem_of_getElem? (i := 1119) (by decide +kernel)⟩
theorem lw_p27 : lw_okq (⟨"BothSidesSheetModel", "takesHead", "(I)Z"⟩, 69) := ⟨⟨by decide +kernel, by decide +kernel⟩, List.mem_of_getElem? (i := 871) (by decide +kernel), List.mem_of_getElem? (i := 1122) (by decide +kernel), List.mem_of_getElem? (i := 1123) (by decide +kernel)⟩
theorem lw_p28 : lw_okq (⟨"BothSidesSheetModel", "next", "()I"⟩, 69) := ⟨⟨by decide +kernel, by decide +kernel⟩, List.mem_of_getElem? (i := 871) (by decide +kernel), List.mem_of_getElem? (i := 1126) (by decide +kernel), List.mem_of_getElem? (i := 1127) (by decide +kernel)⟩
theorem lw_p29 : lw_okq (⟨"BothSidesSheetModel", "takesWord", "(II)Z"⟩, 69) := ⟨⟨by decide +kernel, by decide +kernel⟩, List.mem_of_getElem? (i := 871) (by decide +kernel), List.mem_of_getElem? (i := 1130) (by decide +kernel), List.mem_of_getElem? (i := 1131) (by decide +kernel)⟩
theorem lw_p30 : lw_okq (⟨"BothSidesSheetModel", "takes", "(I)Z"⟩, 69) := ⟨⟨by decide +kernel, by decide +kernel⟩, List.mem_of_getElem? (i := 871) (by decide +kernel), List.mem_of_getElem? (i := 1134) (by decide +kernel), List.mem_of_getElem? (i := 1135) (by decide +kernel)⟩
theorem lw_p31 : lw_okq (⟨"BothSidesSheetModel", "second", "()I"⟩, 69) := ⟨⟨by decide +kernel, by decide +kernel⟩, List.mem_of_getElem? (i := 871) (by decide +kernel), List.mem_of_getElem? (i := 1138) (by decide +kernel), List.mem_of_getElem? (i := 1139) (by decide +kernel)⟩
def lw_privs_2 : List (MethodName × Nat) := [(⟨"BothSidesSheet", "rightsBehind", "(III)I"⟩, 11), (⟨"BothSidesSheet", "isSeenAfter", "(III)Z"⟩, 11), (⟨"BothSidesSheet", "doPlanned", "(III)V"⟩, 11), (⟨"BothSidesSheet$Acts", "feeds", "(III)I"⟩, 5), (⟨"BothSidesSheet$Acts", "begins", "(II)Z"⟩, 5), (⟨"BothSidesSheet$Acts", "prints", "(III)I"⟩, 5), (⟨"BothSidesSheet$Acts", "tells", "(III)I"⟩, 5), (⟨"BothSidesSheetModel", "in", "(III)Z"⟩, 69), (⟨"BothSidesSheetModel", "isTray", "(I)Z"⟩, 69), (⟨"BothSidesSheetModel", "goesText", "(I)Z"⟩, 69), (⟨"BothSidesSheetModel", "takesClause", "(I)Z"⟩, 69), (⟨"BothSidesSheetModel", "takesHead", "(I)Z"⟩, 69), (⟨"BothSidesSheetModel", "next", "()I"⟩, 69), (⟨"BothSidesSheetModel", "takesWord", "(II)Z"⟩, 69), (⟨"BothSidesSheetModel", "takes", "(I)Z"⟩, 69), (⟨"BothSidesSheetModel", "second", "()I"⟩, 69)]
theorem lw_r2 : ∀ q ∈ lw_privs_2, lw_okq q := List.forall_mem_cons.mpr ⟨lw_p16, List.forall_mem_cons.mpr ⟨lw_p17, List.forall_mem_cons.mpr ⟨lw_p18, List.forall_mem_cons.mpr ⟨lw_p19, List.forall_mem_cons.mpr ⟨lw_p20, List.forall_mem_cons.mpr ⟨lw_p21, List.forall_mem_cons.mpr ⟨lw_p22, List.forall_mem_cons.mpr ⟨lw_p23, List.forall_mem_cons.mpr ⟨lw_p24, List.forall_mem_cons.mpr ⟨lw_p25, List.forall_mem_cons.mpr ⟨lw_p26, List.forall_mem_cons.mpr ⟨lw_p27, List.forall_mem_cons.mpr ⟨lw_p28, List.forall_mem_cons.mpr ⟨lw_p29, List.forall_mem_cons.mpr ⟨lw_p30, List.forall_mem_cons.mpr ⟨lw_p31, fun _ h => absurd h List.not_mem_nil⟩⟩⟩⟩⟩⟩⟩⟩⟩⟩⟩⟩⟩⟩⟩⟩
theorem lw_p32 : lw_okq (⟨"BothSidesSheetModel", "takesE", "(I)Z"⟩, 69) := ⟨⟨by decide +kernel, by decide +kernel⟩, List.mem_of_getElem? (i := 871) (by decide +kernel), List.mem_of_getElem? (i := 1142) (by decide +kernel), List.mem_of_getElem? (i := 1143) (by decide +kernel)⟩
theorem lw_p33 : lw_okq (⟨"BothSidesSheetModel", "takesTest", "()Z"⟩, 69) := ⟨⟨by decide +kernel, by decide +kernel⟩, List.mem_of_getElem? (i := 871) (by decide +kernel), List.mem_of_getElem? (i := 1146) (by decide +kernel), List.mem_of_getElem? (i := 1147) (by decide +kernel)⟩
theorem lw_p34 : lw_okq (⟨"BothSidesSheetModel", "place", "(I)I"⟩, 69) := ⟨⟨by decide +kernel, by decide +kernel⟩, List.mem_of_getElem? (i := 871) (by decide +kernel), List.mem_of_getElem? (i := 1150) (by decide +kernel), List.mem_of_getElem? (i := 1151) (by decide +kernel)⟩
theorem lw_p35 : lw_okq (⟨"BothSidesSheetModel", "takesNumber", "()Z"⟩, 69) := ⟨⟨by decide +kernel, by decide +kernel⟩, List.mem_of_getElem? (i := 871) (by decide +kernel), List.mem_of_getElem? (i := 1154) (by decide +kernel), List.mem_of_getElem? (i := 1155) (by decide +kernel)⟩
theorem lw_p36 : lw_okq (⟨"BothSidesSheetModel", "isDigit", "()Z"⟩, 69) := ⟨⟨by decide +kernel, by decide +kernel⟩, List.mem_of_getElem? (i := 871) (by decide +kernel), List.mem_of_getElem? (i := 1158) (by decide +kernel), List.mem_of_getElem? (i := 1159) (by decide +kernel)⟩
theorem lw_p37 : lw_okq (⟨"BothSidesSheetModel", "emits", "(I)V"⟩, 69) := ⟨⟨by decide +kernel, by decide +kernel⟩, List.mem_of_getElem? (i := 871) (by decide +kernel), List.mem_of_getElem? (i := 1162) (by decide +kernel), List.mem_of_getElem? (i := 1163) (by decide +kernel)⟩
theorem lw_p38 : lw_okq (⟨"BothSidesSheetModel", "whole", "()V"⟩, 69) := ⟨⟨by decide +kernel, by decide +kernel⟩, List.mem_of_getElem? (i := 871) (by decide +kernel), List.mem_of_getElem? (i := 1166) (by decide +kernel), List.mem_of_getElem? (i := 1167) (by decide +kernel)⟩
theorem lw_p39 : lw_okq (⟨"BothSidesSheetModel", "settle", "(I)V"⟩, 69) := ⟨⟨by decide +kernel, by decide +kernel⟩, List.mem_of_getElem? (i := 871) (by decide +kernel), List.mem_of_getElem? (i := 1170) (by decide +kernel), List.mem_of_getElem? (i := 1171) (by decide +kernel)⟩
theorem lw_p40 : lw_okq (⟨"BothSidesSheetModel", "isJob", "(I)Z"⟩, 69) := ⟨⟨by decide +kernel, by decide +kernel⟩, List.mem_of_getElem? (i := 871) (by decide +kernel), List.mem_of_getElem? (i := 1178) (by decide +kernel), List.mem_of_getElem? (i := 1179) (by decide +kernel)⟩
theorem lw_p41 : lw_okq (⟨"BothSidesSheetModel", "first", "(I)I"⟩, 69) := ⟨⟨by decide +kernel, by decide +kernel⟩, List.mem_of_getElem? (i := 871) (by decide +kernel), List.mem_of_getElem? (i := 1182) (by decide +kernel), List.mem_of_getElem? (i := 1183) (by decide +kernel)⟩
theorem lw_p42 : lw_okq (⟨"BothSidesSheetModel", "lastOf", "(III)I"⟩, 69) := ⟨⟨by decide +kernel, by decide +kernel⟩, List.mem_of_getElem? (i := 871) (by decide +kernel), List.mem_of_getElem? (i := 1186) (by decide +kernel), List.mem_of_getElem? (i := 1187) (by decide +kernel)⟩
theorem lw_p43 : lw_okq (⟨"BothSidesSheetModel", "last", "(I)I"⟩, 69) := ⟨⟨by decide +kernel, by decide +kernel⟩, List.mem_of_getElem? (i := 871) (by decide +kernel), List.mem_of_getElem? (i := 1190) (by decide +kernel), List.mem_of_getElem? (i := 1191) (by decide +kernel)⟩
theorem lw_p44 : lw_okq (⟨"BothSidesSheetModel", "loads", "(I)V"⟩, 69) := ⟨⟨by decide +kernel, by decide +kernel⟩, List.mem_of_getElem? (i := 871) (by decide +kernel), List.mem_of_getElem? (i := 1198) (by decide +kernel), List.mem_of_getElem? (i := 1199) (by decide +kernel)⟩
theorem lw_p45 : lw_okq (⟨"BothSidesSheetModel", "goWay", "(I)V"⟩, 69) := ⟨⟨by decide +kernel, by decide +kernel⟩, List.mem_of_getElem? (i := 871) (by decide +kernel), List.mem_of_getElem? (i := 1210) (by decide +kernel), List.mem_of_getElem? (i := 1211) (by decide +kernel)⟩
theorem lw_p46 : lw_okq (⟨"BothSidesSheetModel", "turnsOver", "()V"⟩, 69) := ⟨⟨by decide +kernel, by decide +kernel⟩, List.mem_of_getElem? (i := 871) (by decide +kernel), List.mem_of_getElem? (i := 1214) (by decide +kernel), List.mem_of_getElem? (i := 1215) (by decide +kernel)⟩
theorem lw_p47 : lw_okq (⟨"BothSidesSheetModel", "over", "(I)V"⟩, 69) := ⟨⟨by decide +kernel, by decide +kernel⟩, List.mem_of_getElem? (i := 871) (by decide +kernel), List.mem_of_getElem? (i := 1218) (by decide +kernel), List.mem_of_getElem? (i := 1219) (by decide +kernel)⟩
def lw_privs_3 : List (MethodName × Nat) := [(⟨"BothSidesSheetModel", "takesE", "(I)Z"⟩, 69), (⟨"BothSidesSheetModel", "takesTest", "()Z"⟩, 69), (⟨"BothSidesSheetModel", "place", "(I)I"⟩, 69), (⟨"BothSidesSheetModel", "takesNumber", "()Z"⟩, 69), (⟨"BothSidesSheetModel", "isDigit", "()Z"⟩, 69), (⟨"BothSidesSheetModel", "emits", "(I)V"⟩, 69), (⟨"BothSidesSheetModel", "whole", "()V"⟩, 69), (⟨"BothSidesSheetModel", "settle", "(I)V"⟩, 69), (⟨"BothSidesSheetModel", "isJob", "(I)Z"⟩, 69), (⟨"BothSidesSheetModel", "first", "(I)I"⟩, 69), (⟨"BothSidesSheetModel", "lastOf", "(III)I"⟩, 69), (⟨"BothSidesSheetModel", "last", "(I)I"⟩, 69), (⟨"BothSidesSheetModel", "loads", "(I)V"⟩, 69), (⟨"BothSidesSheetModel", "goWay", "(I)V"⟩, 69), (⟨"BothSidesSheetModel", "turnsOver", "()V"⟩, 69), (⟨"BothSidesSheetModel", "over", "(I)V"⟩, 69)]
theorem lw_r3 : ∀ q ∈ lw_privs_3, lw_okq q := List.forall_mem_cons.mpr ⟨lw_p32, List.forall_mem_cons.mpr ⟨lw_p33, List.forall_mem_cons.mpr ⟨lw_p34, List.forall_mem_cons.mpr ⟨lw_p35, List.forall_mem_cons.mpr ⟨lw_p36, List.forall_mem_cons.mpr ⟨lw_p37, List.forall_mem_cons.mpr ⟨lw_p38, List.forall_mem_cons.mpr ⟨lw_p39, List.forall_mem_cons.mpr ⟨lw_p40, List.forall_mem_cons.mpr ⟨lw_p41, List.forall_mem_cons.mpr ⟨lw_p42, List.forall_mem_cons.mpr ⟨lw_p43, List.forall_mem_cons.mpr ⟨lw_p44, List.forall_mem_cons.mpr ⟨lw_p45, List.forall_mem_cons.mpr ⟨lw_p46, List.forall_mem_cons.mpr ⟨lw_p47, fun _ h => absurd h List.not_mem_nil⟩⟩⟩⟩⟩⟩⟩⟩⟩⟩⟩⟩⟩⟩⟩⟩
theorem lw_p48 : lw_okq (⟨"BothSidesSheetModel", "about", "(I)V"⟩, 69) := ⟨⟨by decide +kernel, by decide +kernel⟩, List.mem_of_getElem? (i := 871) (by decide +kernel), List.mem_of_getElem? (i := 1222) (by decide +kernel), List.mem_of_getElem? (i := 1223) (by decide +kernel)⟩
theorem lw_p49 : lw_okq (⟨"BothSidesSheetModel", "right", "()I"⟩, 69) := ⟨⟨by decide +kernel, by decide +kernel⟩, List.mem_of_getElem? (i := 871) (by decide +kernel), List.mem_of_getElem? (i := 1226) (by decide +kernel), List.mem_of_getElem? (i := 1227) (by decide +kernel)⟩
theorem lw_p50 : lw_okq (⟨"BothSidesSheetModel", "isRight", "(I)Z"⟩, 69) := ⟨⟨by decide +kernel, by decide +kernel⟩, List.mem_of_getElem? (i := 871) (by decide +kernel), List.mem_of_getElem? (i := 1230) (by decide +kernel), List.mem_of_getElem? (i := 1231) (by decide +kernel)⟩
theorem lw_p51 : lw_okq (⟨"BothSidesSheetModel", "sidesWith", "(I)I"⟩, 69) := ⟨⟨by decide +kernel, by decide +kernel⟩, List.mem_of_getElem? (i := 871) (by decide +kernel), List.mem_of_getElem? (i := 1242) (by decide +kernel), List.mem_of_getElem? (i := 1243) (by decide +kernel)⟩
theorem lw_p52 : lw_okq (⟨"BothSidesSheetModel", "missing", "()I"⟩, 69) := ⟨⟨by decide +kernel, by decide +kernel⟩, List.mem_of_getElem? (i := 871) (by decide +kernel), List.mem_of_getElem? (i := 1246) (by decide +kernel), List.mem_of_getElem? (i := 1247) (by decide +kernel)⟩
theorem lw_p53 : lw_okq (⟨"BothSidesSheetModel", "goRun", "(II)V"⟩, 69) := ⟨⟨by decide +kernel, by decide +kernel⟩, List.mem_of_getElem? (i := 871) (by decide +kernel), List.mem_of_getElem? (i := 1254) (by decide +kernel), List.mem_of_getElem? (i := 1255) (by decide +kernel)⟩
theorem lw_p54 : lw_okq (⟨"BothSidesSheetModel", "goesOn", "(III)I"⟩, 69) := ⟨⟨by decide +kernel, by decide +kernel⟩, List.mem_of_getElem? (i := 871) (by decide +kernel), List.mem_of_getElem? (i := 1258) (by decide +kernel), List.mem_of_getElem? (i := 1259) (by decide +kernel)⟩
theorem lw_p55 : lw_okq (⟨"BothSidesSheetModel", "anyHolds", "(IIIII)Z"⟩, 69) := ⟨⟨by decide +kernel, by decide +kernel⟩, List.mem_of_getElem? (i := 871) (by decide +kernel), List.mem_of_getElem? (i := 1262) (by decide +kernel), List.mem_of_getElem? (i := 1263) (by decide +kernel)⟩
theorem lw_p56 : lw_okq (⟨"BothSidesSheetModel", "holds", "(IIII)Z"⟩, 69) := ⟨⟨by decide +kernel, by decide +kernel⟩, List.mem_of_getElem? (i := 871) (by decide +kernel), List.mem_of_getElem? (i := 1266) (by decide +kernel), List.mem_of_getElem? (i := 1267) (by decide +kernel)⟩
theorem lw_p57 : lw_okq (⟨"BothSidesSheetModel", "factOf", "(IIII)I"⟩, 69) := ⟨⟨by decide +kernel, by decide +kernel⟩, List.mem_of_getElem? (i := 871) (by decide +kernel), List.mem_of_getElem? (i := 1270) (by decide +kernel), List.mem_of_getElem? (i := 1271) (by decide +kernel)⟩
theorem lw_p58 : lw_okq (⟨"BothSidesSheetModel", "told1", "(II)I"⟩, 69) := ⟨⟨by decide +kernel, by decide +kernel⟩, List.mem_of_getElem? (i := 871) (by decide +kernel), List.mem_of_getElem? (i := 1274) (by decide +kernel), List.mem_of_getElem? (i := 1275) (by decide +kernel)⟩
theorem lw_p59 : lw_okq (⟨"BothSidesSheetModel", "prints", "(IIZ)V"⟩, 69) := ⟨⟨by decide +kernel, by decide +kernel⟩, List.mem_of_getElem? (i := 871) (by decide +kernel), List.mem_of_getElem? (i := 1278) (by decide +kernel), List.mem_of_getElem? (i := 1279) (by decide +kernel)⟩
theorem lw_p60 : lw_okq (⟨"BothSidesSheetModel", "putsOut", "(II)V"⟩, 69) := ⟨⟨by decide +kernel, by decide +kernel⟩, List.mem_of_getElem? (i := 871) (by decide +kernel), List.mem_of_getElem? (i := 1282) (by decide +kernel), List.mem_of_getElem? (i := 1283) (by decide +kernel)⟩
theorem lw_p61 : lw_okq (⟨"BothSidesSheetModel", "save", "()V"⟩, 69) := ⟨⟨by decide +kernel, by decide +kernel⟩, List.mem_of_getElem? (i := 871) (by decide +kernel), List.mem_of_getElem? (i := 1290) (by decide +kernel), List.mem_of_getElem? (i := 1291) (by decide +kernel)⟩
theorem lw_p62 : lw_okq (⟨"BothSidesSheetModel", "putBack", "()V"⟩, 69) := ⟨⟨by decide +kernel, by decide +kernel⟩, List.mem_of_getElem? (i := 871) (by decide +kernel), List.mem_of_getElem? (i := 1294) (by decide +kernel), List.mem_of_getElem? (i := 1295) (by decide +kernel)⟩
theorem lw_p63 : lw_okq (⟨"BothSidesSheetModel", "rightAfter", "(II)I"⟩, 69) := ⟨⟨by decide +kernel, by decide +kernel⟩, List.mem_of_getElem? (i := 871) (by decide +kernel), List.mem_of_getElem? (i := 1302) (by decide +kernel), List.mem_of_getElem? (i := 1303) (by decide +kernel)⟩
def lw_privs_4 : List (MethodName × Nat) := [(⟨"BothSidesSheetModel", "about", "(I)V"⟩, 69), (⟨"BothSidesSheetModel", "right", "()I"⟩, 69), (⟨"BothSidesSheetModel", "isRight", "(I)Z"⟩, 69), (⟨"BothSidesSheetModel", "sidesWith", "(I)I"⟩, 69), (⟨"BothSidesSheetModel", "missing", "()I"⟩, 69), (⟨"BothSidesSheetModel", "goRun", "(II)V"⟩, 69), (⟨"BothSidesSheetModel", "goesOn", "(III)I"⟩, 69), (⟨"BothSidesSheetModel", "anyHolds", "(IIIII)Z"⟩, 69), (⟨"BothSidesSheetModel", "holds", "(IIII)Z"⟩, 69), (⟨"BothSidesSheetModel", "factOf", "(IIII)I"⟩, 69), (⟨"BothSidesSheetModel", "told1", "(II)I"⟩, 69), (⟨"BothSidesSheetModel", "prints", "(IIZ)V"⟩, 69), (⟨"BothSidesSheetModel", "putsOut", "(II)V"⟩, 69), (⟨"BothSidesSheetModel", "save", "()V"⟩, 69), (⟨"BothSidesSheetModel", "putBack", "()V"⟩, 69), (⟨"BothSidesSheetModel", "rightAfter", "(II)I"⟩, 69)]
theorem lw_r4 : ∀ q ∈ lw_privs_4, lw_okq q := List.forall_mem_cons.mpr ⟨lw_p48, List.forall_mem_cons.mpr ⟨lw_p49, List.forall_mem_cons.mpr ⟨lw_p50, List.forall_mem_cons.mpr ⟨lw_p51, List.forall_mem_cons.mpr ⟨lw_p52, List.forall_mem_cons.mpr ⟨lw_p53, List.forall_mem_cons.mpr ⟨lw_p54, List.forall_mem_cons.mpr ⟨lw_p55, List.forall_mem_cons.mpr ⟨lw_p56, List.forall_mem_cons.mpr ⟨lw_p57, List.forall_mem_cons.mpr ⟨lw_p58, List.forall_mem_cons.mpr ⟨lw_p59, List.forall_mem_cons.mpr ⟨lw_p60, List.forall_mem_cons.mpr ⟨lw_p61, List.forall_mem_cons.mpr ⟨lw_p62, List.forall_mem_cons.mpr ⟨lw_p63, fun _ h => absurd h List.not_mem_nil⟩⟩⟩⟩⟩⟩⟩⟩⟩⟩⟩⟩⟩⟩⟩⟩
theorem lw_p64 : lw_okq (⟨"BothSidesSheetModel", "rightTwice", "(IIIII)I"⟩, 69) := ⟨⟨by decide +kernel, by decide +kernel⟩, List.mem_of_getElem? (i := 871) (by decide +kernel), List.mem_of_getElem? (i := 1315) (by decide +kernel), List.mem_of_getElem? (i := 1316) (by decide +kernel)⟩
theorem lw_p65 : lw_okq (⟨"BothSidesSheetModel", "isOn", "(III)Z"⟩, 69) := ⟨⟨by decide +kernel, by decide +kernel⟩, List.mem_of_getElem? (i := 871) (by decide +kernel), List.mem_of_getElem? (i := 1331) (by decide +kernel), List.mem_of_getElem? (i := 1332) (by decide +kernel)⟩
theorem lw_p66 : lw_okq (⟨"BothSidesSheetModel", "isSeenAfter", "(II)Z"⟩, 69) := ⟨⟨by decide +kernel, by decide +kernel⟩, List.mem_of_getElem? (i := 871) (by decide +kernel), List.mem_of_getElem? (i := 1339) (by decide +kernel), List.mem_of_getElem? (i := 1340) (by decide +kernel)⟩
theorem lw_p67 : lw_okq (⟨"BothSidesSheetModel", "on", "(I)I"⟩, 69) := ⟨⟨by decide +kernel, by decide +kernel⟩, List.mem_of_getElem? (i := 871) (by decide +kernel), List.mem_of_getElem? (i := 1343) (by decide +kernel), List.mem_of_getElem? (i := 1344) (by decide +kernel)⟩
theorem lw_p68 : lw_okq (⟨"BothSidesSheetModel", "lowest", "(III)J"⟩, 69) := ⟨⟨by decide +kernel, by decide +kernel⟩, List.mem_of_getElem? (i := 871) (by decide +kernel), List.mem_of_getElem? (i := 1356) (by decide +kernel), List.mem_of_getElem? (i := 1357) (by decide +kernel)⟩
theorem lw_p69 : lw_okq (⟨"BothSidesSheetModel", "divisor", "(II)I"⟩, 69) := ⟨⟨by decide +kernel, by decide +kernel⟩, List.mem_of_getElem? (i := 871) (by decide +kernel), List.mem_of_getElem? (i := 1360) (by decide +kernel), List.mem_of_getElem? (i := 1361) (by decide +kernel)⟩
theorem lw_p70 : lw_okq (⟨"BothSidesSheetModel", "goPlan", "(I)V"⟩, 69) := ⟨⟨by decide +kernel, by decide +kernel⟩, List.mem_of_getElem? (i := 871) (by decide +kernel), List.mem_of_getElem? (i := 1376) (by decide +kernel), List.mem_of_getElem? (i := 1377) (by decide +kernel)⟩
theorem lw_p71 : lw_okq (⟨"BothSidesSheetModel", "isTape", "(I)Z"⟩, 69) := ⟨⟨by decide +kernel, by decide +kernel⟩, List.mem_of_getElem? (i := 871) (by decide +kernel), List.mem_of_getElem? (i := 1392) (by decide +kernel), List.mem_of_getElem? (i := 1393) (by decide +kernel)⟩
theorem lw_p72 : lw_okq (⟨"BothSidesSheetModel", "feedsAct", "(II)I"⟩, 69) := ⟨⟨by decide +kernel, by decide +kernel⟩, List.mem_of_getElem? (i := 871) (by decide +kernel), List.mem_of_getElem? (i := 1408) (by decide +kernel), List.mem_of_getElem? (i := 1409) (by decide +kernel)⟩
theorem lw_p73 : lw_okq (⟨"BothSidesSheetModel", "body", "(I)V"⟩, 69) := ⟨⟨by decide +kernel, by decide +kernel⟩, List.mem_of_getElem? (i := 871) (by decide +kernel), List.mem_of_getElem? (i := 1412) (by decide +kernel), List.mem_of_getElem? (i := 1413) (by decide +kernel)⟩
theorem lw_p74 : lw_okq (⟨"BothSidesSheetModel", "trayFeeds", "(II)I"⟩, 69) := ⟨⟨by decide +kernel, by decide +kernel⟩, List.mem_of_getElem? (i := 871) (by decide +kernel), List.mem_of_getElem? (i := 1416) (by decide +kernel), List.mem_of_getElem? (i := 1417) (by decide +kernel)⟩
theorem lw_p75 : lw_okq (⟨"BothSidesSheetModel", "printsAct", "(II)I"⟩, 69) := ⟨⟨by decide +kernel, by decide +kernel⟩, List.mem_of_getElem? (i := 871) (by decide +kernel), List.mem_of_getElem? (i := 1420) (by decide +kernel), List.mem_of_getElem? (i := 1421) (by decide +kernel)⟩
theorem lw_p76 : lw_okq (⟨"BothSidesSheetModel", "flippingPrints", "(II)I"⟩, 69) := ⟨⟨by decide +kernel, by decide +kernel⟩, List.mem_of_getElem? (i := 871) (by decide +kernel), List.mem_of_getElem? (i := 1424) (by decide +kernel), List.mem_of_getElem? (i := 1425) (by decide +kernel)⟩
theorem lw_p77 : lw_okq (⟨"BothSidesSheetModel", "trayPrints", "(II)I"⟩, 69) := ⟨⟨by decide +kernel, by decide +kernel⟩, List.mem_of_getElem? (i := 871) (by decide +kernel), List.mem_of_getElem? (i := 1428) (by decide +kernel), List.mem_of_getElem? (i := 1429) (by decide +kernel)⟩
theorem lw_p78 : lw_okq (⟨"BothSidesSheetModel", "tellsAct", "(II)I"⟩, 69) := ⟨⟨by decide +kernel, by decide +kernel⟩, List.mem_of_getElem? (i := 871) (by decide +kernel), List.mem_of_getElem? (i := 1432) (by decide +kernel), List.mem_of_getElem? (i := 1433) (by decide +kernel)⟩
theorem lw_p79 : lw_okq (⟨"BothSidesSheetModel", "trayTells", "(II)I"⟩, 69) := ⟨⟨by decide +kernel, by decide +kernel⟩, List.mem_of_getElem? (i := 871) (by decide +kernel), List.mem_of_getElem? (i := 1436) (by decide +kernel), List.mem_of_getElem? (i := 1437) (by decide +kernel)⟩
def lw_privs_5 : List (MethodName × Nat) := [(⟨"BothSidesSheetModel", "rightTwice", "(IIIII)I"⟩, 69), (⟨"BothSidesSheetModel", "isOn", "(III)Z"⟩, 69), (⟨"BothSidesSheetModel", "isSeenAfter", "(II)Z"⟩, 69), (⟨"BothSidesSheetModel", "on", "(I)I"⟩, 69), (⟨"BothSidesSheetModel", "lowest", "(III)J"⟩, 69), (⟨"BothSidesSheetModel", "divisor", "(II)I"⟩, 69), (⟨"BothSidesSheetModel", "goPlan", "(I)V"⟩, 69), (⟨"BothSidesSheetModel", "isTape", "(I)Z"⟩, 69), (⟨"BothSidesSheetModel", "feedsAct", "(II)I"⟩, 69), (⟨"BothSidesSheetModel", "body", "(I)V"⟩, 69), (⟨"BothSidesSheetModel", "trayFeeds", "(II)I"⟩, 69), (⟨"BothSidesSheetModel", "printsAct", "(II)I"⟩, 69), (⟨"BothSidesSheetModel", "flippingPrints", "(II)I"⟩, 69), (⟨"BothSidesSheetModel", "trayPrints", "(II)I"⟩, 69), (⟨"BothSidesSheetModel", "tellsAct", "(II)I"⟩, 69), (⟨"BothSidesSheetModel", "trayTells", "(II)I"⟩, 69)]
theorem lw_r5 : ∀ q ∈ lw_privs_5, lw_okq q := List.forall_mem_cons.mpr ⟨lw_p64, List.forall_mem_cons.mpr ⟨lw_p65, List.forall_mem_cons.mpr ⟨lw_p66, List.forall_mem_cons.mpr ⟨lw_p67, List.forall_mem_cons.mpr ⟨lw_p68, List.forall_mem_cons.mpr ⟨lw_p69, List.forall_mem_cons.mpr ⟨lw_p70, List.forall_mem_cons.mpr ⟨lw_p71, List.forall_mem_cons.mpr ⟨lw_p72, List.forall_mem_cons.mpr ⟨lw_p73, List.forall_mem_cons.mpr ⟨lw_p74, List.forall_mem_cons.mpr ⟨lw_p75, List.forall_mem_cons.mpr ⟨lw_p76, List.forall_mem_cons.mpr ⟨lw_p77, List.forall_mem_cons.mpr ⟨lw_p78, List.forall_mem_cons.mpr ⟨lw_p79, fun _ h => absurd h List.not_mem_nil⟩⟩⟩⟩⟩⟩⟩⟩⟩⟩⟩⟩⟩⟩⟩⟩
theorem lw_p80 : lw_okq (⟨"BothSidesSheetModel", "narrow", "(IJ)J"⟩, 69) := ⟨⟨by decide +kernel, by decide +kernel⟩, List.mem_of_getElem? (i := 871) (by decide +kernel), List.mem_of_getElem? (i := 1460) (by decide +kernel), List.mem_of_getElem? (i := 1461) (by decide +kernel)⟩
def lw_privs_6 : List (MethodName × Nat) := [(⟨"BothSidesSheetModel", "narrow", "(IJ)J"⟩, 69)]
theorem lw_r6 : ∀ q ∈ lw_privs_6, lw_okq q := List.forall_mem_cons.mpr ⟨lw_p80, fun _ h => absurd h List.not_mem_nil⟩
def lw_privs : List (MethodName × Nat) := lw_privs_1 ++ (lw_privs_2 ++ (lw_privs_3 ++ (lw_privs_4 ++ (lw_privs_5 ++ (lw_privs_6)))))
def lw_tbl : List Cond := k2_sels lw_privs ++ tables_1
theorem lw_privs_ok : ∀ q ∈ lw_privs, lw_okq q := by
  show ∀ q ∈ lw_privs_1 ++ (lw_privs_2 ++ (lw_privs_3 ++ (lw_privs_4 ++ (lw_privs_5 ++ (lw_privs_6))))), lw_okq q
  exact List.forall_mem_append.mpr ⟨lw_r1, List.forall_mem_append.mpr ⟨lw_r2, List.forall_mem_append.mpr ⟨lw_r3, List.forall_mem_append.mpr ⟨lw_r4, List.forall_mem_append.mpr ⟨lw_r5, lw_r6⟩⟩⟩⟩⟩
def RX0 : String := "BothSidesSheet$Acts"
def TX0 : u_T := fun k => match k with
  | 0 => ("BothSidesSheet$Acts", "numbers", "[I", true)
  | 1 => ("BothSidesSheet$Acts", "ran", "I", false)
  | 2 => ("BothSidesSheet$Acts", "i", "I", false)
  | 3 => ("BothSidesSheet$Acts", "kind", "I", false)
  | _ => ("BothSidesSheet$Acts", "v", "I", false)
def tyX0 : Nat → FieldType := fun k => match k with
  | 0 => .array .int
  | 1 => .int
  | 2 => .int
  | 3 => .int
  | _ => .int
theorem nmX0 : ∀ a, a < 5 → ∀ b, b < 5 → a ≠ b → (TX0 a).2.1 ≠ (TX0 b).2.1 := by decide +kernel
theorem tyX0_ok : ∀ k, k < 5 → parseFieldDescriptor (TX0 k).2.2.1 = some (tyX0 k) := by decide +kernel
abbrev cX0_init : ByteArray := prog_2_method_1_code
def yX0_init : MethodName := ⟨RX0, "<init>", "()V"⟩
abbrev cX0_clear : ByteArray := prog_2_method_2_code
def yX0_clear : MethodName := ⟨RX0, "clear", "()V"⟩
abbrev cX0_doAct : ByteArray := prog_2_method_3_code
def yX0_doAct : MethodName := ⟨RX0, "doAct", "(ILBothSidesSheet$Tray;II)I"⟩
abbrev cX0_numberAt : ByteArray := prog_2_method_4_code
def yX0_numberAt : MethodName := ⟨RX0, "numberAt", "(I)I"⟩
abbrev cX0_begins : ByteArray := prog_2_method_5_code
def yX0_begins : MethodName := ⟨RX0, "begins", "(II)Z"⟩
abbrev cX0_feeds : ByteArray := prog_2_method_6_code
def yX0_feeds : MethodName := ⟨RX0, "feeds", "(III)I"⟩
abbrev cX0_prints : ByteArray := prog_2_method_7_code
def yX0_prints : MethodName := ⟨RX0, "prints", "(III)I"⟩
abbrev cX0_tells : ByteArray := prog_2_method_8_code
def yX0_tells : MethodName := ⟨RX0, "tells", "(III)I"⟩
def RX1 : String := "BothSidesSheet$Copier"
def TX1 : u_T := fun k => match k with
  | 0 => ("BothSidesSheet$Copier", "out", "[I", true)
  | 1 => ("BothSidesSheet$Copier", "took", "I", false)
  | _ => ("BothSidesSheet$Copier", "printed", "I", false)
def tyX1 : Nat → FieldType := fun k => match k with
  | 0 => .array .int
  | 1 => .int
  | _ => .int
theorem nmX1 : ∀ a, a < 3 → ∀ b, b < 3 → a ≠ b → (TX1 a).2.1 ≠ (TX1 b).2.1 := by decide +kernel
theorem tyX1_ok : ∀ k, k < 3 → parseFieldDescriptor (TX1 k).2.2.1 = some (tyX1 k) := by decide +kernel
abbrev cX1_init : ByteArray := prog_3_method_1_code
def yX1_init : MethodName := ⟨RX1, "<init>", "()V"⟩
abbrev cX1_copy : ByteArray := prog_3_method_2_code
def yX1_copy : MethodName := ⟨RX1, "copy", "(LBothSidesSheet$Pile;LBothSidesSheet$Tray;ILBothSidesSheet$Job;)V"⟩
abbrev cX1_isDry : ByteArray := prog_3_method_3_code
def yX1_isDry : MethodName := ⟨RX1, "isDry", "(III)Z"⟩
abbrev cX1_withPage : ByteArray := prog_3_method_4_code
def yX1_withPage : MethodName := ⟨RX1, "withPage", "(IIZ)I"⟩
abbrev cX1_laidOut : ByteArray := prog_3_method_5_code
def yX1_laidOut : MethodName := ⟨RX1, "laidOut", "(II)I"⟩
abbrev cX1_gather : ByteArray := prog_3_method_6_code
def yX1_gather : MethodName := ⟨RX1, "gather", "(LBothSidesSheet$Pile;I)V"⟩
def RX2 : String := "BothSidesSheet$Job"
def TX2 : u_T := fun k => match k with
  | 0 => ("BothSidesSheet$Job", "from", "I", true)
  | 1 => ("BothSidesSheet$Job", "till", "I", true)
  | 2 => ("BothSidesSheet$Job", "skipped", "[I", true)
  | _ => ("BothSidesSheet$Job", "turned", "[I", true)
def tyX2 : Nat → FieldType := fun k => match k with
  | 0 => .int
  | 1 => .int
  | 2 => .array .int
  | _ => .array .int
theorem nmX2 : ∀ a, a < 4 → ∀ b, b < 4 → a ≠ b → (TX2 a).2.1 ≠ (TX2 b).2.1 := by decide +kernel
theorem tyX2_ok : ∀ k, k < 4 → parseFieldDescriptor (TX2 k).2.2.1 = some (tyX2 k) := by decide +kernel
abbrev cX2_init : ByteArray := prog_4_method_1_code
def yX2_init : MethodName := ⟨RX2, "<init>", "(II[I[I)V"⟩
abbrev cX2_pageFrom : ByteArray := prog_4_method_2_code
def yX2_pageFrom : MethodName := ⟨RX2, "pageFrom", "(IIII)I"⟩
abbrev cX2_holds : ByteArray := prog_4_method_3_code
def yX2_holds : MethodName := ⟨RX2, "holds", "([IIIII)Z"⟩
abbrev cX2_value : ByteArray := prog_4_method_4_code
def yX2_value : MethodName := ⟨RX2, "value", "(IIIII)I"⟩
abbrev cX2_isSo : ByteArray := prog_4_method_5_code
def yX2_isSo : MethodName := ⟨RX2, "isSo", "(II)Z"⟩
def RX3 : String := "BothSidesSheet$Notes"
def TX3 : u_T := fun k => match k with
  | 0 => ("BothSidesSheet$Notes", "first", "[I", true)
  | 1 => ("BothSidesSheet$Notes", "second", "[I", true)
  | 2 => ("BothSidesSheet$Notes", "third", "[I", true)
  | _ => ("BothSidesSheet$Notes", "size", "I", false)
def tyX3 : Nat → FieldType := fun k => match k with
  | 0 => .array .int
  | 1 => .array .int
  | 2 => .array .int
  | _ => .int
theorem nmX3 : ∀ a, a < 4 → ∀ b, b < 4 → a ≠ b → (TX3 a).2.1 ≠ (TX3 b).2.1 := by decide +kernel
theorem tyX3_ok : ∀ k, k < 4 → parseFieldDescriptor (TX3 k).2.2.1 = some (tyX3 k) := by decide +kernel
abbrev cX3_init : ByteArray := prog_5_method_1_code
def yX3_init : MethodName := ⟨RX3, "<init>", "(I)V"⟩
abbrev cX3_isFull : ByteArray := prog_5_method_2_code
def yX3_isFull : MethodName := ⟨RX3, "isFull", "()Z"⟩
abbrev cX3_add : ByteArray := prog_5_method_3_code
def yX3_add : MethodName := ⟨RX3, "add", "(III)I"⟩
abbrev cX3_copyFrom : ByteArray := prog_5_method_4_code
def yX3_copyFrom : MethodName := ⟨RX3, "copyFrom", "(LBothSidesSheet$Notes;)V"⟩
def RX4 : String := "BothSidesSheet$Pile"
def TX4 : u_T := fun k => match k with
  | 0 => ("BothSidesSheet$Pile", "sheets", "[I", true)
  | _ => ("BothSidesSheet$Pile", "size", "I", false)
def tyX4 : Nat → FieldType := fun k => match k with
  | 0 => .array .int
  | _ => .int
theorem nmX4 : ∀ a, a < 2 → ∀ b, b < 2 → a ≠ b → (TX4 a).2.1 ≠ (TX4 b).2.1 := by decide +kernel
theorem tyX4_ok : ∀ k, k < 2 → parseFieldDescriptor (TX4 k).2.2.1 = some (tyX4 k) := by decide +kernel
abbrev cX4_init : ByteArray := prog_6_method_1_code
def yX4_init : MethodName := ⟨RX4, "<init>", "()V"⟩
abbrev cX4_copyFrom : ByteArray := prog_6_method_2_code
def yX4_copyFrom : MethodName := ⟨RX4, "copyFrom", "(LBothSidesSheet$Pile;)V"⟩
abbrev cX4_over : ByteArray := prog_6_method_3_code
def yX4_over : MethodName := ⟨RX4, "over", "(I)I"⟩
abbrev cX4_about : ByteArray := prog_6_method_4_code
def yX4_about : MethodName := ⟨RX4, "about", "(I)I"⟩
abbrev cX4_sideOf : ByteArray := prog_6_method_5_code
def yX4_sideOf : MethodName := ⟨RX4, "sideOf", "(II)I"⟩
abbrev cX4_pageOn : ByteArray := prog_6_method_6_code
def yX4_pageOn : MethodName := ⟨RX4, "pageOn", "(II)I"⟩
abbrev cX4_isDown : ByteArray := prog_6_method_7_code
def yX4_isDown : MethodName := ⟨RX4, "isDown", "(II)Z"⟩
abbrev cX4_isRight : ByteArray := prog_6_method_8_code
def yX4_isRight : MethodName := ⟨RX4, "isRight", "(I)Z"⟩
abbrev cX4_rights : ByteArray := prog_6_method_9_code
def yX4_rights : MethodName := ⟨RX4, "rights", "()I"⟩
abbrev cX4_sidesWith : ByteArray := prog_6_method_10_code
def yX4_sidesWith : MethodName := ⟨RX4, "sidesWith", "(I)I"⟩
abbrev cX4_missing : ByteArray := prog_6_method_11_code
def yX4_missing : MethodName := ⟨RX4, "missing", "()I"⟩
abbrev cX4_whereIs : ByteArray := prog_6_method_12_code
def yX4_whereIs : MethodName := ⟨RX4, "whereIs", "(I)I"⟩
abbrev cX4_putBlank : ByteArray := prog_6_method_13_code
def yX4_putBlank : MethodName := ⟨RX4, "putBlank", "(I)V"⟩
abbrev cX4_doWay : ByteArray := prog_6_method_14_code
def yX4_doWay : MethodName := ⟨RX4, "doWay", "(I)V"⟩
abbrev cX4_turnWhole : ByteArray := prog_6_method_15_code
def yX4_turnWhole : MethodName := ⟨RX4, "turnWhole", "()V"⟩
abbrev cX4_firstOtherwise : ByteArray := prog_6_method_16_code
def yX4_firstOtherwise : MethodName := ⟨RX4, "firstOtherwise", "(LBothSidesSheet$Notes;)I"⟩
def RX5 : String := "BothSidesSheet$Reader"
def TX5 : u_T := fun k => match k with
  | 0 => ("BothSidesSheet$Reader", "text", "[I", true)
  | 1 => ("BothSidesSheet$Reader", "size", "I", false)
  | 2 => ("BothSidesSheet$Reader", "at", "I", false)
  | 3 => ("BothSidesSheet$Reader", "from", "I", false)
  | 4 => ("BothSidesSheet$Reader", "till", "I", false)
  | 5 => ("BothSidesSheet$Reader", "skips", "LBothSidesSheet$Steps;", true)
  | 6 => ("BothSidesSheet$Reader", "turns", "LBothSidesSheet$Steps;", true)
  | _ => ("BothSidesSheet$Reader", "into", "LBothSidesSheet$Steps;", false)
def tyX5 : Nat → FieldType := fun k => match k with
  | 0 => .array .int
  | 1 => .int
  | 2 => .int
  | 3 => .int
  | 4 => .int
  | 5 => .object "BothSidesSheet$Steps"
  | 6 => .object "BothSidesSheet$Steps"
  | _ => .object "BothSidesSheet$Steps"
theorem nmX5 : ∀ a, a < 8 → ∀ b, b < 8 → a ≠ b → (TX5 a).2.1 ≠ (TX5 b).2.1 := by decide +kernel
theorem tyX5_ok : ∀ k, k < 8 → parseFieldDescriptor (TX5 k).2.2.1 = some (tyX5 k) := by decide +kernel
abbrev cX5_init : ByteArray := prog_7_method_1_code
def yX5_init : MethodName := ⟨RX5, "<init>", "()V"⟩
abbrev cX5_fault : ByteArray := prog_7_method_2_code
def yX5_fault : MethodName := ⟨RX5, "fault", "()I"⟩
abbrev cX5_made : ByteArray := prog_7_method_3_code
def yX5_made : MethodName := ⟨RX5, "made", "()LBothSidesSheet$Job;"⟩
abbrev cX5_clauses : ByteArray := prog_7_method_4_code
def yX5_clauses : MethodName := ⟨RX5, "clauses", "()Z"⟩
abbrev cX5_clause : ByteArray := prog_7_method_5_code
def yX5_clause : MethodName := ⟨RX5, "clause", "()Z"⟩
abbrev cX5_bound : ByteArray := prog_7_method_6_code
def yX5_bound : MethodName := ⟨RX5, "bound", "(I)Z"⟩
abbrev cX5_anyOf : ByteArray := prog_7_method_7_code
def yX5_anyOf : MethodName := ⟨RX5, "anyOf", "(I)Z"⟩
abbrev cX5_allOf : ByteArray := prog_7_method_8_code
def yX5_allOf : MethodName := ⟨RX5, "allOf", "(I)Z"⟩
abbrev cX5_one : ByteArray := prog_7_method_9_code
def yX5_one : MethodName := ⟨RX5, "one", "(I)Z"⟩
abbrev cX5_test : ByteArray := prog_7_method_10_code
def yX5_test : MethodName := ⟨RX5, "test", "(I)Z"⟩
abbrev cX5_word : ByteArray := prog_7_method_11_code
def yX5_word : MethodName := ⟨RX5, "word", "()I"⟩
abbrev cX5_number : ByteArray := prog_7_method_12_code
def yX5_number : MethodName := ⟨RX5, "number", "()I"⟩
abbrev cX5_sign : ByteArray := prog_7_method_13_code
def yX5_sign : MethodName := ⟨RX5, "sign", "()I"⟩
def RX6 : String := "BothSidesSheet$Room"
def TX6 : u_T := fun k => match k with
  | 0 => ("BothSidesSheet$Room", "stack", "LBothSidesSheet$Pile;", true)
  | 1 => ("BothSidesSheet$Room", "trays", "[LBothSidesSheet$Tray;", true)
  | 2 => ("BothSidesSheet$Room", "trayCount", "I", false)
  | 3 => ("BothSidesSheet$Room", "seen", "LBothSidesSheet$Notes;", true)
  | 4 => ("BothSidesSheet$Room", "planned", "LBothSidesSheet$Notes;", true)
  | _ => ("BothSidesSheet$Room", "booked", "LBothSidesSheet$Notes;", true)
def tyX6 : Nat → FieldType := fun k => match k with
  | 0 => .object "BothSidesSheet$Pile"
  | 1 => .array (.object "BothSidesSheet$Tray")
  | 2 => .int
  | 3 => .object "BothSidesSheet$Notes"
  | 4 => .object "BothSidesSheet$Notes"
  | _ => .object "BothSidesSheet$Notes"
theorem nmX6 : ∀ a, a < 6 → ∀ b, b < 6 → a ≠ b → (TX6 a).2.1 ≠ (TX6 b).2.1 := by decide +kernel
theorem tyX6_ok : ∀ k, k < 6 → parseFieldDescriptor (TX6 k).2.2.1 = some (tyX6 k) := by decide +kernel
abbrev cX6_init : ByteArray := prog_8_method_1_code
def yX6_init : MethodName := ⟨RX6, "<init>", "()V"⟩
abbrev cX6_copyFrom : ByteArray := prog_8_method_2_code
def yX6_copyFrom : MethodName := ⟨RX6, "copyFrom", "(LBothSidesSheet$Room;)V"⟩
def RX7 : String := "BothSidesSheet$Steps"
def TX7 : u_T := fun k => match k with
  | 0 => ("BothSidesSheet$Steps", "steps", "[I", true)
  | _ => ("BothSidesSheet$Steps", "size", "I", false)
def tyX7 : Nat → FieldType := fun k => match k with
  | 0 => .array .int
  | _ => .int
theorem nmX7 : ∀ a, a < 2 → ∀ b, b < 2 → a ≠ b → (TX7 a).2.1 ≠ (TX7 b).2.1 := by decide +kernel
theorem tyX7_ok : ∀ k, k < 2 → parseFieldDescriptor (TX7 k).2.2.1 = some (tyX7 k) := by decide +kernel
abbrev cX7_init : ByteArray := prog_9_method_1_code
def yX7_init : MethodName := ⟨RX7, "<init>", "()V"⟩
abbrev cX7_add : ByteArray := prog_9_method_2_code
def yX7_add : MethodName := ⟨RX7, "add", "(I)V"⟩
def RX8 : String := "BothSidesSheet$Tape"
def TX8 : u_T := fun k => match k with
  | 0 => ("BothSidesSheet$Tape", "sort", "I", false)
  | 1 => ("BothSidesSheet$Tape", "length", "I", false)
  | _ => ("BothSidesSheet$Tape", "items", "[J", true)
def tyX8 : Nat → FieldType := fun k => match k with
  | 0 => .int
  | 1 => .int
  | _ => .array .long
theorem nmX8 : ∀ a, a < 3 → ∀ b, b < 3 → a ≠ b → (TX8 a).2.1 ≠ (TX8 b).2.1 := by decide +kernel
theorem tyX8_ok : ∀ k, k < 3 → parseFieldDescriptor (TX8 k).2.2.1 = some (tyX8 k) := by decide +kernel
abbrev cX8_init : ByteArray := prog_10_method_1_code
def yX8_init : MethodName := ⟨RX8, "<init>", "()V"⟩
abbrev cX8_isRow : ByteArray := prog_10_method_2_code
def yX8_isRow : MethodName := ⟨RX8, "isRow", "()Z"⟩
abbrev cX8_has : ByteArray := prog_10_method_3_code
def yX8_has : MethodName := ⟨RX8, "has", "(I)Z"⟩
abbrev cX8_begin : ByteArray := prog_10_method_4_code
def yX8_begin : MethodName := ⟨RX8, "begin", "(II)V"⟩
abbrev cX8_asItem : ByteArray := prog_10_method_5_code
def yX8_asItem : MethodName := ⟨RX8, "asItem", "(J)J"⟩
def RX9 : String := "BothSidesSheet$Tray"
def TX9 : u_T := fun k => match k with
  | 0 => ("BothSidesSheet$Tray", "kind", "I", false)
  | 1 => ("BothSidesSheet$Tray", "v", "I", false)
  | 2 => ("BothSidesSheet$Tray", "ran", "I", false)
  | _ => ("BothSidesSheet$Tray", "parts", "[I", true)
def tyX9 : Nat → FieldType := fun k => match k with
  | 0 => .int
  | 1 => .int
  | 2 => .int
  | _ => .array .int
theorem nmX9 : ∀ a, a < 4 → ∀ b, b < 4 → a ≠ b → (TX9 a).2.1 ≠ (TX9 b).2.1 := by decide +kernel
theorem tyX9_ok : ∀ k, k < 4 → parseFieldDescriptor (TX9 k).2.2.1 = some (tyX9 k) := by decide +kernel
abbrev cX9_init : ByteArray := prog_11_method_1_code
def yX9_init : MethodName := ⟨RX9, "<init>", "()V"⟩
abbrev cX9_begin : ByteArray := prog_11_method_2_code
def yX9_begin : MethodName := ⟨RX9, "begin", "(II)V"⟩
abbrev cX9_copyFrom : ByteArray := prog_11_method_3_code
def yX9_copyFrom : MethodName := ⟨RX9, "copyFrom", "(LBothSidesSheet$Tray;)V"⟩
def RX10 : String := "BothSidesSheet"
def TX10 : u_T := fun k => match k with
  | 0 => ("BothSidesSheet", "now", "LBothSidesSheet$Room;", true)
  | 1 => ("BothSidesSheet", "kept", "LBothSidesSheet$Room;", true)
  | 2 => ("BothSidesSheet", "hasImage", "Z", false)
  | 3 => ("BothSidesSheet", "reader", "LBothSidesSheet$Reader;", true)
  | 4 => ("BothSidesSheet", "readJobs", "[LBothSidesSheet$Job;", true)
  | 5 => ("BothSidesSheet", "jobCount", "I", false)
  | 6 => ("BothSidesSheet", "copier", "LBothSidesSheet$Copier;", true)
  | 7 => ("BothSidesSheet", "once", "LBothSidesSheet$Pile;", true)
  | 8 => ("BothSidesSheet", "behind", "LBothSidesSheet$Pile;", true)
  | 9 => ("BothSidesSheet", "acts", "LBothSidesSheet$Acts;", true)
  | _ => ("BothSidesSheet", "tapes", "[LBothSidesSheet$Tape;", true)
def tyX10 : Nat → FieldType := fun k => match k with
  | 0 => .object "BothSidesSheet$Room"
  | 1 => .object "BothSidesSheet$Room"
  | 2 => .boolean
  | 3 => .object "BothSidesSheet$Reader"
  | 4 => .array (.object "BothSidesSheet$Job")
  | 5 => .int
  | 6 => .object "BothSidesSheet$Copier"
  | 7 => .object "BothSidesSheet$Pile"
  | 8 => .object "BothSidesSheet$Pile"
  | 9 => .object "BothSidesSheet$Acts"
  | _ => .array (.object "BothSidesSheet$Tape")
theorem nmX10 : ∀ a, a < 11 → ∀ b, b < 11 → a ≠ b → (TX10 a).2.1 ≠ (TX10 b).2.1 := by decide +kernel
theorem tyX10_ok : ∀ k, k < 11 → parseFieldDescriptor (TX10 k).2.2.1 = some (tyX10 k) := by decide +kernel
abbrev cX10_init : ByteArray := prog_1_method_1_code
def yX10_init : MethodName := ⟨RX10, "<init>", "()V"⟩
abbrev cX10_isWithin : ByteArray := prog_1_method_2_code
def yX10_isWithin : MethodName := ⟨RX10, "isWithin", "(III)Z"⟩
abbrev cX10_isTray : ByteArray := prog_1_method_3_code
def yX10_isTray : MethodName := ⟨RX10, "isTray", "(I)Z"⟩
abbrev cX10_isJob : ByteArray := prog_1_method_4_code
def yX10_isJob : MethodName := ⟨RX10, "isJob", "(I)Z"⟩
abbrev cX10_isSheet : ByteArray := prog_1_method_5_code
def yX10_isSheet : MethodName := ⟨RX10, "isSheet", "(I)Z"⟩
abbrev cX10_isTape : ByteArray := prog_1_method_6_code
def yX10_isTape : MethodName := ⟨RX10, "isTape", "(I)Z"⟩
abbrev cX10_isWay : ByteArray := prog_1_method_7_code
def yX10_isWay : MethodName := ⟨RX10, "isWay", "(I)Z"⟩
abbrev cX10_isEither : ByteArray := prog_1_method_8_code
def yX10_isEither : MethodName := ⟨RX10, "isEither", "(I)Z"⟩
abbrev cX10_isSide : ByteArray := prog_1_method_9_code
def yX10_isSide : MethodName := ⟨RX10, "isSide", "(III)Z"⟩
abbrev cX10_tray : ByteArray := prog_1_method_10_code
def yX10_tray : MethodName := ⟨RX10, "tray", "(II)I"⟩
abbrev cX10_of : ByteArray := prog_1_method_11_code
def yX10_of : MethodName := ⟨RX10, "of", "(II)I"⟩
abbrev cX10_row : ByteArray := prog_1_method_12_code
def yX10_row : MethodName := ⟨RX10, "row", "(III)I"⟩
abbrev cX10_feed : ByteArray := prog_1_method_13_code
def yX10_feed : MethodName := ⟨RX10, "feed", "(I)I"⟩
abbrev cX10_job : ByteArray := prog_1_method_14_code
def yX10_job : MethodName := ⟨RX10, "job", "()I"⟩
abbrev cX10_load : ByteArray := prog_1_method_15_code
def yX10_load : MethodName := ⟨RX10, "load", "(I)I"⟩
abbrev cX10_empty : ByteArray := prog_1_method_16_code
def yX10_empty : MethodName := ⟨RX10, "empty", "()I"⟩
abbrev cX10_turn : ByteArray := prog_1_method_17_code
def yX10_turn : MethodName := ⟨RX10, "turn", "(I)I"⟩
abbrev cX10_sheet : ByteArray := prog_1_method_18_code
def yX10_sheet : MethodName := ⟨RX10, "sheet", "(II)I"⟩
abbrev cX10_told : ByteArray := prog_1_method_19_code
def yX10_told : MethodName := ⟨RX10, "told", "(I)I"⟩
abbrev cX10_jobs : ByteArray := prog_1_method_20_code
def yX10_jobs : MethodName := ⟨RX10, "jobs", "(II)I"⟩
abbrev cX10_run : ByteArray := prog_1_method_21_code
def yX10_run : MethodName := ⟨RX10, "run", "(II)I"⟩
abbrev cX10_tryRun : ByteArray := prog_1_method_22_code
def yX10_tryRun : MethodName := ⟨RX10, "tryRun", "(III)V"⟩
abbrev cX10_rightsAfter : ByteArray := prog_1_method_23_code
def yX10_rightsAfter : MethodName := ⟨RX10, "rightsAfter", "(II)I"⟩
abbrev cX10_rightsBehind : ByteArray := prog_1_method_24_code
def yX10_rightsBehind : MethodName := ⟨RX10, "rightsBehind", "(III)I"⟩
abbrev cX10_after : ByteArray := prog_1_method_25_code
def yX10_after : MethodName := ⟨RX10, "after", "(III)I"⟩
abbrev cX10_best : ByteArray := prog_1_method_26_code
def yX10_best : MethodName := ⟨RX10, "best", "(I)I"⟩
abbrev cX10_uses : ByteArray := prog_1_method_27_code
def yX10_uses : MethodName := ⟨RX10, "uses", "(II)I"⟩
abbrev cX10_way : ByteArray := prog_1_method_28_code
def yX10_way : MethodName := ⟨RX10, "way", "(IIIII)I"⟩
abbrev cX10_twice : ByteArray := prog_1_method_29_code
def yX10_twice : MethodName := ⟨RX10, "twice", "(III)I"⟩
abbrev cX10_find : ByteArray := prog_1_method_30_code
def yX10_find : MethodName := ⟨RX10, "find", "(I)I"⟩
abbrev cX10_see : ByteArray := prog_1_method_31_code
def yX10_see : MethodName := ⟨RX10, "see", "(III)I"⟩
abbrev cX10_note : ByteArray := prog_1_method_32_code
def yX10_note : MethodName := ⟨RX10, "note", "(LBothSidesSheet$Notes;III)I"⟩
abbrev cX10_isSeenAfter : ByteArray := prog_1_method_33_code
def yX10_isSeenAfter : MethodName := ⟨RX10, "isSeenAfter", "(III)Z"⟩
abbrev cX10_which : ByteArray := prog_1_method_34_code
def yX10_which : MethodName := ⟨RX10, "which", "(I)I"⟩
abbrev cX10_can : ByteArray := prog_1_method_35_code
def yX10_can : MethodName := ⟨RX10, "can", "(III)I"⟩
abbrev cX10_odds : ByteArray := prog_1_method_36_code
def yX10_odds : MethodName := ⟨RX10, "odds", "(III)J"⟩
abbrev cX10_mean : ByteArray := prog_1_method_37_code
def yX10_mean : MethodName := ⟨RX10, "mean", "(II)J"⟩
abbrev cX10_partInLowest : ByteArray := prog_1_method_38_code
def yX10_partInLowest : MethodName := ⟨RX10, "partInLowest", "(III)J"⟩
abbrev cX10_plan : ByteArray := prog_1_method_39_code
def yX10_plan : MethodName := ⟨RX10, "plan", "(III)I"⟩
abbrev cX10_done : ByteArray := prog_1_method_40_code
def yX10_done : MethodName := ⟨RX10, "done", "(I)I"⟩
abbrev cX10_doPlanned : ByteArray := prog_1_method_41_code
def yX10_doPlanned : MethodName := ⟨RX10, "doPlanned", "(III)V"⟩
abbrev cX10_book : ByteArray := prog_1_method_42_code
def yX10_book : MethodName := ⟨RX10, "book", "(III)I"⟩
abbrev cX10_looked : ByteArray := prog_1_method_43_code
def yX10_looked : MethodName := ⟨RX10, "looked", "()I"⟩
abbrev cX10_judge : ByteArray := prog_1_method_44_code
def yX10_judge : MethodName := ⟨RX10, "judge", "(II)I"⟩
abbrev cX10_image : ByteArray := prog_1_method_45_code
def yX10_image : MethodName := ⟨RX10, "image", "()I"⟩
abbrev cX10_undo : ByteArray := prog_1_method_46_code
def yX10_undo : MethodName := ⟨RX10, "undo", "()I"⟩
abbrev cX10_act : ByteArray := prog_1_method_47_code
def yX10_act : MethodName := ⟨RX10, "act", "(III)I"⟩
abbrev cX10_trace : ByteArray := prog_1_method_48_code
def yX10_trace : MethodName := ⟨RX10, "trace", "(I)I"⟩
abbrev cX10_taken : ByteArray := prog_1_method_49_code
def yX10_taken : MethodName := ⟨RX10, "taken", "(II)I"⟩
abbrev cX10_isKindOrUnder : ByteArray := prog_1_method_50_code
def yX10_isKindOrUnder : MethodName := ⟨RX10, "isKindOrUnder", "(II)Z"⟩
abbrev cX10_count : ByteArray := prog_1_method_51_code
def yX10_count : MethodName := ⟨RX10, "count", "(I)I"⟩
abbrev cX10_tape : ByteArray := prog_1_method_52_code
def yX10_tape : MethodName := ⟨RX10, "tape", "(III)I"⟩
abbrev cX10_item : ByteArray := prog_1_method_53_code
def yX10_item : MethodName := ⟨RX10, "item", "(IIJ)I"⟩
abbrev cX10_read : ByteArray := prog_1_method_54_code
def yX10_read : MethodName := ⟨RX10, "read", "(II)J"⟩
abbrev cX10_shift : ByteArray := prog_1_method_55_code
def yX10_shift : MethodName := ⟨RX10, "shift", "(IIIII)I"⟩
def RX11 : String := "BothSidesSheetModel"
def TX11 : u_T := fun k => match k with
  | 0 => ("BothSidesSheetModel", "trays", "I", false)
  | 1 => ("BothSidesSheetModel", "kind", "[I", true)
  | 2 => ("BothSidesSheetModel", "v", "[I", true)
  | 3 => ("BothSidesSheetModel", "ran0", "[I", true)
  | 4 => ("BothSidesSheetModel", "rows", "[I", true)
  | 5 => ("BothSidesSheetModel", "jobs0", "I", false)
  | 6 => ("BothSidesSheetModel", "fed", "I", false)
  | 7 => ("BothSidesSheetModel", "at", "I", false)
  | 8 => ("BothSidesSheetModel", "digits", "I", false)
  | 9 => ("BothSidesSheetModel", "text", "[I", true)
  | 10 => ("BothSidesSheetModel", "clauses", "[I", true)
  | 11 => ("BothSidesSheetModel", "word", "[I", true)
  | 12 => ("BothSidesSheetModel", "number", "[I", true)
  | 13 => ("BothSidesSheetModel", "from", "[I", true)
  | 14 => ("BothSidesSheetModel", "to", "[I", true)
  | 15 => ("BothSidesSheetModel", "sign", "[I", true)
  | 16 => ("BothSidesSheetModel", "waits", "[I", true)
  | 17 => ("BothSidesSheetModel", "signs", "I", false)
  | 18 => ("BothSidesSheetModel", "waiting", "I", false)
  | 19 => ("BothSidesSheetModel", "open", "I", false)
  | 20 => ("BothSidesSheetModel", "letters", "[I", true)
  | 21 => ("BothSidesSheetModel", "pile", "[Z", true)
  | 22 => ("BothSidesSheetModel", "sheets", "I", false)
  | 23 => ("BothSidesSheetModel", "side", "[I", true)
  | 24 => ("BothSidesSheetModel", "outSide", "[I", true)
  | 25 => ("BothSidesSheetModel", "newSide", "[I", true)
  | 26 => ("BothSidesSheetModel", "down", "[Z", true)
  | 27 => ("BothSidesSheetModel", "outDown", "[Z", true)
  | 28 => ("BothSidesSheetModel", "newDown", "[Z", true)
  | 29 => ("BothSidesSheetModel", "taken1", "I", false)
  | 30 => ("BothSidesSheetModel", "printed", "I", false)
  | 31 => ("BothSidesSheetModel", "keptSheets", "I", false)
  | 32 => ("BothSidesSheetModel", "keptSide", "[I", true)
  | 33 => ("BothSidesSheetModel", "keptDown", "[Z", true)
  | 34 => ("BothSidesSheetModel", "seen", "I", false)
  | 35 => ("BothSidesSheetModel", "seenSide", "[I", true)
  | 36 => ("BothSidesSheetModel", "seenPage", "[I", true)
  | 37 => ("BothSidesSheetModel", "plans", "I", false)
  | 38 => ("BothSidesSheetModel", "books", "I", false)
  | 39 => ("BothSidesSheetModel", "planWhat", "[I", true)
  | 40 => ("BothSidesSheetModel", "planA", "[I", true)
  | 41 => ("BothSidesSheetModel", "planB", "[I", true)
  | 42 => ("BothSidesSheetModel", "bookSide", "[I", true)
  | 43 => ("BothSidesSheetModel", "bookPage", "[I", true)
  | 44 => ("BothSidesSheetModel", "hasImage", "Z", false)
  | 45 => ("BothSidesSheetModel", "imageSheets", "I", false)
  | 46 => ("BothSidesSheetModel", "imageTrays", "I", false)
  | 47 => ("BothSidesSheetModel", "imageSeen", "I", false)
  | 48 => ("BothSidesSheetModel", "imagePlans", "I", false)
  | 49 => ("BothSidesSheetModel", "imageBooks", "I", false)
  | 50 => ("BothSidesSheetModel", "imageSide", "[I", true)
  | 51 => ("BothSidesSheetModel", "imageKind", "[I", true)
  | 52 => ("BothSidesSheetModel", "imageV", "[I", true)
  | 53 => ("BothSidesSheetModel", "imageRan", "[I", true)
  | 54 => ("BothSidesSheetModel", "imageRows", "[I", true)
  | 55 => ("BothSidesSheetModel", "imageSeenSide", "[I", true)
  | 56 => ("BothSidesSheetModel", "imageSeenPage", "[I", true)
  | 57 => ("BothSidesSheetModel", "imageWhat", "[I", true)
  | 58 => ("BothSidesSheetModel", "imageA", "[I", true)
  | 59 => ("BothSidesSheetModel", "imageB", "[I", true)
  | 60 => ("BothSidesSheetModel", "imageBookSide", "[I", true)
  | 61 => ("BothSidesSheetModel", "imageBookPage", "[I", true)
  | 62 => ("BothSidesSheetModel", "imageDown", "[Z", true)
  | 63 => ("BothSidesSheetModel", "ran", "I", false)
  | 64 => ("BothSidesSheetModel", "bodies", "[I", true)
  | 65 => ("BothSidesSheetModel", "sort", "[I", true)
  | 66 => ("BothSidesSheetModel", "length", "[I", true)
  | 67 => ("BothSidesSheetModel", "item", "[J", true)
  | _ => ("BothSidesSheetModel", "aside", "[J", true)
def tyX11 : Nat → FieldType := fun k => match k with
  | 0 => .int
  | 1 => .array .int
  | 2 => .array .int
  | 3 => .array .int
  | 4 => .array .int
  | 5 => .int
  | 6 => .int
  | 7 => .int
  | 8 => .int
  | 9 => .array .int
  | 10 => .array .int
  | 11 => .array .int
  | 12 => .array .int
  | 13 => .array .int
  | 14 => .array .int
  | 15 => .array .int
  | 16 => .array .int
  | 17 => .int
  | 18 => .int
  | 19 => .int
  | 20 => .array .int
  | 21 => .array .boolean
  | 22 => .int
  | 23 => .array .int
  | 24 => .array .int
  | 25 => .array .int
  | 26 => .array .boolean
  | 27 => .array .boolean
  | 28 => .array .boolean
  | 29 => .int
  | 30 => .int
  | 31 => .int
  | 32 => .array .int
  | 33 => .array .boolean
  | 34 => .int
  | 35 => .array .int
  | 36 => .array .int
  | 37 => .int
  | 38 => .int
  | 39 => .array .int
  | 40 => .array .int
  | 41 => .array .int
  | 42 => .array .int
  | 43 => .array .int
  | 44 => .boolean
  | 45 => .int
  | 46 => .int
  | 47 => .int
  | 48 => .int
  | 49 => .int
  | 50 => .array .int
  | 51 => .array .int
  | 52 => .array .int
  | 53 => .array .int
  | 54 => .array .int
  | 55 => .array .int
  | 56 => .array .int
  | 57 => .array .int
  | 58 => .array .int
  | 59 => .array .int
  | 60 => .array .int
  | 61 => .array .int
  | 62 => .array .boolean
  | 63 => .int
  | 64 => .array .int
  | 65 => .array .int
  | 66 => .array .int
  | 67 => .array .long
  | _ => .array .long
theorem nmX11 : ∀ a, a < 69 → ∀ b, b < 69 → a ≠ b → (TX11 a).2.1 ≠ (TX11 b).2.1 := by decide +kernel
theorem tyX11_ok : ∀ k, k < 69 → parseFieldDescriptor (TX11 k).2.2.1 = some (tyX11 k) := by decide +kernel
abbrev cX11_init : ByteArray := prog_13_method_1_code
def yX11_init : MethodName := ⟨RX11, "<init>", "()V"⟩
abbrev cX11_in : ByteArray := prog_13_method_2_code
def yX11_in : MethodName := ⟨RX11, "in", "(III)Z"⟩
abbrev cX11_isTray : ByteArray := prog_13_method_3_code
def yX11_isTray : MethodName := ⟨RX11, "isTray", "(I)Z"⟩
abbrev cX11_tray : ByteArray := prog_13_method_4_code
def yX11_tray : MethodName := ⟨RX11, "tray", "(II)I"⟩
abbrev cX11_of : ByteArray := prog_13_method_5_code
def yX11_of : MethodName := ⟨RX11, "of", "(II)I"⟩
abbrev cX11_row : ByteArray := prog_13_method_6_code
def yX11_row : MethodName := ⟨RX11, "row", "(III)I"⟩
abbrev cX11_feed : ByteArray := prog_13_method_7_code
def yX11_feed : MethodName := ⟨RX11, "feed", "(I)I"⟩
abbrev cX11_next : ByteArray := prog_13_method_8_code
def yX11_next : MethodName := ⟨RX11, "next", "()I"⟩
abbrev cX11_second : ByteArray := prog_13_method_9_code
def yX11_second : MethodName := ⟨RX11, "second", "()I"⟩
abbrev cX11_takes : ByteArray := prog_13_method_10_code
def yX11_takes : MethodName := ⟨RX11, "takes", "(I)Z"⟩
abbrev cX11_takesWord : ByteArray := prog_13_method_11_code
def yX11_takesWord : MethodName := ⟨RX11, "takesWord", "(II)Z"⟩
abbrev cX11_isDigit : ByteArray := prog_13_method_12_code
def yX11_isDigit : MethodName := ⟨RX11, "isDigit", "()Z"⟩
abbrev cX11_takesNumber : ByteArray := prog_13_method_13_code
def yX11_takesNumber : MethodName := ⟨RX11, "takesNumber", "()Z"⟩
abbrev cX11_emits : ByteArray := prog_13_method_14_code
def yX11_emits : MethodName := ⟨RX11, "emits", "(I)V"⟩
abbrev cX11_whole : ByteArray := prog_13_method_15_code
def yX11_whole : MethodName := ⟨RX11, "whole", "()V"⟩
abbrev cX11_settle : ByteArray := prog_13_method_16_code
def yX11_settle : MethodName := ⟨RX11, "settle", "(I)V"⟩
abbrev cX11_place : ByteArray := prog_13_method_17_code
def yX11_place : MethodName := ⟨RX11, "place", "(I)I"⟩
abbrev cX11_takesTest : ByteArray := prog_13_method_18_code
def yX11_takesTest : MethodName := ⟨RX11, "takesTest", "()Z"⟩
abbrev cX11_takesE : ByteArray := prog_13_method_19_code
def yX11_takesE : MethodName := ⟨RX11, "takesE", "(I)Z"⟩
abbrev cX11_takesHead : ByteArray := prog_13_method_20_code
def yX11_takesHead : MethodName := ⟨RX11, "takesHead", "(I)Z"⟩
abbrev cX11_takesClause : ByteArray := prog_13_method_21_code
def yX11_takesClause : MethodName := ⟨RX11, "takesClause", "(I)Z"⟩
abbrev cX11_goesText : ByteArray := prog_13_method_22_code
def yX11_goesText : MethodName := ⟨RX11, "goesText", "(I)Z"⟩
abbrev cX11_job : ByteArray := prog_13_method_23_code
def yX11_job : MethodName := ⟨RX11, "job", "()I"⟩
abbrev cX11_isJob : ByteArray := prog_13_method_24_code
def yX11_isJob : MethodName := ⟨RX11, "isJob", "(I)Z"⟩
abbrev cX11_lastOf : ByteArray := prog_13_method_25_code
def yX11_lastOf : MethodName := ⟨RX11, "lastOf", "(III)I"⟩
abbrev cX11_first : ByteArray := prog_13_method_26_code
def yX11_first : MethodName := ⟨RX11, "first", "(I)I"⟩
abbrev cX11_last : ByteArray := prog_13_method_27_code
def yX11_last : MethodName := ⟨RX11, "last", "(I)I"⟩
abbrev cX11_jobs : ByteArray := prog_13_method_28_code
def yX11_jobs : MethodName := ⟨RX11, "jobs", "(II)I"⟩
abbrev cX11_factOf : ByteArray := prog_13_method_29_code
def yX11_factOf : MethodName := ⟨RX11, "factOf", "(IIII)I"⟩
abbrev cX11_holds : ByteArray := prog_13_method_30_code
def yX11_holds : MethodName := ⟨RX11, "holds", "(IIII)Z"⟩
abbrev cX11_anyHolds : ByteArray := prog_13_method_31_code
def yX11_anyHolds : MethodName := ⟨RX11, "anyHolds", "(IIIII)Z"⟩
abbrev cX11_over : ByteArray := prog_13_method_32_code
def yX11_over : MethodName := ⟨RX11, "over", "(I)V"⟩
abbrev cX11_about : ByteArray := prog_13_method_33_code
def yX11_about : MethodName := ⟨RX11, "about", "(I)V"⟩
abbrev cX11_loads : ByteArray := prog_13_method_34_code
def yX11_loads : MethodName := ⟨RX11, "loads", "(I)V"⟩
abbrev cX11_load : ByteArray := prog_13_method_35_code
def yX11_load : MethodName := ⟨RX11, "load", "(I)I"⟩
abbrev cX11_empty : ByteArray := prog_13_method_36_code
def yX11_empty : MethodName := ⟨RX11, "empty", "()I"⟩
abbrev cX11_turnsOver : ByteArray := prog_13_method_37_code
def yX11_turnsOver : MethodName := ⟨RX11, "turnsOver", "()V"⟩
abbrev cX11_goWay : ByteArray := prog_13_method_38_code
def yX11_goWay : MethodName := ⟨RX11, "goWay", "(I)V"⟩
abbrev cX11_isRight : ByteArray := prog_13_method_39_code
def yX11_isRight : MethodName := ⟨RX11, "isRight", "(I)Z"⟩
abbrev cX11_right : ByteArray := prog_13_method_40_code
def yX11_right : MethodName := ⟨RX11, "right", "()I"⟩
abbrev cX11_sidesWith : ByteArray := prog_13_method_41_code
def yX11_sidesWith : MethodName := ⟨RX11, "sidesWith", "(I)I"⟩
abbrev cX11_turn : ByteArray := prog_13_method_42_code
def yX11_turn : MethodName := ⟨RX11, "turn", "(I)I"⟩
abbrev cX11_sheet : ByteArray := prog_13_method_43_code
def yX11_sheet : MethodName := ⟨RX11, "sheet", "(II)I"⟩
abbrev cX11_missing : ByteArray := prog_13_method_44_code
def yX11_missing : MethodName := ⟨RX11, "missing", "()I"⟩
abbrev cX11_told : ByteArray := prog_13_method_45_code
def yX11_told : MethodName := ⟨RX11, "told", "(I)I"⟩
abbrev cX11_prints : ByteArray := prog_13_method_46_code
def yX11_prints : MethodName := ⟨RX11, "prints", "(IIZ)V"⟩
abbrev cX11_putsOut : ByteArray := prog_13_method_47_code
def yX11_putsOut : MethodName := ⟨RX11, "putsOut", "(II)V"⟩
abbrev cX11_goesOn : ByteArray := prog_13_method_48_code
def yX11_goesOn : MethodName := ⟨RX11, "goesOn", "(III)I"⟩
abbrev cX11_told1 : ByteArray := prog_13_method_49_code
def yX11_told1 : MethodName := ⟨RX11, "told1", "(II)I"⟩
abbrev cX11_goRun : ByteArray := prog_13_method_50_code
def yX11_goRun : MethodName := ⟨RX11, "goRun", "(II)V"⟩
abbrev cX11_run : ByteArray := prog_13_method_51_code
def yX11_run : MethodName := ⟨RX11, "run", "(II)I"⟩
abbrev cX11_save : ByteArray := prog_13_method_52_code
def yX11_save : MethodName := ⟨RX11, "save", "()V"⟩
abbrev cX11_putBack : ByteArray := prog_13_method_53_code
def yX11_putBack : MethodName := ⟨RX11, "putBack", "()V"⟩
abbrev cX11_after : ByteArray := prog_13_method_54_code
def yX11_after : MethodName := ⟨RX11, "after", "(III)I"⟩
abbrev cX11_rightAfter : ByteArray := prog_13_method_55_code
def yX11_rightAfter : MethodName := ⟨RX11, "rightAfter", "(II)I"⟩
abbrev cX11_best : ByteArray := prog_13_method_56_code
def yX11_best : MethodName := ⟨RX11, "best", "(I)I"⟩
abbrev cX11_uses : ByteArray := prog_13_method_57_code
def yX11_uses : MethodName := ⟨RX11, "uses", "(II)I"⟩
abbrev cX11_rightTwice : ByteArray := prog_13_method_58_code
def yX11_rightTwice : MethodName := ⟨RX11, "rightTwice", "(IIIII)I"⟩
abbrev cX11_way : ByteArray := prog_13_method_59_code
def yX11_way : MethodName := ⟨RX11, "way", "(IIIII)I"⟩
abbrev cX11_twice : ByteArray := prog_13_method_60_code
def yX11_twice : MethodName := ⟨RX11, "twice", "(III)I"⟩
abbrev cX11_find : ByteArray := prog_13_method_61_code
def yX11_find : MethodName := ⟨RX11, "find", "(I)I"⟩
abbrev cX11_isOn : ByteArray := prog_13_method_62_code
def yX11_isOn : MethodName := ⟨RX11, "isOn", "(III)Z"⟩
abbrev cX11_see : ByteArray := prog_13_method_63_code
def yX11_see : MethodName := ⟨RX11, "see", "(III)I"⟩
abbrev cX11_on : ByteArray := prog_13_method_64_code
def yX11_on : MethodName := ⟨RX11, "on", "(I)I"⟩
abbrev cX11_isSeenAfter : ByteArray := prog_13_method_65_code
def yX11_isSeenAfter : MethodName := ⟨RX11, "isSeenAfter", "(II)Z"⟩
abbrev cX11_which : ByteArray := prog_13_method_66_code
def yX11_which : MethodName := ⟨RX11, "which", "(I)I"⟩
abbrev cX11_can : ByteArray := prog_13_method_67_code
def yX11_can : MethodName := ⟨RX11, "can", "(III)I"⟩
abbrev cX11_divisor : ByteArray := prog_13_method_68_code
def yX11_divisor : MethodName := ⟨RX11, "divisor", "(II)I"⟩
abbrev cX11_lowest : ByteArray := prog_13_method_69_code
def yX11_lowest : MethodName := ⟨RX11, "lowest", "(III)J"⟩
abbrev cX11_odds : ByteArray := prog_13_method_70_code
def yX11_odds : MethodName := ⟨RX11, "odds", "(III)J"⟩
abbrev cX11_mean : ByteArray := prog_13_method_71_code
def yX11_mean : MethodName := ⟨RX11, "mean", "(II)J"⟩
abbrev cX11_plan : ByteArray := prog_13_method_72_code
def yX11_plan : MethodName := ⟨RX11, "plan", "(III)I"⟩
abbrev cX11_goPlan : ByteArray := prog_13_method_73_code
def yX11_goPlan : MethodName := ⟨RX11, "goPlan", "(I)V"⟩
abbrev cX11_done : ByteArray := prog_13_method_74_code
def yX11_done : MethodName := ⟨RX11, "done", "(I)I"⟩
abbrev cX11_book : ByteArray := prog_13_method_75_code
def yX11_book : MethodName := ⟨RX11, "book", "(III)I"⟩
abbrev cX11_looked : ByteArray := prog_13_method_76_code
def yX11_looked : MethodName := ⟨RX11, "looked", "()I"⟩
abbrev cX11_judge : ByteArray := prog_13_method_77_code
def yX11_judge : MethodName := ⟨RX11, "judge", "(II)I"⟩
abbrev cX11_image : ByteArray := prog_13_method_78_code
def yX11_image : MethodName := ⟨RX11, "image", "()I"⟩
abbrev cX11_undo : ByteArray := prog_13_method_79_code
def yX11_undo : MethodName := ⟨RX11, "undo", "()I"⟩
abbrev cX11_body : ByteArray := prog_13_method_80_code
def yX11_body : MethodName := ⟨RX11, "body", "(I)V"⟩
abbrev cX11_trayFeeds : ByteArray := prog_13_method_81_code
def yX11_trayFeeds : MethodName := ⟨RX11, "trayFeeds", "(II)I"⟩
abbrev cX11_feedsAct : ByteArray := prog_13_method_82_code
def yX11_feedsAct : MethodName := ⟨RX11, "feedsAct", "(II)I"⟩
abbrev cX11_trayPrints : ByteArray := prog_13_method_83_code
def yX11_trayPrints : MethodName := ⟨RX11, "trayPrints", "(II)I"⟩
abbrev cX11_flippingPrints : ByteArray := prog_13_method_84_code
def yX11_flippingPrints : MethodName := ⟨RX11, "flippingPrints", "(II)I"⟩
abbrev cX11_printsAct : ByteArray := prog_13_method_85_code
def yX11_printsAct : MethodName := ⟨RX11, "printsAct", "(II)I"⟩
abbrev cX11_trayTells : ByteArray := prog_13_method_86_code
def yX11_trayTells : MethodName := ⟨RX11, "trayTells", "(II)I"⟩
abbrev cX11_tellsAct : ByteArray := prog_13_method_87_code
def yX11_tellsAct : MethodName := ⟨RX11, "tellsAct", "(II)I"⟩
abbrev cX11_act : ByteArray := prog_13_method_88_code
def yX11_act : MethodName := ⟨RX11, "act", "(III)I"⟩
abbrev cX11_trace : ByteArray := prog_13_method_89_code
def yX11_trace : MethodName := ⟨RX11, "trace", "(I)I"⟩
abbrev cX11_taken : ByteArray := prog_13_method_90_code
def yX11_taken : MethodName := ⟨RX11, "taken", "(II)I"⟩
abbrev cX11_count : ByteArray := prog_13_method_91_code
def yX11_count : MethodName := ⟨RX11, "count", "(I)I"⟩
abbrev cX11_isTape : ByteArray := prog_13_method_92_code
def yX11_isTape : MethodName := ⟨RX11, "isTape", "(I)Z"⟩
abbrev cX11_tape : ByteArray := prog_13_method_93_code
def yX11_tape : MethodName := ⟨RX11, "tape", "(III)I"⟩
abbrev cX11_narrow : ByteArray := prog_13_method_94_code
def yX11_narrow : MethodName := ⟨RX11, "narrow", "(IJ)J"⟩
abbrev cX11_item : ByteArray := prog_13_method_95_code
def yX11_item : MethodName := ⟨RX11, "item", "(IIJ)I"⟩
abbrev cX11_read : ByteArray := prog_13_method_96_code
def yX11_read : MethodName := ⟨RX11, "read", "(II)J"⟩
abbrev cX11_shift : ByteArray := prog_13_method_97_code
def yX11_shift : MethodName := ⟨RX11, "shift", "(IIIII)I"⟩
def RJ11 : String := "java/lang/Character"
def RJ9 : String := "java/lang/Math"
abbrev cJ9_max_7cf53 : ByteArray := prog_16_method_65_code
def yJ9_max_7cf53 : MethodName := ⟨RJ9, "max", "(II)I"⟩
abbrev cJ9_min_7cf53 : ByteArray := prog_16_method_69_code
def yJ9_min_7cf53 : MethodName := ⟨RJ9, "min", "(II)I"⟩
def RJ0 : String := "java/lang/String"
abbrev cJ0_length_8abf5 : ByteArray := prog_17_method_54_code
def yJ0_length_8abf5 : MethodName := ⟨RJ0, "length", "()I"⟩
abbrev cJ0_charAt_5068e : ByteArray := prog_17_method_56_code
def yJ0_charAt_5068e : MethodName := ⟨RJ0, "charAt", "(I)C"⟩
abbrev cJ0_indexOf_0f7a4 : ByteArray := prog_17_method_79_code
def yJ0_indexOf_0f7a4 : MethodName := ⟨RJ0, "indexOf", "(I)I"⟩
abbrev cJ0_indexOf_7cf53 : ByteArray := prog_17_method_80_code
def yJ0_indexOf_7cf53 : MethodName := ⟨RJ0, "indexOf", "(II)I"⟩
abbrev cJ0_coder_7d493 : ByteArray := prog_17_method_152_code
def yJ0_coder_7d493 : MethodName := ⟨RJ0, "coder", "()B"⟩
abbrev cJ0_isLatin1_aae02 : ByteArray := prog_17_method_154_code
def yJ0_isLatin1_aae02 : MethodName := ⟨RJ0, "isLatin1", "()Z"⟩
abbrev cJ0_checkIndex_df160 : ByteArray := prog_17_method_155_code
def yJ0_checkIndex_df160 : MethodName := ⟨RJ0, "checkIndex", "(II)V"⟩
def RJ1 : String := "java/lang/StringLatin1"
abbrev cJ1_charAt_3b067 : ByteArray := prog_18_method_2_code
def yJ1_charAt_3b067 : MethodName := ⟨RJ1, "charAt", "([BI)C"⟩
abbrev cJ1_canEncode_9a6ad : ByteArray := prog_18_method_4_code
def yJ1_canEncode_9a6ad : MethodName := ⟨RJ1, "canEncode", "(I)Z"⟩
abbrev cJ1_indexOf_4cfef : ByteArray := prog_18_method_22_code
def yJ1_indexOf_4cfef : MethodName := ⟨RJ1, "indexOf", "([BIII)I"⟩
abbrev cJ1_indexOfChar_4cfef : ByteArray := prog_18_method_23_code
def yJ1_indexOfChar_4cfef : MethodName := ⟨RJ1, "indexOfChar", "([BIII)I"⟩
def RJ2 : String := "java/lang/StringUTF16"
def RJ10 : String := "java/lang/System"
def RJ7 : String := "java/util/Arrays"
abbrev cJ7_fill_d0a16 : ByteArray := prog_21_method_101_code
def yJ7_fill_d0a16 : MethodName := ⟨RJ7, "fill", "([JJ)V"⟩
abbrev cJ7_fill_53178 : ByteArray := prog_21_method_103_code
def yJ7_fill_53178 : MethodName := ⟨RJ7, "fill", "([II)V"⟩
abbrev cJ7_copyOf_59c91 : ByteArray := prog_21_method_123_code
def yJ7_copyOf_59c91 : MethodName := ⟨RJ7, "copyOf", "([II)[I"⟩
def RJ3 : String := "jdk/internal/util/Preconditions"
abbrev cJ3_checkIndex_8e157 : ByteArray := prog_22_method_11_code
def yJ3_checkIndex_8e157 : MethodName := ⟨RJ3, "checkIndex", "(IILjava/util/function/BiFunction;)I"⟩
def RL : String := "BothSidesSheetLaw"
abbrev cL_law : ByteArray := code
abbrev vwCl : List vw_C := [(RX0, TX0, 5), (RX1, TX1, 3), (RX2, TX2, 4), (RX3, TX3, 4), (RX4, TX4, 2), (RX5, TX5, 8), (RX6, TX6, 6), (RX7, TX7, 2), (RX8, TX8, 3), (RX9, TX9, 4), (RX10, TX10, 11), (RX11, TX11, 69)]
abbrev q_M : Type := Nat × (MethodName × (ByteArray × (Nat × (Option FieldType × (Nat × (Nat × (Bool × Nat)))))))
def q_mt0 : List q_M := [(0, yX0_init, cX0_init, 1, none, 0, 5, true, 287),
  (0, yX0_clear, cX0_clear, 1, none, 0, 5, false, 877),
  (0, yX0_doAct, cX0_doAct, 5, (some .int), 4, 0, false, 881),
  (0, yX0_numberAt, cX0_numberAt, 2, (some .int), 1, 0, false, 905),
  (0, yX0_begins, cX0_begins, 3, (some .boolean), 2, 1, false, 889),
  (0, yX0_feeds, cX0_feeds, 4, (some .int), 3, 0, false, 885),
  (0, yX0_prints, cX0_prints, 4, (some .int), 3, 0, false, 893),
  (0, yX0_tells, cX0_tells, 4, (some .int), 3, 0, false, 897),
  (1, yX1_init, cX1_init, 1, none, 0, 5, true, 267),
  (1, yX1_copy, cX1_copy, 11, none, 4, 5, false, 693),
  (1, yX1_isDry, cX1_isDry, 3, (some .boolean), 3, 1, false, 709),
  (1, yX1_withPage, cX1_withPage, 4, (some .int), 3, 0, false, 714),
  (1, yX1_laidOut, cX1_laidOut, 2, (some .int), 2, 0, false, 717),
  (1, yX1_gather, cX1_gather, 5, none, 2, 5, false, 723),
  (2, yX2_init, cX2_init, 5, none, 4, 5, true, 572),
  (2, yX2_pageFrom, cX2_pageFrom, 6, (some .int), 4, 0, false, 697),
  (2, yX2_holds, cX2_holds, 10, (some .boolean), 5, 1, false, 700),
  (2, yX2_value, cX2_value, 5, (some .int), 5, 0, false, 703),
  (2, yX2_isSo, cX2_isSo, 3, (some .boolean), 2, 1, false, 706),
  (3, yX3_init, cX3_init, 2, none, 1, 5, true, 139),
  (3, yX3_isFull, cX3_isFull, 1, (some .boolean), 0, 1, false, 783),
  (3, yX3_add, cX3_add, 4, (some .int), 3, 0, false, 787),
  (3, yX3_copyFrom, cX3_copyFrom, 3, none, 1, 5, false, 865),
  (4, yX4_init, cX4_init, 1, none, 0, 5, true, 120),
  (4, yX4_copyFrom, cX4_copyFrom, 2, none, 1, 5, false, 735),
  (4, yX4_over, cX4_over, 1, (some .int), 1, 0, false, 627),
  (4, yX4_about, cX4_about, 1, (some .int), 1, 0, false, 630),
  (4, yX4_sideOf, cX4_sideOf, 3, (some .int), 2, 0, false, 643),
  (4, yX4_pageOn, cX4_pageOn, 3, (some .int), 2, 0, false, 655),
  (4, yX4_isDown, cX4_isDown, 3, (some .boolean), 2, 1, false, 659),
  (4, yX4_isRight, cX4_isRight, 2, (some .boolean), 1, 1, false, 639),
  (4, yX4_rights, cX4_rights, 3, (some .int), 0, 0, false, 635),
  (4, yX4_sidesWith, cX4_sidesWith, 4, (some .int), 1, 0, false, 668),
  (4, yX4_missing, cX4_missing, 3, (some .int), 0, 0, false, 673),
  (4, yX4_whereIs, cX4_whereIs, 4, (some .int), 1, 0, false, 769),
  (4, yX4_putBlank, cX4_putBlank, 4, none, 1, 5, false, 604),
  (4, yX4_doWay, cX4_doWay, 3, none, 1, 5, false, 620),
  (4, yX4_turnWhole, cX4_turnWhole, 4, none, 0, 5, false, 624),
  (4, yX4_firstOtherwise, cX4_firstOtherwise, 3, (some .int), 1, 0, false, 800),
  (5, yX5_init, cX5_init, 1, none, 0, 5, true, 217)]
def q_mt1 : List q_M := [(5, yX5_fault, cX5_fault, 1, (some .int), 0, 0, false, 596),
  (5, yX5_made, cX5_made, 1, (some (.object "BothSidesSheet$Job")), 0, 6, false, 553),
  (5, yX5_clauses, cX5_clauses, 2, (some .boolean), 0, 1, false, 398),
  (5, yX5_clause, cX5_clause, 3, (some .boolean), 0, 1, false, 402),
  (5, yX5_bound, cX5_bound, 3, (some .boolean), 1, 1, false, 458),
  (5, yX5_anyOf, cX5_anyOf, 2, (some .boolean), 1, 1, false, 469),
  (5, yX5_allOf, cX5_allOf, 2, (some .boolean), 1, 1, false, 473),
  (5, yX5_one, cX5_one, 3, (some .boolean), 1, 1, false, 477),
  (5, yX5_test, cX5_test, 5, (some .boolean), 1, 1, false, 481),
  (5, yX5_word, cX5_word, 4, (some .int), 0, 0, false, 406),
  (5, yX5_number, cX5_number, 4, (some .int), 0, 0, false, 462),
  (5, yX5_sign, cX5_sign, 1, (some .int), 0, 0, false, 454),
  (6, yX6_init, cX6_init, 2, none, 0, 5, true, 114),
  (6, yX6_copyFrom, cX6_copyFrom, 3, none, 1, 5, false, 855),
  (7, yX7_init, cX7_init, 1, none, 0, 5, true, 223),
  (7, yX7_add, cX7_add, 2, none, 1, 5, false, 549),
  (8, yX8_init, cX8_init, 1, none, 0, 5, true, 311),
  (8, yX8_isRow, cX8_isRow, 1, (some .boolean), 0, 1, false, 847),
  (8, yX8_has, cX8_has, 2, (some .boolean), 1, 1, false, 937),
  (8, yX8_begin, cX8_begin, 3, none, 2, 5, false, 926),
  (8, yX8_asItem, cX8_asItem, 3, (some .long), 1, 4, false, 941),
  (9, yX9_init, cX9_init, 1, none, 0, 5, true, 165),
  (9, yX9_begin, cX9_begin, 3, none, 2, 5, false, 371),
  (9, yX9_copyFrom, cX9_copyFrom, 2, none, 1, 5, false, 860),
  (10, yX10_init, cX10_init, 2, none, 0, 5, true, 106),
  (10, yX10_isWithin, cX10_isWithin, 3, (some .boolean), 3, 1, false, 367),
  (10, yX10_isTray, cX10_isTray, 2, (some .boolean), 1, 1, false, 382),
  (10, yX10_isJob, cX10_isJob, 2, (some .boolean), 1, 1, false, 682),
  (10, yX10_isSheet, cX10_isSheet, 2, (some .boolean), 1, 1, false, 651),
  (10, yX10_isTape, cX10_isTape, 1, (some .boolean), 1, 1, false, 843),
  (10, yX10_isWay, cX10_isWay, 1, (some .boolean), 1, 1, false, 616),
  (10, yX10_isEither, cX10_isEither, 1, (some .boolean), 1, 1, false, 685),
  (10, yX10_isSide, cX10_isSide, 3, (some .boolean), 3, 1, false, 779),
  (10, yX10_tray, cX10_tray, 3, (some .int), 2, 0, false, 364),
  (10, yX10_of, cX10_of, 3, (some .int), 2, 0, false, 378),
  (10, yX10_row, cX10_row, 5, (some .int), 3, 0, false, 386),
  (10, yX10_feed, cX10_feed, 2, (some .int), 1, 0, false, 390),
  (10, yX10_job, cX10_job, 2, (some .int), 0, 0, false, 394),
  (10, yX10_load, cX10_load, 2, (some .int), 1, 0, false, 600),
  (10, yX10_empty, cX10_empty, 2, (some .int), 0, 0, false, 609)]
def q_mt2 : List q_M := [(10, yX10_turn, cX10_turn, 2, (some .int), 1, 0, false, 613),
  (10, yX10_sheet, cX10_sheet, 3, (some .int), 2, 0, false, 647),
  (10, yX10_told, cX10_told, 2, (some .int), 1, 0, false, 664),
  (10, yX10_jobs, cX10_jobs, 3, (some .int), 2, 0, false, 678),
  (10, yX10_run, cX10_run, 4, (some .int), 2, 0, false, 689),
  (10, yX10_tryRun, cX10_tryRun, 4, none, 3, 5, false, 731),
  (10, yX10_rightsAfter, cX10_rightsAfter, 3, (some .int), 2, 0, false, 744),
  (10, yX10_rightsBehind, cX10_rightsBehind, 4, (some .int), 3, 0, false, 756),
  (10, yX10_after, cX10_after, 4, (some .int), 3, 0, false, 727),
  (10, yX10_best, cX10_best, 6, (some .int), 1, 0, false, 740),
  (10, yX10_uses, cX10_uses, 3, (some .int), 2, 0, false, 748),
  (10, yX10_way, cX10_way, 10, (some .int), 5, 0, false, 752),
  (10, yX10_twice, cX10_twice, 10, (some .int), 3, 0, false, 760),
  (10, yX10_find, cX10_find, 2, (some .int), 1, 0, false, 765),
  (10, yX10_see, cX10_see, 4, (some .int), 3, 0, false, 773),
  (10, yX10_note, cX10_note, 4, (some .int), 4, 0, false, 776),
  (10, yX10_isSeenAfter, cX10_isSeenAfter, 4, (some .boolean), 3, 1, false, 796),
  (10, yX10_which, cX10_which, 4, (some .int), 1, 0, false, 792),
  (10, yX10_can, cX10_can, 7, (some .int), 3, 0, false, 804),
  (10, yX10_odds, cX10_odds, 6, (some .long), 3, 4, false, 808),
  (10, yX10_mean, cX10_mean, 5, (some .long), 2, 4, false, 816),
  (10, yX10_partInLowest, cX10_partInLowest, 5, (some .long), 3, 4, false, 812),
  (10, yX10_plan, cX10_plan, 4, (some .int), 3, 0, false, 820),
  (10, yX10_done, cX10_done, 3, (some .int), 1, 0, false, 824),
  (10, yX10_doPlanned, cX10_doPlanned, 4, none, 3, 5, false, 828),
  (10, yX10_book, cX10_book, 4, (some .int), 3, 0, false, 832),
  (10, yX10_looked, cX10_looked, 1, (some .int), 0, 0, false, 836),
  (10, yX10_judge, cX10_judge, 5, (some .int), 2, 0, false, 840),
  (10, yX10_image, cX10_image, 1, (some .int), 0, 0, false, 851),
  (10, yX10_undo, cX10_undo, 1, (some .int), 0, 0, false, 869),
  (10, yX10_act, cX10_act, 4, (some .int), 3, 0, false, 873),
  (10, yX10_trace, cX10_trace, 2, (some .int), 1, 0, false, 901),
  (10, yX10_taken, cX10_taken, 4, (some .int), 2, 0, false, 909),
  (10, yX10_isKindOrUnder, cX10_isKindOrUnder, 4, (some .boolean), 2, 1, false, 912),
  (10, yX10_count, cX10_count, 2, (some .int), 1, 0, false, 918),
  (10, yX10_tape, cX10_tape, 4, (some .int), 3, 0, false, 922),
  (10, yX10_item, cX10_item, 6, (some .int), 3, 0, false, 933),
  (10, yX10_read, cX10_read, 3, (some .long), 2, 4, false, 945),
  (10, yX10_shift, cX10_shift, 8, (some .int), 5, 0, false, 949),
  (11, yX11_init, cX11_init, 1, none, 0, 5, true, 955)]
def q_mt3 : List q_M := [(11, yX11_in, cX11_in, 4, (some .boolean), 3, 1, false, 1173),
  (11, yX11_isTray, cX11_isTray, 2, (some .boolean), 1, 1, false, 1181),
  (11, yX11_tray, cX11_tray, 4, (some .int), 2, 0, false, 1169),
  (11, yX11_of, cX11_of, 3, (some .int), 2, 0, false, 1177),
  (11, yX11_row, cX11_row, 5, (some .int), 3, 0, false, 1185),
  (11, yX11_feed, cX11_feed, 2, (some .int), 1, 0, false, 1189),
  (11, yX11_next, cX11_next, 1, (some .int), 0, 0, false, 1209),
  (11, yX11_second, cX11_second, 1, (some .int), 0, 0, false, 1221),
  (11, yX11_takes, cX11_takes, 2, (some .boolean), 1, 1, false, 1217),
  (11, yX11_takesWord, cX11_takesWord, 4, (some .boolean), 2, 1, false, 1213),
  (11, yX11_isDigit, cX11_isDigit, 1, (some .boolean), 0, 1, false, 1241),
  (11, yX11_takesNumber, cX11_takesNumber, 2, (some .boolean), 0, 1, false, 1237),
  (11, yX11_emits, cX11_emits, 2, none, 1, 5, false, 1245),
  (11, yX11_whole, cX11_whole, 1, none, 0, 5, false, 1249),
  (11, yX11_settle, cX11_settle, 2, none, 1, 5, false, 1253),
  (11, yX11_place, cX11_place, 2, (some .int), 1, 0, false, 1233),
  (11, yX11_takesTest, cX11_takesTest, 3, (some .boolean), 0, 1, false, 1229),
  (11, yX11_takesE, cX11_takesE, 4, (some .boolean), 1, 1, false, 1225),
  (11, yX11_takesHead, cX11_takesHead, 2, (some .boolean), 1, 1, false, 1205),
  (11, yX11_takesClause, cX11_takesClause, 2, (some .boolean), 1, 1, false, 1201),
  (11, yX11_goesText, cX11_goesText, 3, (some .boolean), 1, 1, false, 1197),
  (11, yX11_job, cX11_job, 2, (some .int), 0, 0, false, 1193),
  (11, yX11_isJob, cX11_isJob, 2, (some .boolean), 1, 1, false, 1261),
  (11, yX11_lastOf, cX11_lastOf, 6, (some .int), 3, 0, false, 1269),
  (11, yX11_first, cX11_first, 3, (some .int), 1, 0, false, 1265),
  (11, yX11_last, cX11_last, 3, (some .int), 1, 0, false, 1273),
  (11, yX11_jobs, cX11_jobs, 3, (some .int), 2, 0, false, 1257),
  (11, yX11_factOf, cX11_factOf, 5, (some .int), 4, 0, false, 1353),
  (11, yX11_holds, cX11_holds, 10, (some .boolean), 4, 1, false, 1349),
  (11, yX11_anyHolds, cX11_anyHolds, 7, (some .boolean), 5, 1, false, 1345),
  (11, yX11_over, cX11_over, 4, none, 1, 5, false, 1301),
  (11, yX11_about, cX11_about, 2, none, 1, 5, false, 1305),
  (11, yX11_loads, cX11_loads, 3, none, 1, 5, false, 1281),
  (11, yX11_load, cX11_load, 2, (some .int), 1, 0, false, 1277),
  (11, yX11_empty, cX11_empty, 2, (some .int), 0, 0, false, 1285),
  (11, yX11_turnsOver, cX11_turnsOver, 6, none, 0, 5, false, 1297),
  (11, yX11_goWay, cX11_goWay, 3, none, 1, 5, false, 1293),
  (11, yX11_isRight, cX11_isRight, 2, (some .boolean), 1, 1, false, 1313),
  (11, yX11_right, cX11_right, 3, (some .int), 0, 0, false, 1309),
  (11, yX11_sidesWith, cX11_sidesWith, 4, (some .int), 1, 0, false, 1325)]
def q_mt4 : List q_M := [(11, yX11_turn, cX11_turn, 2, (some .int), 1, 0, false, 1289),
  (11, yX11_sheet, cX11_sheet, 3, (some .int), 2, 0, false, 1317),
  (11, yX11_missing, cX11_missing, 3, (some .int), 0, 0, false, 1329),
  (11, yX11_told, cX11_told, 2, (some .int), 1, 0, false, 1321),
  (11, yX11_prints, cX11_prints, 5, none, 3, 5, false, 1361),
  (11, yX11_putsOut, cX11_putsOut, 4, none, 2, 5, false, 1365),
  (11, yX11_goesOn, cX11_goesOn, 5, (some .int), 3, 0, false, 1341),
  (11, yX11_told1, cX11_told1, 4, (some .int), 2, 0, false, 1357),
  (11, yX11_goRun, cX11_goRun, 9, none, 2, 5, false, 1337),
  (11, yX11_run, cX11_run, 3, (some .int), 2, 0, false, 1333),
  (11, yX11_save, cX11_save, 2, none, 0, 5, false, 1373),
  (11, yX11_putBack, cX11_putBack, 2, none, 0, 5, false, 1377),
  (11, yX11_after, cX11_after, 5, (some .int), 3, 0, false, 1369),
  (11, yX11_rightAfter, cX11_rightAfter, 3, (some .int), 2, 0, false, 1385),
  (11, yX11_best, cX11_best, 6, (some .int), 1, 0, false, 1381),
  (11, yX11_uses, cX11_uses, 4, (some .int), 2, 0, false, 1390),
  (11, yX11_rightTwice, cX11_rightTwice, 7, (some .int), 5, 0, false, 1398),
  (11, yX11_way, cX11_way, 10, (some .int), 5, 0, false, 1394),
  (11, yX11_twice, cX11_twice, 10, (some .int), 3, 0, false, 1402),
  (11, yX11_find, cX11_find, 3, (some .int), 1, 0, false, 1406),
  (11, yX11_isOn, cX11_isOn, 4, (some .boolean), 3, 1, false, 1414),
  (11, yX11_see, cX11_see, 4, (some .int), 3, 0, false, 1410),
  (11, yX11_on, cX11_on, 2, (some .int), 1, 0, false, 1426),
  (11, yX11_isSeenAfter, cX11_isSeenAfter, 5, (some .boolean), 2, 1, false, 1422),
  (11, yX11_which, cX11_which, 4, (some .int), 1, 0, false, 1418),
  (11, yX11_can, cX11_can, 8, (some .int), 3, 0, false, 1430),
  (11, yX11_divisor, cX11_divisor, 6, (some .int), 2, 0, false, 1443),
  (11, yX11_lowest, cX11_lowest, 5, (some .long), 3, 4, false, 1439),
  (11, yX11_odds, cX11_odds, 6, (some .long), 3, 4, false, 1434),
  (11, yX11_mean, cX11_mean, 5, (some .long), 2, 4, false, 1447),
  (11, yX11_plan, cX11_plan, 4, (some .int), 3, 0, false, 1451),
  (11, yX11_goPlan, cX11_goPlan, 2, none, 1, 5, false, 1459),
  (11, yX11_done, cX11_done, 3, (some .int), 1, 0, false, 1455),
  (11, yX11_book, cX11_book, 4, (some .int), 3, 0, false, 1463),
  (11, yX11_looked, cX11_looked, 2, (some .int), 0, 0, false, 1467),
  (11, yX11_judge, cX11_judge, 4, (some .int), 2, 0, false, 1471),
  (11, yX11_image, cX11_image, 2, (some .int), 0, 0, false, 1479),
  (11, yX11_undo, cX11_undo, 2, (some .int), 0, 0, false, 1483),
  (11, yX11_body, cX11_body, 2, none, 1, 5, false, 1495),
  (11, yX11_trayFeeds, cX11_trayFeeds, 3, (some .int), 2, 0, false, 1499)]
def q_mt5 : List q_M := [(11, yX11_feedsAct, cX11_feedsAct, 3, (some .int), 2, 0, false, 1491),
  (11, yX11_trayPrints, cX11_trayPrints, 3, (some .int), 2, 0, false, 1511),
  (11, yX11_flippingPrints, cX11_flippingPrints, 3, (some .int), 2, 0, false, 1507),
  (11, yX11_printsAct, cX11_printsAct, 4, (some .int), 2, 0, false, 1503),
  (11, yX11_trayTells, cX11_trayTells, 3, (some .int), 2, 0, false, 1519),
  (11, yX11_tellsAct, cX11_tellsAct, 4, (some .int), 2, 0, false, 1515),
  (11, yX11_act, cX11_act, 4, (some .int), 3, 0, false, 1487),
  (11, yX11_trace, cX11_trace, 2, (some .int), 1, 0, false, 1523),
  (11, yX11_taken, cX11_taken, 4, (some .int), 2, 0, false, 1527),
  (11, yX11_count, cX11_count, 2, (some .int), 1, 0, false, 1531),
  (11, yX11_isTape, cX11_isTape, 2, (some .boolean), 1, 1, false, 1475),
  (11, yX11_tape, cX11_tape, 5, (some .int), 3, 0, false, 1535),
  (11, yX11_narrow, cX11_narrow, 4, (some .long), 2, 4, false, 1543),
  (11, yX11_item, cX11_item, 5, (some .int), 3, 0, false, 1539),
  (11, yX11_read, cX11_read, 3, (some .long), 2, 4, false, 1547),
  (11, yX11_shift, cX11_shift, 7, (some .int), 5, 0, false, 1551),
  (12, yJ0_charAt_5068e, cJ0_charAt_5068e, 2, (some .char), 1, 3, false, 411),
  (12, yJ0_indexOf_0f7a4, cJ0_indexOf_0f7a4, 2, (some .int), 1, 0, false, 486),
  (12, yJ0_indexOf_7cf53, cJ0_indexOf_7cf53, 3, (some .int), 2, 0, false, 490),
  (12, yJ0_length_8abf5, cJ0_length_8abf5, 1, (some .int), 0, 0, false, 494),
  (12, yJ0_coder_7d493, cJ0_coder_7d493, 1, (some .byte), 0, 2, false, 498),
  (12, yJ0_isLatin1_aae02, cJ0_isLatin1_aae02, 1, (some .boolean), 0, 1, false, 415),
  (12, yJ0_checkIndex_df160, cJ0_checkIndex_df160, 2, none, 2, 5, false, 423),
  (13, yJ1_charAt_3b067, cJ1_charAt_3b067, 2, (some .char), 2, 3, false, 420),
  (13, yJ1_canEncode_9a6ad, cJ1_canEncode_9a6ad, 1, (some .boolean), 1, 1, false, 504),
  (13, yJ1_indexOf_4cfef, cJ1_indexOf_4cfef, 4, (some .int), 4, 0, false, 501),
  (13, yJ1_indexOfChar_4cfef, cJ1_indexOfChar_4cfef, 6, (some .int), 4, 0, false, 509),
  (14, yJ9_max_7cf53, cJ9_max_7cf53, 2, (some .int), 2, 0, false, 450),
  (14, yJ9_min_7cf53, cJ9_min_7cf53, 2, (some .int), 2, 0, false, 465),
  (15, yJ7_fill_53178, cJ7_fill_53178, 4, none, 2, 5, false, 374),
  (15, yJ7_fill_d0a16, cJ7_fill_d0a16, 5, none, 2, 5, false, 929),
  (15, yJ7_copyOf_59c91, cJ7_copyOf_59c91, 3, (some (.array .int)), 2, 6, false, 558),
  (16, yJ3_checkIndex_8e157, cJ3_checkIndex_8e157, 3, (some .int), 3, 0, false, 428),
  (18, objectInit, object_method_1_code, 1, none, 0, 5, true, 109),
  (17, x, code, 4, ret, 1, 1, false, 0)]
def q_mt : List q_M := q_mt0 ++ (q_mt1 ++ (q_mt2 ++ (q_mt3 ++ (q_mt4 ++ (q_mt5)))))
def q_m0 : q_M := (99, objectInit, code, 0, none, 0, 9, false, 0)
def mT (μ : Nat) : q_M := q_mt.getD μ q_m0
def mO (μ : Nat) : Nat := (mT μ).1
def mY (μ : Nat) : MethodName := (mT μ).2.1
def mB (μ : Nat) : ByteArray := (mT μ).2.2.1
def mL (μ : Nat) : Nat := (mT μ).2.2.2.1
def mR (μ : Nat) : Option FieldType := (mT μ).2.2.2.2.1
def mA (μ : Nat) : Nat := (mT μ).2.2.2.2.2.1
def mK (μ : Nat) : Nat := (mT μ).2.2.2.2.2.2.1
def mI (μ : Nat) : Bool := (mT μ).2.2.2.2.2.2.2.1
def mP (μ : Nat) : Nat := (mT μ).2.2.2.2.2.2.2.2
theorem mB_0 : mB 0 = cX0_init := rfl
theorem mB_1 : mB 1 = cX0_clear := rfl
theorem mB_2 : mB 2 = cX0_doAct := rfl
theorem mB_3 : mB 3 = cX0_numberAt := rfl
theorem mB_4 : mB 4 = cX0_begins := rfl
theorem mB_5 : mB 5 = cX0_feeds := rfl
theorem mB_6 : mB 6 = cX0_prints := rfl
theorem mB_7 : mB 7 = cX0_tells := rfl
theorem mB_8 : mB 8 = cX1_init := rfl
theorem mB_9 : mB 9 = cX1_copy := rfl
theorem mB_10 : mB 10 = cX1_isDry := rfl
theorem mB_11 : mB 11 = cX1_withPage := rfl
theorem mB_12 : mB 12 = cX1_laidOut := rfl
theorem mB_13 : mB 13 = cX1_gather := rfl
theorem mB_14 : mB 14 = cX2_init := rfl
theorem mB_15 : mB 15 = cX2_pageFrom := rfl
theorem mB_16 : mB 16 = cX2_holds := rfl
theorem mB_17 : mB 17 = cX2_value := rfl
theorem mB_18 : mB 18 = cX2_isSo := rfl
theorem mB_19 : mB 19 = cX3_init := rfl
theorem mB_20 : mB 20 = cX3_isFull := rfl
theorem mB_21 : mB 21 = cX3_add := rfl
theorem mB_22 : mB 22 = cX3_copyFrom := rfl
theorem mB_23 : mB 23 = cX4_init := rfl
theorem mB_24 : mB 24 = cX4_copyFrom := rfl
theorem mB_25 : mB 25 = cX4_over := rfl
theorem mB_26 : mB 26 = cX4_about := rfl
theorem mB_27 : mB 27 = cX4_sideOf := rfl
theorem mB_28 : mB 28 = cX4_pageOn := rfl
theorem mB_29 : mB 29 = cX4_isDown := rfl
theorem mB_30 : mB 30 = cX4_isRight := rfl
theorem mB_31 : mB 31 = cX4_rights := rfl
theorem mB_32 : mB 32 = cX4_sidesWith := rfl
theorem mB_33 : mB 33 = cX4_missing := rfl
theorem mB_34 : mB 34 = cX4_whereIs := rfl
theorem mB_35 : mB 35 = cX4_putBlank := rfl
theorem mB_36 : mB 36 = cX4_doWay := rfl
theorem mB_37 : mB 37 = cX4_turnWhole := rfl
theorem mB_38 : mB 38 = cX4_firstOtherwise := rfl
theorem mB_39 : mB 39 = cX5_init := rfl
theorem mB_40 : mB 40 = cX5_fault := rfl
theorem mB_41 : mB 41 = cX5_made := rfl
theorem mB_42 : mB 42 = cX5_clauses := rfl
theorem mB_43 : mB 43 = cX5_clause := rfl
theorem mB_44 : mB 44 = cX5_bound := rfl
theorem mB_45 : mB 45 = cX5_anyOf := rfl
theorem mB_46 : mB 46 = cX5_allOf := rfl
theorem mB_47 : mB 47 = cX5_one := rfl
theorem mB_48 : mB 48 = cX5_test := rfl
theorem mB_49 : mB 49 = cX5_word := rfl
theorem mB_50 : mB 50 = cX5_number := rfl
theorem mB_51 : mB 51 = cX5_sign := rfl
theorem mB_52 : mB 52 = cX6_init := rfl
theorem mB_53 : mB 53 = cX6_copyFrom := rfl
theorem mB_54 : mB 54 = cX7_init := rfl
theorem mB_55 : mB 55 = cX7_add := rfl
theorem mB_56 : mB 56 = cX8_init := rfl
theorem mB_57 : mB 57 = cX8_isRow := rfl
theorem mB_58 : mB 58 = cX8_has := rfl
theorem mB_59 : mB 59 = cX8_begin := rfl
theorem mB_60 : mB 60 = cX8_asItem := rfl
theorem mB_61 : mB 61 = cX9_init := rfl
theorem mB_62 : mB 62 = cX9_begin := rfl
theorem mB_63 : mB 63 = cX9_copyFrom := rfl
theorem mB_64 : mB 64 = cX10_init := rfl
theorem mB_65 : mB 65 = cX10_isWithin := rfl
theorem mB_66 : mB 66 = cX10_isTray := rfl
theorem mB_67 : mB 67 = cX10_isJob := rfl
theorem mB_68 : mB 68 = cX10_isSheet := rfl
theorem mB_69 : mB 69 = cX10_isTape := rfl
theorem mB_70 : mB 70 = cX10_isWay := rfl
theorem mB_71 : mB 71 = cX10_isEither := rfl
theorem mB_72 : mB 72 = cX10_isSide := rfl
theorem mB_73 : mB 73 = cX10_tray := rfl
theorem mB_74 : mB 74 = cX10_of := rfl
theorem mB_75 : mB 75 = cX10_row := rfl
theorem mB_76 : mB 76 = cX10_feed := rfl
theorem mB_77 : mB 77 = cX10_job := rfl
theorem mB_78 : mB 78 = cX10_load := rfl
theorem mB_79 : mB 79 = cX10_empty := rfl
theorem mB_80 : mB 80 = cX10_turn := rfl
theorem mB_81 : mB 81 = cX10_sheet := rfl
theorem mB_82 : mB 82 = cX10_told := rfl
theorem mB_83 : mB 83 = cX10_jobs := rfl
theorem mB_84 : mB 84 = cX10_run := rfl
theorem mB_85 : mB 85 = cX10_tryRun := rfl
theorem mB_86 : mB 86 = cX10_rightsAfter := rfl
theorem mB_87 : mB 87 = cX10_rightsBehind := rfl
theorem mB_88 : mB 88 = cX10_after := rfl
theorem mB_89 : mB 89 = cX10_best := rfl
theorem mB_90 : mB 90 = cX10_uses := rfl
theorem mB_91 : mB 91 = cX10_way := rfl
theorem mB_92 : mB 92 = cX10_twice := rfl
theorem mB_93 : mB 93 = cX10_find := rfl
theorem mB_94 : mB 94 = cX10_see := rfl
theorem mB_95 : mB 95 = cX10_note := rfl
theorem mB_96 : mB 96 = cX10_isSeenAfter := rfl
theorem mB_97 : mB 97 = cX10_which := rfl
theorem mB_98 : mB 98 = cX10_can := rfl
theorem mB_99 : mB 99 = cX10_odds := rfl
theorem mB_100 : mB 100 = cX10_mean := rfl
theorem mB_101 : mB 101 = cX10_partInLowest := rfl
theorem mB_102 : mB 102 = cX10_plan := rfl
theorem mB_103 : mB 103 = cX10_done := rfl
theorem mB_104 : mB 104 = cX10_doPlanned := rfl
theorem mB_105 : mB 105 = cX10_book := rfl
theorem mB_106 : mB 106 = cX10_looked := rfl
theorem mB_107 : mB 107 = cX10_judge := rfl
theorem mB_108 : mB 108 = cX10_image := rfl
theorem mB_109 : mB 109 = cX10_undo := rfl
theorem mB_110 : mB 110 = cX10_act := rfl
theorem mB_111 : mB 111 = cX10_trace := rfl
theorem mB_112 : mB 112 = cX10_taken := rfl
theorem mB_113 : mB 113 = cX10_isKindOrUnder := rfl
theorem mB_114 : mB 114 = cX10_count := rfl
theorem mB_115 : mB 115 = cX10_tape := rfl
theorem mB_116 : mB 116 = cX10_item := rfl
theorem mB_117 : mB 117 = cX10_read := rfl
theorem mB_118 : mB 118 = cX10_shift := rfl
theorem mB_119 : mB 119 = cX11_init := rfl
theorem mB_120 : mB 120 = cX11_in := rfl
theorem mB_121 : mB 121 = cX11_isTray := rfl
theorem mB_122 : mB 122 = cX11_tray := rfl
theorem mB_123 : mB 123 = cX11_of := rfl
theorem mB_124 : mB 124 = cX11_row := rfl
theorem mB_125 : mB 125 = cX11_feed := rfl
theorem mB_126 : mB 126 = cX11_next := rfl
theorem mB_127 : mB 127 = cX11_second := rfl
theorem mB_128 : mB 128 = cX11_takes := rfl
theorem mB_129 : mB 129 = cX11_takesWord := rfl
theorem mB_130 : mB 130 = cX11_isDigit := rfl
theorem mB_131 : mB 131 = cX11_takesNumber := rfl
theorem mB_132 : mB 132 = cX11_emits := rfl
theorem mB_133 : mB 133 = cX11_whole := rfl
theorem mB_134 : mB 134 = cX11_settle := rfl
theorem mB_135 : mB 135 = cX11_place := rfl
theorem mB_136 : mB 136 = cX11_takesTest := rfl
theorem mB_137 : mB 137 = cX11_takesE := rfl
theorem mB_138 : mB 138 = cX11_takesHead := rfl
theorem mB_139 : mB 139 = cX11_takesClause := rfl
theorem mB_140 : mB 140 = cX11_goesText := rfl
theorem mB_141 : mB 141 = cX11_job := rfl
theorem mB_142 : mB 142 = cX11_isJob := rfl
theorem mB_143 : mB 143 = cX11_lastOf := rfl
theorem mB_144 : mB 144 = cX11_first := rfl
theorem mB_145 : mB 145 = cX11_last := rfl
theorem mB_146 : mB 146 = cX11_jobs := rfl
theorem mB_147 : mB 147 = cX11_factOf := rfl
theorem mB_148 : mB 148 = cX11_holds := rfl
theorem mB_149 : mB 149 = cX11_anyHolds := rfl
theorem mB_150 : mB 150 = cX11_over := rfl
theorem mB_151 : mB 151 = cX11_about := rfl
theorem mB_152 : mB 152 = cX11_loads := rfl
theorem mB_153 : mB 153 = cX11_load := rfl
theorem mB_154 : mB 154 = cX11_empty := rfl
theorem mB_155 : mB 155 = cX11_turnsOver := rfl
theorem mB_156 : mB 156 = cX11_goWay := rfl
theorem mB_157 : mB 157 = cX11_isRight := rfl
theorem mB_158 : mB 158 = cX11_right := rfl
theorem mB_159 : mB 159 = cX11_sidesWith := rfl
theorem mB_160 : mB 160 = cX11_turn := rfl
theorem mB_161 : mB 161 = cX11_sheet := rfl
theorem mB_162 : mB 162 = cX11_missing := rfl
theorem mB_163 : mB 163 = cX11_told := rfl
theorem mB_164 : mB 164 = cX11_prints := rfl
theorem mB_165 : mB 165 = cX11_putsOut := rfl
theorem mB_166 : mB 166 = cX11_goesOn := rfl
theorem mB_167 : mB 167 = cX11_told1 := rfl
theorem mB_168 : mB 168 = cX11_goRun := rfl
theorem mB_169 : mB 169 = cX11_run := rfl
theorem mB_170 : mB 170 = cX11_save := rfl
theorem mB_171 : mB 171 = cX11_putBack := rfl
theorem mB_172 : mB 172 = cX11_after := rfl
theorem mB_173 : mB 173 = cX11_rightAfter := rfl
theorem mB_174 : mB 174 = cX11_best := rfl
theorem mB_175 : mB 175 = cX11_uses := rfl
theorem mB_176 : mB 176 = cX11_rightTwice := rfl
theorem mB_177 : mB 177 = cX11_way := rfl
theorem mB_178 : mB 178 = cX11_twice := rfl
theorem mB_179 : mB 179 = cX11_find := rfl
theorem mB_180 : mB 180 = cX11_isOn := rfl
theorem mB_181 : mB 181 = cX11_see := rfl
theorem mB_182 : mB 182 = cX11_on := rfl
theorem mB_183 : mB 183 = cX11_isSeenAfter := rfl
theorem mB_184 : mB 184 = cX11_which := rfl
theorem mB_185 : mB 185 = cX11_can := rfl
theorem mB_186 : mB 186 = cX11_divisor := rfl
theorem mB_187 : mB 187 = cX11_lowest := rfl
theorem mB_188 : mB 188 = cX11_odds := rfl
theorem mB_189 : mB 189 = cX11_mean := rfl
theorem mB_190 : mB 190 = cX11_plan := rfl
theorem mB_191 : mB 191 = cX11_goPlan := rfl
theorem mB_192 : mB 192 = cX11_done := rfl
theorem mB_193 : mB 193 = cX11_book := rfl
theorem mB_194 : mB 194 = cX11_looked := rfl
theorem mB_195 : mB 195 = cX11_judge := rfl
theorem mB_196 : mB 196 = cX11_image := rfl
theorem mB_197 : mB 197 = cX11_undo := rfl
theorem mB_198 : mB 198 = cX11_body := rfl
theorem mB_199 : mB 199 = cX11_trayFeeds := rfl
theorem mB_200 : mB 200 = cX11_feedsAct := rfl
theorem mB_201 : mB 201 = cX11_trayPrints := rfl
theorem mB_202 : mB 202 = cX11_flippingPrints := rfl
theorem mB_203 : mB 203 = cX11_printsAct := rfl
theorem mB_204 : mB 204 = cX11_trayTells := rfl
theorem mB_205 : mB 205 = cX11_tellsAct := rfl
theorem mB_206 : mB 206 = cX11_act := rfl
theorem mB_207 : mB 207 = cX11_trace := rfl
theorem mB_208 : mB 208 = cX11_taken := rfl
theorem mB_209 : mB 209 = cX11_count := rfl
theorem mB_210 : mB 210 = cX11_isTape := rfl
theorem mB_211 : mB 211 = cX11_tape := rfl
theorem mB_212 : mB 212 = cX11_narrow := rfl
theorem mB_213 : mB 213 = cX11_item := rfl
theorem mB_214 : mB 214 = cX11_read := rfl
theorem mB_215 : mB 215 = cX11_shift := rfl
theorem mB_216 : mB 216 = cJ0_charAt_5068e := rfl
theorem mB_217 : mB 217 = cJ0_indexOf_0f7a4 := rfl
theorem mB_218 : mB 218 = cJ0_indexOf_7cf53 := rfl
theorem mB_219 : mB 219 = cJ0_length_8abf5 := rfl
theorem mB_220 : mB 220 = cJ0_coder_7d493 := rfl
theorem mB_221 : mB 221 = cJ0_isLatin1_aae02 := rfl
theorem mB_222 : mB 222 = cJ0_checkIndex_df160 := rfl
theorem mB_223 : mB 223 = cJ1_charAt_3b067 := rfl
theorem mB_224 : mB 224 = cJ1_canEncode_9a6ad := rfl
theorem mB_225 : mB 225 = cJ1_indexOf_4cfef := rfl
theorem mB_226 : mB 226 = cJ1_indexOfChar_4cfef := rfl
theorem mB_227 : mB 227 = cJ9_max_7cf53 := rfl
theorem mB_228 : mB 228 = cJ9_min_7cf53 := rfl
theorem mB_229 : mB 229 = cJ7_fill_53178 := rfl
theorem mB_230 : mB 230 = cJ7_fill_d0a16 := rfl
theorem mB_231 : mB 231 = cJ7_copyOf_59c91 := rfl
theorem mB_232 : mB 232 = cJ3_checkIndex_8e157 := rfl
theorem mB_233 : mB 233 = object_method_1_code := rfl
theorem mB_234 : mB 234 = code := rfl
def q_cn : List String := [RX0, RX1, RX2, RX3, RX4, RX5, RX6, RX7, RX8, RX9, RX10, RX11, RJ0, RJ1, RJ9, RJ7, RJ3, RL, "java/lang/Object"]
def cN (c : Nat) : String := q_cn.getD c ""
def q_fl : List (Nat × (Nat × (Nat × (Nat × Nat)))) := [(0, 9, 0, 0, 289), (0, 15, 0, 1, 290), (0, 19, 0, 2, 292), (0, 22, 9, 0, 169), (0, 27, 0, 3, 293), (0, 28, 9, 1, 172), (0, 31, 0, 4, 294), (1, 9, 1, 0, 269), (1, 15, 1, 1, 270), (1, 19, 1, 2, 272), (1, 22, 2, 0, 575), (1, 27, 9, 0, 168), (1, 32, 4, 1, 125), (1, 41, 2, 1, 578), (1, 44, 4, 0, 123), (1, 51, 2, 3, 582), (1, 58, 9, 3, 177), (2, 9, 2, 0, 574), (2, 15, 2, 1, 577), (2, 18, 2, 2, 580), (2, 22, 2, 3, 581), (3, 7, 3, 0, 141), (3, 13, 3, 1, 144), (3, 16, 3, 2, 147), (3, 19, 3, 3, 150), (4, 9, 4, 0, 122), (4, 21, 4, 1, 124), (4, 55, 3, 3, 151), (4, 58, 3, 0, 142), (4, 61, 3, 1, 145), (4, 64, 3, 2, 148), (5, 9, 5, 0, 234), (5, 18, 5, 5, 241), (5, 22, 5, 6, 242), (5, 25, 5, 7, 243), (5, 28, 5, 2, 238), (5, 34, 5, 3, 239), (5, 37, 5, 4, 240), (5, 40, 7, 0, 226), (5, 43, 7, 1, 228), (5, 59, 5, 1, 236), (6, 12, 6, 0, 188), (6, 20, 6, 1, 190), (6, 29, 6, 3, 194), (6, 33, 6, 4, 196), (6, 36, 6, 5, 198), (6, 47, 6, 2, 192), (7, 9, 7, 0, 225), (7, 15, 7, 1, 227), (8, 9, 8, 0, 313), (8, 15, 8, 2, 317), (8, 19, 8, 1, 315), (9, 9, 9, 3, 176), (9, 15, 9, 0, 167), (9, 19, 9, 1, 171), (9, 22, 9, 2, 174), (10, 12, 10, 0, 327), (10, 18, 10, 1, 328), (10, 24, 10, 3, 330), (10, 30, 10, 4, 331), (10, 37, 10, 6, 333), (10, 44, 10, 7, 334), (10, 48, 10, 8, 335), (10, 54, 10, 9, 336), (10, 60, 10, 10, 337), (10, 65, 6, 2, 193), (10, 73, 10, 5, 332), (10, 76, 6, 0, 189), (10, 79, 4, 1, 126), (10, 86, 6, 1, 191), (10, 99, 9, 0, 170), (10, 102, 9, 1, 173), (10, 105, 9, 2, 175), (10, 108, 9, 3, 178), (10, 112, 5, 1, 237), (10, 113, 5, 0, 235), (10, 165, 2, 0, 576), (10, 168, 2, 1, 579), (10, 175, 1, 2, 273), (10, 189, 1, 1, 271), (10, 204, 6, 3, 195), (10, 212, 3, 3, 152), (10, 237, 6, 4, 197), (10, 240, 3, 0, 143), (10, 243, 3, 1, 146), (10, 246, 3, 2, 149), (10, 252, 6, 5, 199), (10, 261, 8, 0, 314), (10, 264, 8, 1, 316), (10, 267, 8, 2, 318), (10, 274, 10, 2, 329), (10, 294, 0, 1, 291), (11, 7, 11, 0, 957), (11, 13, 11, 1, 958), (11, 17, 11, 2, 959), (11, 20, 11, 3, 960), (11, 23, 11, 4, 961), (11, 26, 11, 5, 962), (11, 29, 11, 6, 963), (11, 32, 11, 7, 964), (11, 35, 11, 8, 965), (11, 38, 11, 9, 966), (11, 41, 11, 10, 967), (11, 44, 11, 11, 968), (11, 47, 11, 12, 969), (11, 50, 11, 13, 970), (11, 53, 11, 14, 971), (11, 56, 11, 15, 972), (11, 59, 11, 16, 973), (11, 62, 11, 17, 974), (11, 65, 11, 18, 975), (11, 68, 11, 19, 976), (11, 71, 11, 20, 977), (11, 74, 11, 21, 978), (11, 78, 11, 22, 979), (11, 81, 11, 23, 980), (11, 84, 11, 24, 981), (11, 87, 11, 25, 982), (11, 90, 11, 26, 983), (11, 93, 11, 27, 984), (11, 96, 11, 28, 985), (11, 99, 11, 29, 986), (11, 102, 11, 30, 987), (11, 105, 11, 31, 988), (11, 108, 11, 32, 989), (11, 111, 11, 33, 990), (11, 114, 11, 34, 991), (11, 117, 11, 35, 992), (11, 120, 11, 36, 993), (11, 123, 11, 37, 994), (11, 126, 11, 38, 995), (11, 129, 11, 39, 996), (11, 132, 11, 40, 997), (11, 135, 11, 41, 998), (11, 138, 11, 42, 999), (11, 141, 11, 43, 1000), (11, 144, 11, 44, 1001), (11, 148, 11, 45, 1002), (11, 151, 11, 46, 1003), (11, 154, 11, 47, 1004), (11, 157, 11, 48, 1005), (11, 160, 11, 49, 1006), (11, 163, 11, 50, 1007), (11, 166, 11, 51, 1008), (11, 169, 11, 52, 1009), (11, 172, 11, 53, 1010), (11, 175, 11, 54, 1011), (11, 178, 11, 55, 1012), (11, 181, 11, 56, 1013), (11, 184, 11, 57, 1014), (11, 187, 11, 58, 1015), (11, 190, 11, 59, 1016), (11, 193, 11, 60, 1017), (11, 196, 11, 61, 1018), (11, 199, 11, 62, 1019), (11, 202, 11, 63, 1020), (11, 205, 11, 64, 1021), (11, 208, 11, 65, 1022), (11, 211, 11, 66, 1023), (11, 214, 11, 67, 1024), (11, 218, 11, 68, 1025)]
def q_iv : List (Nat × (Nat × (Nat × (Nat × (Nat × Nat))))) := [(0, 32, 0, 5, 3, 882), (0, 36, 0, 6, 3, 890), (0, 39, 0, 7, 3, 894), (0, 42, 0, 4, 2, 886), (1, 37, 0, 15, 4, 694), (1, 47, 1, 10, 3, 707), (1, 54, 1, 16, 5, 710), (1, 61, 1, 228, 2, 711), (1, 67, 1, 11, 3, 712), (1, 71, 1, 12, 2, 715), (1, 74, 0, 13, 2, 720), (1, 78, 1, 25, 1, 718), (1, 82, 1, 26, 1, 719), (2, 25, 1, 16, 5, 698), (2, 29, 1, 17, 5, 701), (2, 33, 1, 18, 2, 704), (3, 23, 0, 20, 0, 788), (4, 26, 0, 27, 2, 640), (4, 30, 0, 30, 1, 636), (4, 34, 0, 28, 2, 669), (4, 37, 0, 32, 1, 674), (4, 41, 1, 228, 2, 605), (4, 46, 0, 37, 0, 621), (4, 49, 1, 26, 1, 628), (4, 52, 1, 25, 1, 625), (5, 17, 3, 54, 0, 221), (5, 46, 1, 231, 2, 556), (5, 52, 2, 14, 4, 570), (5, 55, 0, 43, 0, 399), (5, 60, 0, 51, 0, 451), (5, 64, 0, 49, 0, 403), (5, 67, 0, 44, 1, 455), (5, 71, 0, 45, 1, 466), (5, 74, 0, 55, 1, 546), (5, 78, 0, 50, 0, 459), (5, 81, 1, 227, 2, 448), (5, 87, 1, 228, 2, 463), (5, 90, 0, 46, 1, 470), (5, 93, 0, 47, 1, 474), (5, 96, 0, 48, 1, 478), (5, 101, 0, 217, 1, 483), (5, 111, 0, 216, 1, 408), (6, 11, 3, 23, 0, 118), (6, 26, 2, 19, 1, 137), (6, 39, 3, 61, 0, 163), (6, 40, 0, 24, 1, 856), (6, 44, 0, 63, 1, 857), (6, 51, 0, 22, 1, 862), (8, 22, 1, 230, 2, 927), (9, 25, 1, 229, 2, 372), (10, 11, 2, 52, 0, 112), (10, 23, 3, 39, 0, 215), (10, 36, 3, 8, 0, 265), (10, 43, 3, 23, 0, 282), (10, 53, 3, 0, 0, 285), (10, 64, 3, 56, 0, 309), (10, 69, 1, 65, 3, 365), (10, 82, 1, 71, 1, 683), (10, 90, 0, 62, 2, 368), (10, 96, 0, 66, 1, 379), (10, 116, 0, 42, 0, 395), (10, 120, 0, 41, 0, 550), (10, 124, 0, 40, 0, 593), (10, 128, 0, 35, 1, 601), (10, 132, 1, 70, 1, 614), (10, 135, 0, 36, 1, 617), (10, 138, 0, 31, 0, 632), (10, 141, 0, 68, 1, 648), (10, 144, 0, 28, 2, 652), (10, 148, 0, 29, 2, 656), (10, 152, 0, 30, 1, 660), (10, 155, 0, 32, 1, 665), (10, 159, 0, 33, 0, 670), (10, 162, 0, 67, 1, 679), (10, 171, 0, 9, 4, 690), (10, 178, 0, 24, 1, 732), (10, 182, 0, 85, 3, 728), (10, 186, 0, 86, 2, 741), (10, 192, 0, 87, 3, 753), (10, 196, 1, 227, 2, 761), (10, 201, 0, 34, 1, 766), (10, 208, 1, 95, 4, 774), (10, 215, 1, 72, 3, 777), (10, 218, 0, 20, 0, 780), (10, 221, 0, 21, 3, 784), (10, 224, 0, 38, 1, 797), (10, 228, 0, 96, 3, 793), (10, 233, 1, 101, 3, 810), (10, 249, 0, 104, 3, 825), (10, 255, 1, 69, 1, 841), (10, 258, 0, 57, 0, 844), (10, 271, 0, 53, 1, 852), (10, 278, 0, 1, 0, 874), (10, 281, 0, 2, 4, 878), (10, 285, 0, 3, 1, 902), (10, 288, 1, 113, 2, 910), (10, 295, 0, 59, 2, 923), (10, 296, 0, 58, 1, 934), (10, 299, 0, 60, 1, 938), (11, 221, 0, 120, 3, 1170), (11, 225, 0, 121, 1, 1178), (11, 229, 0, 126, 0, 1206), (11, 233, 0, 128, 1, 1214), (11, 236, 0, 130, 0, 1238), (11, 240, 0, 132, 1, 1242), (11, 244, 0, 135, 1, 1230), (11, 248, 0, 131, 0, 1234), (11, 251, 0, 133, 0, 1246), (11, 254, 0, 136, 0, 1226), (11, 257, 0, 134, 1, 1250), (11, 260, 0, 129, 2, 1210), (11, 264, 0, 127, 0, 1218), (11, 267, 0, 138, 1, 1202), (11, 270, 0, 137, 1, 1222), (11, 273, 0, 139, 1, 1198), (11, 276, 0, 140, 1, 1194), (11, 279, 0, 143, 3, 1266), (11, 283, 0, 142, 1, 1258), (11, 286, 0, 144, 1, 1262), (11, 289, 0, 145, 1, 1270), (11, 292, 0, 147, 4, 1350), (11, 296, 0, 148, 4, 1346), (11, 300, 0, 152, 1, 1278), (11, 303, 0, 150, 1, 1298), (11, 306, 0, 155, 0, 1294), (11, 309, 0, 151, 1, 1302), (11, 312, 0, 157, 1, 1310), (11, 315, 0, 156, 1, 1290), (11, 318, 0, 158, 0, 1306), (11, 321, 0, 159, 1, 1322), (11, 324, 0, 162, 0, 1326), (11, 327, 0, 149, 5, 1342), (11, 331, 0, 166, 3, 1338), (11, 334, 0, 167, 2, 1354), (11, 338, 0, 164, 3, 1358), (11, 342, 0, 165, 2, 1362), (11, 346, 0, 168, 2, 1334), (11, 349, 0, 170, 0, 1370), (11, 352, 0, 171, 0, 1374), (11, 355, 0, 172, 3, 1386), (11, 358, 0, 173, 2, 1382), (11, 361, 0, 176, 5, 1395), (11, 365, 0, 180, 3, 1411), (11, 368, 0, 182, 1, 1423), (11, 371, 0, 183, 2, 1419), (11, 374, 0, 186, 2, 1440), (11, 379, 0, 187, 3, 1436), (11, 383, 0, 191, 1, 1456), (11, 386, 0, 210, 1, 1472), (11, 389, 0, 198, 1, 1492), (11, 392, 0, 199, 2, 1496), (11, 395, 0, 200, 2, 1488), (11, 398, 0, 201, 2, 1508), (11, 401, 0, 202, 2, 1504), (11, 404, 0, 203, 2, 1500), (11, 407, 0, 204, 2, 1516), (11, 410, 0, 205, 2, 1512), (11, 413, 0, 212, 2, 1540), (12, 335, 0, 220, 0, 495), (12, 492, 0, 221, 0, 412), (12, 495, 1, 223, 2, 418), (12, 505, 0, 219, 0, 491), (12, 633, 0, 218, 2, 487), (12, 637, 1, 225, 4, 499), (12, 1059, 1, 232, 3, 426), (13, 9, 1, 222, 2, 421), (13, 38, 1, 228, 2, 506), (13, 88, 1, 224, 1, 502), (13, 92, 1, 227, 2, 505), (13, 95, 1, 226, 4, 507), (15, 304, 1, 228, 2, 566), (17, 9, 2, 64, 0, 104), (17, 12, 2, 119, 0, 953), (17, 13, 0, 73, 2, 361), (17, 17, 0, 122, 2, 1166), (17, 18, 0, 74, 2, 375), (17, 21, 0, 123, 2, 1174), (17, 22, 0, 75, 3, 383), (17, 26, 0, 124, 3, 1182), (17, 27, 0, 76, 1, 387), (17, 31, 0, 125, 1, 1186), (17, 32, 0, 77, 0, 391), (17, 36, 0, 141, 0, 1190), (17, 37, 0, 78, 1, 597), (17, 40, 0, 153, 1, 1274), (17, 41, 0, 79, 0, 606), (17, 44, 0, 154, 0, 1282), (17, 45, 0, 80, 1, 610), (17, 48, 0, 160, 1, 1286), (17, 49, 0, 81, 2, 644), (17, 52, 0, 161, 2, 1314), (17, 53, 0, 82, 1, 661), (17, 56, 0, 163, 1, 1318), (17, 57, 0, 83, 2, 675), (17, 60, 0, 146, 2, 1254), (17, 61, 0, 84, 2, 686), (17, 64, 0, 169, 2, 1330), (17, 65, 0, 88, 3, 724), (17, 68, 0, 172, 3, 1366), (17, 69, 0, 89, 1, 737), (17, 72, 0, 174, 1, 1378), (17, 73, 0, 90, 2, 745), (17, 76, 0, 175, 2, 1387), (17, 77, 0, 91, 5, 749), (17, 81, 0, 177, 5, 1391), (17, 82, 0, 92, 3, 757), (17, 85, 0, 178, 3, 1399), (17, 86, 0, 93, 1, 762), (17, 89, 0, 179, 1, 1403), (17, 90, 0, 94, 3, 770), (17, 93, 0, 181, 3, 1407), (17, 94, 0, 97, 1, 789), (17, 97, 0, 184, 1, 1415), (17, 98, 0, 98, 3, 801), (17, 101, 0, 185, 3, 1427), (17, 102, 0, 99, 3, 805), (17, 106, 0, 188, 3, 1431), (17, 107, 0, 100, 2, 813), (17, 111, 0, 189, 2, 1444), (17, 112, 0, 102, 3, 817), (17, 115, 0, 190, 3, 1448), (17, 116, 0, 103, 1, 821), (17, 119, 0, 192, 1, 1452), (17, 120, 0, 105, 3, 829), (17, 123, 0, 193, 3, 1460), (17, 124, 0, 106, 0, 833), (17, 127, 0, 194, 0, 1464), (17, 128, 0, 107, 2, 837), (17, 131, 0, 195, 2, 1468), (17, 132, 0, 108, 0, 848), (17, 135, 0, 196, 0, 1476), (17, 136, 0, 109, 0, 866), (17, 139, 0, 197, 0, 1480), (17, 140, 0, 110, 3, 870), (17, 143, 0, 206, 3, 1484), (17, 144, 0, 111, 1, 898), (17, 147, 0, 207, 1, 1520), (17, 148, 0, 112, 2, 906), (17, 151, 0, 208, 2, 1524), (17, 152, 0, 114, 1, 915), (17, 155, 0, 209, 1, 1528), (17, 156, 0, 115, 3, 919), (17, 159, 0, 211, 3, 1532), (17, 162, 0, 116, 3, 930), (17, 166, 0, 213, 3, 1536), (17, 167, 0, 117, 2, 942), (17, 170, 0, 214, 2, 1544), (17, 171, 0, 118, 5, 946), (17, 174, 0, 215, 5, 1548)]
def q_sp : List (Nat × (Nat × (Nat × Nat))) := [(0, 3, 5, 288), (1, 3, 5, 268), (2, 3, 5, 573), (3, 1, 5, 140), (4, 3, 5, 121), (4, 15, 6, 736), (5, 3, 5, 218), (6, 3, 5, 115), (7, 3, 5, 224), (8, 3, 5, 312), (9, 3, 5, 166), (9, 31, 6, 861), (10, 3, 5, 107), (10, 303, 6, 950), (11, 1, 5, 956), (15, 150, 6, 567)]
def q_nw : List (Nat × (Nat × (Nat × Nat))) := [(5, 15, 7, 219), (5, 32, 2, 554), (6, 9, 4, 116), (6, 18, 9, 133), (6, 24, 3, 135), (10, 9, 6, 110), (10, 21, 5, 213), (10, 34, 1, 263), (10, 41, 4, 281), (10, 51, 0, 283), (10, 58, 8, 306), (17, 7, 10, 102), (17, 10, 11, 951)]
def q_an : List (Nat × (Nat × (Nat × Nat))) := [(6, 18, 4, 133), (10, 28, 6, 261), (10, 58, 5, 306)]
def q_lc : List (Nat × (Nat × (Nat × (Int × Nat)))) := [(4, 25, 0, 32896, 631), (5, 109, 1, -10, 407), (5, 99, 1, -11, 482), (5, 107, 1, -12, 545)]
def q_l2 : List (Nat × (Nat × (Int × Nat))) := [(10, 231, -9223372036854775808, 809), (11, 377, -9223372036854775808, 1435), (17, 160, 4294967295, 1552)]
def q_gs : List (Nat × (Nat × (Nat × Nat))) := [(12, 38, 1, 416), (12, 1053, 2, 424), (10, 291, 0, 913)]
def q_sf : List (Nat × (Nat × (Nat × Nat))) := [(12, 15, 1, 1553), (12, 9, 0, 1554)]
def q_bs : List (Nat × Nat) := [(0, 10), (0, 6), (0, 4), (1, 12), (4, 5), (0, 3), (1, 5), (1, 5), (1, 5), (0, 3), (1, 6), (1, 6), (1, 6), (0, 3), (1, 8), (1, 8), (1, 8), (0, 9), (1, 4), (0, 9), (1, 4), (0, 9), (1, 4), (0, 9), (1, 4), (0, 9), (1, 4), (0, 6), (0, 4), (1, 12), (4, 5), (0, 3), (1, 5), (1, 5), (1, 5), (0, 3), (1, 6), (1, 6), (1, 6), (0, 3), (1, 8), (1, 8), (1, 8), (0, 9), (1, 4), (0, 9), (1, 4), (0, 9), (1, 4), (0, 9), (1, 4), (0, 9), (1, 4), (0, 5), (1, 100), (0, 7), (1, 100), (0, 7), (1, 100), (6, 6), (0, 1), (1, 12), (0, 4), (1, 12), (0, 4), (1, 12), (0, 0), (1, 20), (5, 6), (0, 8), (3, 60), (0, 8), (3, 60), (0, 8), (3, 60), (0, 8), (3, 60), (0, 8), (3, 60), (0, 8), (3, 60), (0, 11), (1, 5), (1, 5), (1, 5), (1, 20), (1, 100), (1, 6), (1, 60), (1, 60), (1, 60), (1, 60), (1, 600), (1, 101), (1, 16), (2, 100), (1, 24), (1, 24), (1, 24), (2, 24), (2, 24), (2, 24), (1, 24), (2, 24), (1, 5), (1, 5), (1, 6), (1, 6), (1, 6), (1, 8), (1, 8), (1, 24), (1, 5), (1, 5), (1, 5), (1, 20), (1, 5), (1, 5), (1, 6), (1, 6), (1, 6), (1, 8), (1, 8), (2, 24), (1, 20), (1, 6), (1, 6), (3, 360), (3, 60)]
def q_st : List (Int × (Int × Int)) := [(0, 0, 1), (0, 1, 27), (0, 3, 53), (0, 4, 59), (0, 6, 60), (0, 7, 62), (0, 8, 64), (0, 9, 66), (0, 10, 68), (1, 0, 2), (1, 1, 4), (1, 3, 5), (1, 4, 9), (1, 5, 13), (2, 0, 3), (4, 0, 17), (4, 1, 19), (4, 2, 21), (4, 3, 23), (4, 4, 25), (5, 0, 6), (5, 1, 7), (5, 2, 8), (9, 0, 10), (9, 1, 11), (9, 2, 12), (13, 0, 14), (13, 1, 15), (13, 2, 16), (17, 3, 18), (19, 3, 20), (21, 3, 22), (23, 3, 24), (25, 3, 26), (27, 0, 28), (27, 1, 30), (27, 3, 31), (27, 4, 35), (27, 5, 39), (28, 0, 29), (30, 0, 43), (30, 1, 45), (30, 2, 47), (30, 3, 49), (30, 4, 51), (31, 0, 32), (31, 1, 33), (31, 2, 34), (35, 0, 36), (35, 1, 37), (35, 2, 38), (39, 0, 40), (39, 1, 41), (39, 2, 42), (43, 3, 44), (45, 3, 46), (47, 3, 48), (49, 3, 50), (51, 3, 52), (53, 0, 54), (53, 5, 55), (53, 6, 57), (55, 0, 56), (57, 0, 58), (60, 0, 61), (62, 0, 63), (64, 0, 65), (66, 0, 67), (68, 0, 69), (68, 1, 71), (68, 2, 73), (68, 3, 75), (68, 4, 77), (68, 5, 79), (69, 2, 70), (71, 2, 72), (73, 2, 74), (75, 2, 76), (77, 2, 78), (79, 2, 80), (81, 1, 82), (81, 2, 83), (81, 3, 84), (81, 4, 85), (81, 9, 86), (81, 10, 87), (81, 11, 88), (81, 12, 89), (81, 13, 90), (81, 14, 91), (81, 15, 92), (81, 16, 93), (81, 20, 94), (81, 21, 95), (81, 23, 96), (81, 24, 97), (81, 25, 98), (81, 26, 99), (81, 27, 100), (81, 28, 101), (81, 32, 102), (81, 33, 103), (81, 35, 104), (81, 36, 105), (81, 39, 106), (81, 40, 107), (81, 41, 108), (81, 42, 109), (81, 43, 110), (81, 50, 111), (81, 51, 112), (81, 52, 113), (81, 53, 114), (81, 54, 115), (81, 55, 116), (81, 56, 117), (81, 57, 118), (81, 58, 119), (81, 59, 120), (81, 60, 121), (81, 61, 122), (81, 62, 123), (81, 64, 124), (81, 65, 125), (81, 66, 126), (81, 67, 127), (81, 68, 128)]
def q_ft : List (List Nat) := [[2, 0, 0, 0, 0], [2, 0, 0], [0, 0, 2, 2], [2, 2, 2, 0], [2, 0], [2, 0, 0, 0, 0, 2, 2, 2], [2, 2, 0, 2, 2, 2], [2, 0], [0, 0, 2], [0, 0, 0, 2], [2, 2, 3, 2, 2, 0, 2, 2, 2, 2, 2], [0, 2, 2, 2, 2, 0, 0, 0, 0, 2, 2, 2, 2, 2, 2, 2, 2, 0, 0, 0, 2, 2, 0, 2, 2, 2, 2, 2, 2, 0, 0, 0, 2, 2, 0, 2, 2, 0, 0, 2, 2, 2, 2, 2, 3, 0, 0, 0, 0, 0, 2, 2, 2, 2, 2, 2, 2, 2, 2, 2, 2, 2, 2, 0, 2, 2, 2, 2, 2]]
def q_fn : List (List Bool) := [[true, false, false, false, false], [true, false, false], [true, true, true, true], [true, true, true, false], [true, false], [true, false, false, false, false, true, true, false], [true, true, false, true, true, true], [true, false], [false, false, true], [false, false, false, true], [true, true, false, true, true, false, true, true, true, true, true], [false, true, true, true, true, false, false, false, false, true, true, true, true, true, true, true, true, false, false, false, true, true, false, true, true, true, true, true, true, false, false, false, true, true, false, true, true, false, false, true, true, true, true, true, false, false, false, false, false, false, true, true, true, true, true, true, true, true, true, true, true, true, true, false, true, true, true, true, true]]
