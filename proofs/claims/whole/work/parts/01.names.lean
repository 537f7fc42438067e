def lw_okq (q : MethodName × Nat) : Prop := (q.1.cls ≠ "java/lang/invoke/MethodHandle" ∧ q.1.cls ≠ "java/lang/invoke/VarHandle") ∧ Cond.instantiable q.1.cls q.2 ∈ tables_1 ∧ Cond.privateMethod q.1 ∈ tables_1 ∧ Cond.instanceMethod q.1 ∈ tables_1
theorem lw_p0 : lw_okq (⟨"BothSidesSheet", "isTray", "(I)Z"⟩, 11) := ⟨⟨by decide +kernel, by decide +kernel⟩, List.mem_of_getElem? (i := 22) (by decide +kernel), List.mem_of_getElem? (i := 299) (by decide +kernel), List.mem_of_getElem? (i := 300) (by decide +kernel)⟩
theorem lw_p1 : lw_okq (⟨"BothSidesSheet$Reader", "clause", "()Z"⟩, 8) := ⟨⟨by decide +kernel, by decide +kernel⟩, List.mem_of_getElem? (i := 133) (by decide +kernel), List.mem_of_getElem? (i := 319) (by decide +kernel), List.mem_of_getElem? (i := 320) (by decide +kernel)⟩
theorem lw_p2 : lw_okq (⟨"BothSidesSheet$Reader", "word", "()I"⟩, 8) := ⟨⟨by decide +kernel, by decide +kernel⟩, List.mem_of_getElem? (i := 133) (by decide +kernel), List.mem_of_getElem? (i := 323) (by decide +kernel), List.mem_of_getElem? (i := 324) (by decide +kernel)⟩
theorem lw_p3 : lw_okq (⟨"BothSidesSheet$Reader", "sign", "()I"⟩, 8) := ⟨⟨by decide +kernel, by decide +kernel⟩, List.mem_of_getElem? (i := 133) (by decide +kernel), List.mem_of_getElem? (i := 371) (by decide +kernel), List.mem_of_getElem? (i := 372) (by decide +kernel)⟩
theorem lw_p4 : lw_okq (⟨"BothSidesSheet$Reader", "bound", "(I)Z"⟩, 8) := ⟨⟨by decide +kernel, by decide +kernel⟩, List.mem_of_getElem? (i := 133) (by decide +kernel), List.mem_of_getElem? (i := 375) (by decide +kernel), List.mem_of_getElem? (i := 376) (by decide +kernel)⟩
theorem lw_p5 : lw_okq (⟨"BothSidesSheet$Reader", "number", "()I"⟩, 8) := ⟨⟨by decide +kernel, by decide +kernel⟩, List.mem_of_getElem? (i := 133) (by decide +kernel), List.mem_of_getElem? (i := 379) (by decide +kernel), List.mem_of_getElem? (i := 380) (by decide +kernel)⟩
theorem lw_p6 : lw_okq (⟨"BothSidesSheet$Reader", "anyOf", "(I)Z"⟩, 8) := ⟨⟨by decide +kernel, by decide +kernel⟩, List.mem_of_getElem? (i := 133) (by decide +kernel), List.mem_of_getElem? (i := 386) (by decide +kernel), List.mem_of_getElem? (i := 387) (by decide +kernel)⟩
theorem lw_p7 : lw_okq (⟨"BothSidesSheet$Reader", "allOf", "(I)Z"⟩, 8) := ⟨⟨by decide +kernel, by decide +kernel⟩, List.mem_of_getElem? (i := 133) (by decide +kernel), List.mem_of_getElem? (i := 390) (by decide +kernel), List.mem_of_getElem? (i := 391) (by decide +kernel)⟩
theorem lw_p8 : lw_okq (⟨"BothSidesSheet$Reader", "one", "(I)Z"⟩, 8) := ⟨⟨by decide +kernel, by decide +kernel⟩, List.mem_of_getElem? (i := 133) (by decide +kernel), List.mem_of_getElem? (i := 394) (by decide +kernel), List.mem_of_getElem? (i := 395) (by decide +kernel)⟩
theorem lw_p9 : lw_okq (⟨"BothSidesSheet$Reader", "test", "(I)Z"⟩, 8) := ⟨⟨by decide +kernel, by decide +kernel⟩, List.mem_of_getElem? (i := 133) (by decide +kernel), List.mem_of_getElem? (i := 398) (by decide +kernel), List.mem_of_getElem? (i := 399) (by decide +kernel)⟩
theorem lw_p10 : lw_okq (⟨"BothSidesSheet$Pile", "turnWhole", "()V"⟩, 2) := ⟨⟨by decide +kernel, by decide +kernel⟩, List.mem_of_getElem? (i := 36) (by decide +kernel), List.mem_of_getElem? (i := 541) (by decide +kernel), List.mem_of_getElem? (i := 542) (by decide +kernel)⟩
theorem lw_p11 : lw_okq (⟨"BothSidesSheet", "isSheet", "(I)Z"⟩, 11) := ⟨⟨by decide +kernel, by decide +kernel⟩, List.mem_of_getElem? (i := 22) (by decide +kernel), List.mem_of_getElem? (i := 568) (by decide +kernel), List.mem_of_getElem? (i := 569) (by decide +kernel)⟩
theorem lw_p12 : lw_okq (⟨"BothSidesSheet", "isJob", "(I)Z"⟩, 11) := ⟨⟨by decide +kernel, by decide +kernel⟩, List.mem_of_getElem? (i := 22) (by decide +kernel), List.mem_of_getElem? (i := 599) (by decide +kernel), List.mem_of_getElem? (i := 600) (by decide +kernel)⟩
theorem lw_p13 : lw_okq (⟨"BothSidesSheet$Copier", "gather", "(LBothSidesSheet$Pile;I)V"⟩, 3) := ⟨⟨by decide +kernel, by decide +kernel⟩, List.mem_of_getElem? (i := 183) (by decide +kernel), List.mem_of_getElem? (i := 640) (by decide +kernel), List.mem_of_getElem? (i := 641) (by decide +kernel)⟩
theorem lw_p14 : lw_okq (⟨"BothSidesSheet", "tryRun", "(III)V"⟩, 11) := ⟨⟨by decide +kernel, by decide +kernel⟩, List.mem_of_getElem? (i := 22) (by decide +kernel), List.mem_of_getElem? (i := 648) (by decide +kernel), List.mem_of_getElem? (i := 649) (by decide +kernel)⟩
theorem lw_p15 : lw_okq (⟨"BothSidesSheet", "rightsAfter", "(II)I"⟩, 11) := ⟨⟨by decide +kernel, by decide +kernel⟩, List.mem_of_getElem? (i := 22) (by decide +kernel), List.mem_of_getElem? (i := 661) (by decide +kernel), List.mem_of_getElem? (i := 662) (by decide +kernel)⟩
def lw_privs_1 : List (MethodName × Nat) := [(⟨"BothSidesSheet", "isTray", "(I)Z"⟩, 11), (⟨"BothSidesSheet$Reader", "clause", "()Z"⟩, 8), (⟨"BothSidesSheet$Reader", "word", "()I"⟩, 8), (⟨"BothSidesSheet$Reader", "sign", "()I"⟩, 8), (⟨"BothSidesSheet$Reader", "bound", "(I)Z"⟩, 8), (⟨"BothSidesSheet$Reader", "number", "()I"⟩, 8), (⟨"BothSidesSheet$Reader", "anyOf", "(I)Z"⟩, 8), (⟨"BothSidesSheet$Reader", "allOf", "(I)Z"⟩, 8), (⟨"BothSidesSheet$Reader", "one", "(I)Z"⟩, 8), (⟨"BothSidesSheet$Reader", "test", "(I)Z"⟩, 8), (⟨"BothSidesSheet$Pile", "turnWhole", "()V"⟩, 2), (⟨"BothSidesSheet", "isSheet", "(I)Z"⟩, 11), (⟨"BothSidesSheet", "isJob", "(I)Z"⟩, 11), (⟨"BothSidesSheet$Copier", "gather", "(LBothSidesSheet$Pile;I)V"⟩, 3), (⟨"BothSidesSheet", "tryRun", "(III)V"⟩, 11), (⟨"BothSidesSheet", "rightsAfter", "(II)I"⟩, 11)]
theorem lw_r1 : ∀ q ∈ lw_privs_1, lw_okq q := List.forall_mem_cons.mpr ⟨lw_p0, List.forall_mem_cons.mpr ⟨lw_p1, List.forall_mem_cons.mpr ⟨lw_p2, List.forall_mem_cons.mpr ⟨lw_p3, List.forall_mem_cons.mpr ⟨lw_p4, List.forall_mem_cons.mpr ⟨lw_p5, List.forall_mem_cons.mpr ⟨lw_p6, List.forall_mem_cons.mpr ⟨lw_p7, List.forall_mem_cons.mpr ⟨lw_p8, List.forall_mem_cons.mpr ⟨lw_p9, List.forall_mem_cons.mpr ⟨lw_p10, List.forall_mem_cons.mpr ⟨lw_p11, List.forall_mem_cons.mpr ⟨lw_p12, List.forall_mem_cons.mpr ⟨lw_p13, List.forall_mem_cons.mpr ⟨lw_p14, List.forall_mem_cons.mpr ⟨lw_p15, fun _ h => absurd h List.not_mem_nil⟩⟩⟩⟩⟩⟩⟩⟩⟩⟩⟩⟩⟩⟩⟩⟩
theorem lw_p16 : lw_okq (⟨"BothSidesSheet", "rightsBehind", "(III)I"⟩, 11) := ⟨⟨by decide +kernel, by decide +kernel⟩, List.mem_of_getElem? (i := 22) (by decide +kernel), List.mem_of_getElem? (i := 673) (by decide +kernel), List.mem_of_getElem? (i := 674) (by decide +kernel)⟩
theorem lw_p17 : lw_okq (⟨"BothSidesSheet", "isSeenAfter", "(III)Z"⟩, 11) := ⟨⟨by decide +kernel, by decide +kernel⟩, List.mem_of_getElem? (i := 22) (by decide +kernel), List.mem_of_getElem? (i := 713) (by decide +kernel), List.mem_of_getElem? (i := 714) (by decide +kernel)⟩
theorem lw_p18 : lw_okq (⟨"BothSidesSheet", "doPlanned", "(III)V"⟩, 11) := ⟨⟨by decide +kernel, by decide +kernel⟩, List.mem_of_getElem? (i := 22) (by decide +kernel), List.mem_of_getElem? (i := 745) (by decide +kernel), List.mem_of_getElem? (i := 746) (by decide +kernel)⟩
theorem lw_p19 : lw_okq (⟨"BothSidesSheet$Acts", "feeds", "(III)I"⟩, 5) := ⟨⟨by decide +kernel, by decide +kernel⟩, List.mem_of_getElem? (i := 203) (by decide +kernel), List.mem_of_getElem? (i := 802) (by decide +kernel), List.mem_of_getElem? (i := 803) (by decide +kernel)⟩
theorem lw_p20 : lw_okq (⟨"BothSidesSheet$Acts", "begins", "(II)Z"⟩, 5) := ⟨⟨by decide +kernel, by decide +kernel⟩, List.mem_of_getElem? (i := 203) (by decide +kernel), List.mem_of_getElem? (i := 806) (by decide +kernel), List.mem_of_getElem? (i := 807) (by decide +kernel)⟩
theorem lw_p21 : lw_okq (⟨"BothSidesSheet$Acts", "prints", "(III)I"⟩, 5) := ⟨⟨by decide +kernel, by decide +kernel⟩, List.mem_of_getElem? (i := 203) (by decide +kernel), List.mem_of_getElem? (i := 810) (by decide +kernel), List.mem_of_getElem? (i := 811) (by decide +kernel)⟩
theorem lw_p22 : lw_okq (⟨"BothSidesSheet$Acts", "tells", "(III)I"⟩, 5) := ⟨⟨by decide +kernel, by decide +kernel⟩, List.mem_of_getElem? (i := 203) (by decide +kernel), List.mem_of_getElem? (i := 814) (by decide +kernel), List.mem_of_getElem? (i := 815) (by decide +kernel)⟩
theorem lw_p23 : lw_okq (⟨"BothSidesSheetModel", "in", "(III)Z"⟩, 69) := ⟨⟨by decide +kernel, by decide +kernel⟩, List.mem_of_getElem? (i := 871) (by decide +kernel), List.mem_of_getElem? (i := 1090) (by decide +kernel), List.mem_of_getElem? (i := 1091) (by decide +kernel)⟩
theorem lw_p24 : lw_okq (⟨"BothSidesSheetModel", "isTray", "(I)Z"⟩, 69) := ⟨⟨by decide +kernel, by decide +kernel⟩, List.mem_of_getElem? (i := 871) (by decide +kernel), List.mem_of_getElem? (i := 1098) (by decide +kernel), List.mem_of_getElem? (i := 1099) (by decide +kernel)⟩
theorem lw_p25 : lw_okq (⟨"BothSidesSheetModel", "goesText", "(I)Z"⟩, 69) := ⟨⟨by decide +kernel, by decide +kernel⟩, List.mem_of_getElem? (i := 871) (by decide +kernel), List.mem_of_getElem? (i := 1114) (by decide +kernel), List.mem_of_getElem? (i := 1115) (by decide +kernel)⟩
theorem lw_p26 : lw_okq (⟨"BothSidesSheetModel", "takesClause", "(I)Z"⟩, 69) := ⟨⟨by decide +kernel, by decide +kernel⟩, List.mem_of_getElem? (i := 871) (by decide +kernel), List.mem_of_getElem? (i := 1118) (by decide +kernel), List.mem_of_getElem? (i := 1119) (by decide +kernel)⟩
theorem lw_p27 : lw_okq (⟨"BothSidesSheetModel", "takesHead", "(I)Z"⟩, 69) := ⟨⟨by decide +kernel, by decide +kernel⟩, List.mem_of_getElem? (i := 871) (by decide +kernel), List.mem_of_getElem? (i := 1122) (by decide +kernel), List.mem_of_getElem? (i := 1123) (by decide +kernel)⟩
theorem lw_p28 : lw_okq (⟨"BothSidesSheetModel", "next", "()I"⟩, 69) := ⟨⟨by decide +kernel, by decide +kernel⟩, List.mem_of_getElem? (i := 871) (by decide +kernel), List.mem_of_getElem? (i := 1126) (by decide +kernel), List.mem_of_getElem? (i := 1127) (by decide +kernel)⟩
theorem lw_p29 : lw_okq (⟨"BothSidesSheetModel", "takesWord", "(II)Z"⟩, 69) := ⟨⟨by decide +kernel, by decide +kernel⟩, List.mem_of_getElem? (i := 871) (by decide +kernel), List.mem_of_getElem? (i := 1130) (by decide +kernel), List.mem_of_getElem? (i := 1131) (by decide +kernel)⟩
theorem lw_p30 : lw_okq (⟨"BothSidesSheetModel", "takes", "(I)Z"⟩, 69) := ⟨⟨by decide +kernel, by decide +kernel⟩, List.mem_of_getElem? (i := 871) (by decide +kernel), List.mem_of_getElem? (i := 1134) (by decide +kernel), List.mem_of_getElem? (i := 1135) (by decide +kernel)⟩
theorem lw_p31 : lw_okq (⟨"BothSidesSheetModel", "second", "()I"⟩, 69) := ⟨⟨by decide +kernel, by decide +kernel⟩, List.mem_of_getElem? (i := 871) (by decide +kernel), List.mem_of_getElem? (i := 1138) (by decide +kernel), List.mem_of_getElem? (i := 1139) (by decide +kernel)⟩
def lw_privs_2 : List (MethodName × Nat) := [(⟨"BothSidesSheet", "rightsBehind", "(III)I"⟩, 11), (⟨"BothSidesSheet", "isSeenAfter", "(III)Z"⟩, 11), (⟨"BothSidesSheet", "doPlanned", "(III)V"⟩, 11), (⟨"BothSidesSheet$Acts", "feeds", "(III)I"⟩, 5), (⟨"BothSidesSheet$Acts", "begins", "(II)Z"⟩, 5), (⟨"BothSidesSheet$Acts", "prints", "(III)I"⟩, 5), (⟨"BothSidesSheet$Acts", "tells", "(III)I"⟩, 5), (⟨"BothSidesSheetModel", "in", "(III)Z"⟩, 69), (⟨"BothSidesSheetModel", "isTray", "(I)Z"⟩, 69), (⟨"BothSidesSheetModel", "goesText", "(I)Z"⟩, 69), (⟨"BothSidesSheetModel", "takesClause", "(I)Z"⟩, 69), (⟨"BothSidesSheetModel", "takesHead", "(I)Z"⟩, 69), (⟨"BothSidesSheetModel", "next", "()I"⟩, 69), (⟨"BothSidesSheetModel", "takesWord", "(II)Z"⟩, 69), (⟨"BothSidesSheetModel", "takes", "(I)Z"⟩, 69), (⟨"BothSidesSheetModel", "second", "()I"⟩, 69)]
theorem lw_r2 : ∀ q ∈ lw_privs_2, lw_okq q := List.forall_mem_cons.mpr ⟨lw_p16, List.forall_mem_cons.mpr ⟨lw_p17, List.forall_mem_cons.mpr ⟨lw_p18, List.forall_mem_cons.mpr ⟨lw_p19, List.forall_mem_cons.mpr ⟨lw_p20, List.forall_mem_cons.mpr ⟨lw_p21, List.forall_mem_cons.mpr ⟨lw_p22, List.forall_mem_cons.mpr ⟨lw_p23, List.forall_mem_cons.mpr ⟨lw_p24, List.forall_mem_cons.mpr ⟨lw_p25, List.forall_mem_cons.mpr ⟨lw_p26, List.forall_mem_cons.mpr ⟨lw_p27, List.forall_mem_cons.mpr ⟨lw_p28, List.forall_mem_cons.mpr ⟨lw_p29, List.forall_mem_cons.mpr ⟨lw_p30, List.forall_mem_cons.mpr ⟨lw_p31, fun _ h => absurd h List.not_mem_nil⟩⟩⟩⟩⟩⟩⟩⟩⟩⟩⟩⟩⟩⟩⟩⟩
theorem lw_p32 : lw_okq (⟨"BothSidesSheetModel", "takesE", "(I)Z"⟩, 69) := ⟨⟨by decide +kernel, by decide +kernel⟩, List.mem_of_getElem? (i := 871) (by decide +kernel), List.mem_of_getElem? (i := 1142) (by decide +kernel), List.mem_of_getElem? (i := 1143) (by decide +kernel)⟩
theorem lw_p33 : lw_okq (⟨"BothSidesSheetModel", "takesTest", "()Z"⟩, 69) := ⟨⟨by decide +kernel, by decide +kernel⟩, List.mem_of_getElem? (i := 871) (by decide +kernel), List.mem_of_getElem? (i := 1146) (by decide +kernel), List.mem_of_getElem? (i := 1147) (by decide +kernel)⟩
theorem lw_p34 : lw_okq (⟨"BothSidesSheetModel", "place", "(I)I"⟩, 69) := ⟨⟨by decide +kernel, by decide +kernel⟩, List.mem_of_getElem? (i := 871) (by decide +kernel), List.mem_of_getElem? (i := 1150) (by decide +kernel), List.mem_of_getElem? (i := 1151) (by decide +kernel)⟩
theorem lw_p35 : lw_okq (⟨"BothSidesSheetModel", "takesNumber", "()Z"⟩, 69) := ⟨⟨by decide +kernel, by decide +kernel⟩, List.mem_of_getElem? (i := 871) (by decide +kernel), List.mem_of_getElem? (i := 1154) (by decide +kernel), List.mem_of_getElem? (i := 1155) (by decide +kernel)⟩
theorem lw_p36 : lw_okq (⟨"BothSidesSheetModel", "isDigit", "()Z"⟩, 69) := ⟨⟨by decide +kernel, by decide +kernel⟩, List.mem_of_getElem? (i := 871) (by decide +kernel), List.mem_of_getElem? (i := 1158) (by decide +kernel), List.mem_of_getElem? (i := 1159) (by decide +kernel)⟩
theorem lw_p37 : lw_okq (⟨"BothSidesSheetModel", "emits", "(I)V"⟩, 69) := ⟨⟨by decide +kernel, by decide +kernel⟩, List.mem_of_getElem? (i := 871) (by decide +kernel), List.mem_of_getElem? (i := 1162) (by decide +kernel), List.mem_of_getElem? (i := 1163) (by decide +kernel)⟩
theorem lw_p38 : lw_okq (⟨"BothSidesSheetModel", "whole", "()V"⟩, 69) := ⟨⟨by decide +kernel, by decide +kernel⟩, List.mem_of_getElem? (i := 871) (by decide +kernel), List.mem_of_getElem? (i := 1166) (by decide +kernel), List.mem_of_getElem? (i := 1167) (by decide +kernel)⟩
theorem lw_p39 : lw_okq (⟨"BothSidesSheetModel", "settle", "(I)V"⟩, 69) := ⟨⟨by decide +kernel, by decide +kernel⟩, List.mem_of_getElem? (i := 871) (by decide +kernel), List.mem_of_getElem? (i := 1170) (by decide +kernel), List.mem_of_getElem? (i := 1171) (by decide +kernel)⟩
theorem lw_p40 : lw_okq (⟨"BothSidesSheetModel", "isJob", "(I)Z"⟩, 69) := ⟨⟨by decide +kernel, by decide +kernel⟩, List.mem_of_getElem? (i := 871) (by decide +kernel), List.mem_of_getElem? (i := 1178) (by decide +kernel), List.mem_of_getElem? (i := 1179) (by decide +kernel)⟩
theorem lw_p41 : lw_okq (⟨"BothSidesSheetModel", "first", "(I)I"⟩, 69) := ⟨⟨by decide +kernel, by decide +kernel⟩, List.mem_of_getElem? (i := 871) (by decide +kernel), List.mem_of_getElem? (i := 1182) (by decide +kernel), List.mem_of_getElem? (i := 1183) (by decide +kernel)⟩
theorem lw_p42 : lw_okq (⟨"BothSidesSheetModel", "lastOf", "(III)I"⟩, 69) := ⟨⟨by decide +kernel, by decide +kernel⟩, List.mem_of_getElem? (i := 871) (by decide +kernel), List.mem_of_getElem? (i := 1186) (by decide +kernel), List.mem_of_getElem? (i := 1187) (by decide +kernel)⟩
theorem lw_p43 : lw_okq (⟨"BothSidesSheetModel", "last", "(I)I"⟩, 69) := ⟨⟨by decide +kernel, by decide +kernel⟩, List.mem_of_getElem? (i := 871) (by decide +kernel), List.mem_of_getElem? (i := 1190) (by decide +kernel), List.mem_of_getElem? (i := 1191) (by decide +kernel)⟩
theorem lw_p44 : lw_okq (⟨"BothSidesSheetModel", "loads", "(I)V"⟩, 69) := ⟨⟨by decide +kernel, by decide +kernel⟩, List.mem_of_getElem? (i := 871) (by decide +kernel), List.mem_of_getElem? (i := 1198) (by decide +kernel), List.mem_of_getElem? (i := 1199) (by decide +kernel)⟩
theorem lw_p45 : lw_okq (⟨"BothSidesSheetModel", "goWay", "(I)V"⟩, 69) := ⟨⟨by decide +kernel, by decide +kernel⟩, List.mem_of_getElem? (i := 871) (by decide +kernel), List.mem_of_getElem? (i := 1210) (by decide +kernel), List.mem_of_getElem? (i := 1211) (by decide +kernel)⟩
theorem lw_p46 : lw_okq (⟨"BothSidesSheetModel", "turnsOver", "()V"⟩, 69) := ⟨⟨by decide +kernel, by decide +kernel⟩, List.mem_of_getElem? (i := 871) (by decide +kernel), List.mem_of_getElem? (i := 1214) (by decide +kernel), List.mem_of_getElem? (i := 1215) (by decide +kernel)⟩
theorem lw_p47 : lw_okq (⟨"BothSidesSheetModel", "over", "(I)V"⟩, 69) := ⟨⟨by decide +kernel, by decide +kernel⟩, List.mem_of_getElem? (i := 871) (by decide +kernel), List.mem_of_getElem? (i := 1218) (by decide +kernel), List.mem_of_getElem? (i := 1219) (by decide +kernel)⟩
def lw_privs_3 : List (MethodName × Nat) := [(⟨"BothSidesSheetModel", "takesE", "(I)Z"⟩, 69), (⟨"BothSidesSheetModel", "takesTest", "()Z"⟩, 69), (⟨"BothSidesSheetModel", "place", "(I)I"⟩, 69), (⟨"BothSidesSheetModel", "takesNumber", "()Z"⟩, 69), (⟨"BothSidesSheetModel", "isDigit", "()Z"⟩, 69), (⟨"BothSidesSheetModel", "emits", "(I)V"⟩, 69), (⟨"BothSidesSheetModel", "whole", "()V"⟩, 69), (⟨"BothSidesSheetModel", "settle", "(I)V"⟩, 69), (⟨"BothSidesSheetModel", "isJob", "(I)Z"⟩, 69), (⟨"BothSidesSheetModel", "first", "(I)I"⟩, 69), (⟨"BothSidesSheetModel", "lastOf", "(III)I"⟩, 69), (⟨"BothSidesSheetModel", "last", "(I)I"⟩, 69), (⟨"BothSidesSheetModel", "loads", "(I)V"⟩, 69), (⟨"BothSidesSheetModel", "goWay", "(I)V"⟩, 69), (⟨"BothSidesSheetModel", "turnsOver", "()V"⟩, 69), (⟨"BothSidesSheetModel", "over", "(I)V"⟩, 69)]
theorem lw_r3 : ∀ q ∈ lw_privs_3, lw_okq q := List.forall_mem_cons.mpr ⟨lw_p32, List.forall_mem_cons.mpr ⟨lw_p33, List.forall_mem_cons.mpr ⟨lw_p34, List.forall_mem_cons.mpr ⟨lw_p35, List.forall_mem_cons.mpr ⟨lw_p36, List.forall_mem_cons.mpr ⟨lw_p37, List.forall_mem_cons.mpr ⟨lw_p38, List.forall_mem_cons.mpr ⟨lw_p39, List.forall_mem_cons.mpr ⟨lw_p40, List.forall_mem_cons.mpr ⟨lw_p41, List.forall_mem_cons.mpr ⟨lw_p42, List.forall_mem_cons.mpr ⟨lw_p43, List.forall_mem_cons.mpr ⟨lw_p44, List.forall_mem_cons.mpr ⟨lw_p45, List.forall_mem_cons.mpr ⟨lw_p46, List.forall_mem_cons.mpr ⟨lw_p47, fun _ h => absurd h List.not_mem_nil⟩⟩⟩⟩⟩⟩⟩⟩⟩⟩⟩⟩⟩⟩⟩⟩
theorem lw_p48 : lw_okq (⟨"BothSidesSheetModel", "about", "(I)V"⟩, 69) := ⟨⟨by decide +kernel, by decide +kernel⟩, List.mem_of_getElem? (i := 871) (by decide +kernel), List.mem_of_getElem? (i := 1222) (by decide +kernel), List.mem_of_getElem? (i := 1223) (by decide +kernel)⟩
theorem lw_p49 : lw_okq (⟨"BothSidesSheetModel", "right", "()I"⟩, 69) := ⟨⟨by decide +kernel, by decide +kernel⟩, List.mem_of_getElem? (i := 871) (by decide +kernel), List.mem_of_getElem? (i := 1226) (by decide +kernel), List.mem_of_getElem? (i := 1227) (by decide +kernel)⟩
theorem lw_p50 : lw_okq (⟨"BothSidesSheetModel", "isRight", "(I)Z"⟩, 69) := ⟨⟨by decide +kernel, by decide +kernel⟩, List.mem_of_getElem? (i := 871) (by decide +kernel), List.mem_of_getElem? (i := 1230) (by decide +kernel), List.mem_of_getElem? (i := 1231) (by decide +kernel)⟩
theorem lw_p51 : lw_okq (⟨"BothSidesSheetModel", "sidesWith", "(I)I"⟩, 69) := ⟨⟨by decide +kernel, by decide +kernel⟩, List.mem_of_getElem? (i := 871) (by decide +kernel), List.mem_of_getElem? (i := 1242) (by decide +kernel), List.mem_of_getElem? (i := 1243) (by decide +kernel)⟩
theorem lw_p52 : lw_okq (⟨"BothSidesSheetModel", "missing", "()I"⟩, 69) := ⟨⟨by decide +kernel, by decide +kernel⟩, List.mem_of_getElem? (i := 871) (by decide +kernel), List.mem_of_getElem? (i := 1246) (by decide +kernel), List.mem_of_getElem? (i := 1247) (by decide +kernel)⟩
theorem lw_p53 : lw_okq (⟨"BothSidesSheetModel", "goRun", "(II)V"⟩, 69) := ⟨⟨by decide +kernel, by decide +kernel⟩, List.mem_of_getElem? (i := 871) (by decide +kernel), List.mem_of_getElem? (i := 1254) (by decide +kernel), List.mem_of_getElem? (i := 1255) (by decide +kernel)⟩
theorem lw_p54 : lw_okq (⟨"BothSidesSheetModel", "goesOn", "(III)I"⟩, 69) := ⟨⟨by decide +kernel, by decide +kernel⟩, List.mem_of_getElem? (i := 871) (by decide +kernel), List.mem_of_getElem? (i := 1258) (by decide +kernel), List.mem_of_getElem? (i := 1259) (by decide +kernel)⟩
theorem lw_p55 : lw_okq (⟨"BothSidesSheetModel", "anyHolds", "(IIIII)Z"⟩, 69) := ⟨⟨by decide +kernel, by decide +kernel⟩, List.mem_of_getElem? (i := 871) (by decide +kernel), List.mem_of_getElem? (i := 1262) (by decide +kernel), List.mem_of_getElem? (i := 1263) (by decide +kernel)⟩
theorem lw_p56 : lw_okq (⟨"BothSidesSheetModel", "holds", "(IIII)Z"⟩, 69) := ⟨⟨by decide +kernel, by decide +kernel⟩, List.mem_of_getElem? (i := 871) (by decide +kernel), List.mem_of_getElem? (i := 1266) (by decide +kernel), List.mem_of_getElem? (i := 1267) (by decide +kernel)⟩
theorem lw_p57 : lw_okq (⟨"BothSidesSheetModel", "factOf", "(IIII)I"⟩, 69) := ⟨⟨by decide +kernel, by decide +kernel⟩, List.mem_of_getElem? (i := 871) (by decide +kernel), List.mem_of_getElem? (i := 1270) (by decide +kernel), List.mem_of_getElem? (i := 1271) (by decide +kernel)⟩
theorem lw_p58 : lw_okq (⟨"BothSidesSheetModel", "told1", "(II)I"⟩, 69) := ⟨⟨by decide +kernel, by decide +kernel⟩, List.mem_of_getElem? (i := 871) (by decide +kernel), List.mem_of_getElem? (i := 1274) (by decide +kernel), List.mem_of_getElem? (i := 1275) (by decide +kernel)⟩
theorem lw_p59 : lw_okq (⟨"BothSidesSheetModel", "prints", "(IIZ)V"⟩, 69) := ⟨⟨by decide +kernel, by decide +kernel⟩, List.mem_of_getElem? (i := 871) (by decide +kernel), List.mem_of_getElem? (i := 1278) (by decide +kernel), List.mem_of_getElem? (i := 1279) (by decide +kernel)⟩
theorem lw_p60 : lw_okq (⟨"BothSidesSheetModel", "putsOut", "(II)V"⟩, 69) := ⟨⟨by decide +kernel, by decide +kernel⟩, List.mem_of_getElem? (i := 871) (by decide +kernel), List.mem_of_getElem? (i := 1282) (by decide +kernel), List.mem_of_getElem? (i := 1283) (by decide +kernel)⟩
theorem lw_p61 : lw_okq (⟨"BothSidesSheetModel", "save", "()V"⟩, 69) := ⟨⟨by decide +kernel, by decide +kernel⟩, List.mem_of_getElem? (i := 871) (by decide +kernel), List.mem_of_getElem? (i := 1290) (by decide +kernel), List.mem_of_getElem? (i := 1291) (by decide +kernel)⟩
theorem lw_p62 : lw_okq (⟨"BothSidesSheetModel", "putBack", "()V"⟩, 69) := ⟨⟨by decide +kernel, by decide +kernel⟩, List.mem_of_getElem? (i := 871) (by decide +kernel), List.mem_of_getElem? (i := 1294) (by decide +kernel), List.mem_of_getElem? (i := 1295) (by decide +kernel)⟩
theorem lw_p63 : lw_okq (⟨"BothSidesSheetModel", "rightAfter", "(II)I"⟩, 69) := ⟨⟨by decide +kernel, by decide +kernel⟩, List.mem_of_getElem? (i := 871) (by decide +kernel), List.mem_of_getElem? (i := 1302) (by decide +kernel), List.mem_of_getElem? (i := 1303) (by decide +kernel)⟩
def lw_privs_4 : List (MethodName × Nat) := [(⟨"BothSidesSheetModel", "about", "(I)V"⟩, 69), (⟨"BothSidesSheetModel", "right", "()I"⟩, 69), (⟨"BothSidesSheetModel", "isRight", "(I)Z"⟩, 69), (⟨"BothSidesSheetModel", "sidesWith", "(I)I"⟩, 69), (⟨"BothSidesSheetModel", "missing", "()I"⟩, 69), (⟨"BothSidesSheetModel", "goRun", "(II)V"⟩, 69), (⟨"BothSidesSheetModel", "goesOn", "(III)I"⟩, 69), (⟨"BothSidesSheetModel", "anyHolds", "(IIIII)Z"⟩, 69), (⟨"BothSidesSheetModel", "holds", "(IIII)Z"⟩, 69), (⟨"BothSidesSheetModel", "factOf", "(IIII)I"⟩, 69), (⟨"BothSidesSheetModel", "told1", "(II)I"⟩, 69), (⟨"BothSidesSheetModel", "prints", "(IIZ)V"⟩, 69), (⟨"BothSidesSheetModel", "putsOut", "(II)V"⟩, 69), (⟨"BothSidesSheetModel", "save", "()V"⟩, 69), (⟨"BothSidesSheetModel", "putBack", "()V"⟩, 69), (⟨"BothSidesSheetModel", "rightAfter", "(II)I"⟩, 69)]
theorem lw_r4 : ∀ q ∈ lw_privs_4, lw_okq q := List.forall_mem_cons.mpr ⟨lw_p48, List.forall_mem_cons.mpr ⟨lw_p49, List.forall_mem_cons.mpr ⟨lw_p50, List.forall_mem_cons.mpr ⟨lw_p51, List.forall_mem_cons.mpr ⟨lw_p52, List.forall_mem_cons.mpr ⟨lw_p53, List.forall_mem_cons.mpr ⟨lw_p54, List.forall_mem_cons.mpr ⟨lw_p55, List.forall_mem_cons.mpr ⟨lw_p56, List.forall_mem_cons.mpr ⟨lw_p57, List.forall_mem_cons.mpr ⟨lw_p58, List.forall_mem_cons.mpr ⟨lw_p59, List.forall_mem_cons.mpr ⟨lw_p60, List.forall_mem_cons.mpr ⟨lw_p61, List.forall_mem_cons.mpr ⟨lw_p62, List.forall_mem_cons.mpr ⟨lw_p63, fun _ h => absurd h List.not_mem_nil⟩⟩⟩⟩⟩⟩⟩⟩⟩⟩⟩⟩⟩⟩⟩⟩
theorem lw_p64 : lw_okq (⟨"BothSidesSheetModel", "rightTwice", "(IIIII)I"⟩, 69) := ⟨⟨by decide +kernel, by decide +kernel⟩, List.mem_of_getElem? (i := 871) (by decide +kernel), List.mem_of_getElem? (i := 1315) (by decide +kernel), List.mem_of_getElem? (i := 1316) (by decide +kernel)⟩
theorem lw_p65 : lw_okq (⟨"BothSidesSheetModel", "isOn", "(III)Z"⟩, 69) := ⟨⟨by decide +kernel, by decide +kernel⟩, List.mem_of_getElem? (i := 871) (by decide +kernel), List.mem_of_getElem? (i := 1331) (by decide +kernel), List.mem_of_getElem? (i := 1332) (by decide +kernel)⟩
theorem lw_p66 : lw_okq (⟨"BothSidesSheetModel", "isSeenAfter", "(II)Z"⟩, 69) := ⟨⟨by decide +kernel, by decide +kernel⟩, List.mem_of_getElem? (i := 871) (by decide +kernel), List.mem_of_getElem? (i := 1339) (by decide +kernel), List.mem_of_getElem? (i := 1340) (by decide +kernel)⟩
theorem lw_p67 : lw_okq (⟨"BothSidesSheetModel", "on", "(I)I"⟩, 69) := ⟨⟨by decide +kernel, by decide +kernel⟩, List.mem_of_getElem? (i := 871) (by decide +kernel), List.mem_of_getElem? (i := 1343) (by decide +kernel), List.mem_of_getElem? (i := 1344) (by decide +kernel)⟩
theorem lw_p68 : lw_okq (⟨"BothSidesSheetModel", "lowest", "(III)J"⟩, 69) := ⟨⟨by decide +kernel, by decide +kernel⟩, List.mem_of_getElem? (i := 871) (by decide +kernel), List.mem_of_getElem? (i := 1356) (by decide +kernel), List.mem_of_getElem? (i := 1357) (by decide +kernel)⟩
theorem lw_p69 : lw_okq (⟨"BothSidesSheetModel", "divisor", "(II)I"⟩, 69) := ⟨⟨by decide +kernel, by decide +kernel⟩, List.mem_of_getElem? (i := 871) (by decide +kernel), List.mem_of_getElem? (i := 1360) (by decide +kernel), List.mem_of_getElem? (i := 1361) (by decide +kernel)⟩
theorem lw_p70 : lw_okq (⟨"BothSidesSheetModel", "goPlan", "(I)V"⟩, 69) := ⟨⟨by decide +kernel, by decide +kernel⟩, List.mem_of_getElem? (i := 871) (by decide +kernel), List.mem_of_getElem? (i := 1376) (by decide +kernel), List.mem_of_getElem? (i := 1377) (by decide +kernel)⟩
theorem lw_p71 : lw_okq (⟨"BothSidesSheetModel", "isTape", "(I)Z"⟩, 69) := ⟨⟨by decide +kernel, by decide +kernel⟩, List.mem_of_getElem? (i := 871) (by decide +kernel), List.mem_of_getElem? (i := 1392) (by decide +kernel), List.mem_of_getElem? (i := 1393) (by decide +kernel)⟩
theorem lw_p72 : lw_okq (⟨"BothSidesSheetModel", "feedsAct", "(II)I"⟩, 69) := ⟨⟨by decide +kernel, by decide +kernel⟩, List.mem_of_getElem? (i := 871) (by decide +kernel), List.mem_of_getElem? (i := 1408) (by decide +kernel), List.mem_of_getElem? (i := 1409) (by decide +kernel)⟩
theorem lw_p73 : lw_okq (⟨"BothSidesSheetModel", "body", "(I)V"⟩, 69) := ⟨⟨by decide +kernel, by decide +kernel⟩, List.mem_of_getElem? (i := 871) (by decide +kernel), List.mem_of_getElem? (i := 1412) (by decide +kernel), List.mem_of_getElem? (i := 1413) (by decide +kernel)⟩
theorem lw_p74 : lw_okq (⟨"BothSidesSheetModel", "trayFeeds", "(II)I"⟩, 69) := ⟨⟨by decide +kernel, by decide +kernel⟩, List.mem_of_getElem? (i := 871) (by decide +kernel), List.mem_of_getElem? (i := 1416) (by decide +kernel), List.mem_of_getElem? (i := 1417) (by decide +kernel)⟩
theorem lw_p75 : lw_okq (⟨"BothSidesSheetModel", "printsAct", "(II)I"⟩, 69) := ⟨⟨by decide +kernel, by decide +kernel⟩, List.mem_of_getElem? (i := 871) (by decide +kernel), List.mem_of_getElem? (i := 1420) (by decide +kernel), List.mem_of_getElem? (i := 1421) (by decide +kernel)⟩
theorem lw_p76 : lw_okq (⟨"BothSidesSheetModel", "flippingPrints", "(II)I"⟩, 69) := ⟨⟨by decide +kernel, by decide +kernel⟩, List.mem_of_getElem? (i := 871) (by decide +kernel), List.mem_of_getElem? (i := 1424) (by decide +kernel), List.mem_of_getElem? (i := 1425) (by decide +kernel)⟩
theorem lw_p77 : lw_okq (⟨"BothSidesSheetModel", "trayPrints", "(II)I"⟩, 69) := ⟨⟨by decide +kernel, by decide +kernel⟩, List.mem_of_getElem? (i := 871) (by decide +kernel), List.mem_of_getElem? (i := 1428) (by decide +kernel), List.mem_of_getElem? (i := 1429) (by decide +kernel)⟩
theorem lw_p78 : lw_okq (⟨"BothSidesSheetModel", "tellsAct", "(II)I"⟩, 69) := ⟨⟨by decide +kernel, by decide +kernel⟩, List.mem_of_getElem? (i := 871) (by decide +kernel), List.mem_of_getElem? (i := 1432) (by decide +kernel), List.mem_of_getElem? (i := 1433) (by decide +kernel)⟩
theorem lw_p79 : lw_okq (⟨"BothSidesSheetModel", "trayTells", "(II)I"⟩, 69) := ⟨⟨by decide +kernel, by decide +kernel⟩, List.mem_of_getElem? (i := 871) (by decide +kernel), List.mem_of_getElem? (i := 1436) (by decide +kernel), List.mem_of_getElem? (i := 1437) (by decide +kernel)⟩
def lw_privs_5 : List (MethodName × Nat) := [(⟨"BothSidesSheetModel", "rightTwice", "(IIIII)I"⟩, 69), (⟨"BothSidesSheetModel", "isOn", "(III)Z"⟩, 69), (⟨"BothSidesSheetModel", "isSeenAfter", "(II)Z"⟩, 69), (⟨"BothSidesSheetModel", "on", "(I)I"⟩, 69), (⟨"BothSidesSheetModel", "lowest", "(III)J"⟩, 69), (⟨"BothSidesSheetModel", "divisor", "(II)I"⟩, 69), (⟨"BothSidesSheetModel", "goPlan", "(I)V"⟩, 69), (⟨"BothSidesSheetModel", "isTape", "(I)Z"⟩, 69), (⟨"BothSidesSheetModel", "feedsAct", "(II)I"⟩, 69), (⟨"BothSidesSheetModel", "body", "(I)V"⟩, 69), (⟨"BothSidesSheetModel", "trayFeeds", "(II)I"⟩, 69), (⟨"BothSidesSheetModel", "printsAct", "(II)I"⟩, 69), (⟨"BothSidesSheetModel", "flippingPrints", "(II)I"⟩, 69), (⟨"BothSidesSheetModel", "trayPrints", "(II)I"⟩, 69), (⟨"BothSidesSheetModel", "tellsAct", "(II)I"⟩, 69), (⟨"BothSidesSheetModel", "trayTells", "(II)I"⟩, 69)]
theorem lw_r5 : ∀ q ∈ lw_privs_5, lw_okq q := List.forall_mem_cons.mpr ⟨lw_p64, List.forall_mem_cons.mpr ⟨lw_p65, List.forall_mem_cons.mpr ⟨lw_p66, List.forall_mem_cons.mpr ⟨lw_p67, List.forall_mem_cons.mpr ⟨lw_p68, List.forall_mem_cons.mpr ⟨lw_p69, List.forall_mem_cons.mpr ⟨lw_p70, List.forall_mem_cons.mpr ⟨lw_p71, List.forall_mem_cons.mpr ⟨lw_p72, List.forall_mem_cons.mpr ⟨lw_p73, List.forall_mem_cons.mpr ⟨lw_p74, List.forall_mem_cons.mpr ⟨lw_p75, List.forall_mem_cons.mpr ⟨lw_p76, List.forall_mem_cons.mpr ⟨lw_p77, List.forall_mem_cons.mpr ⟨lw_p78, List.forall_mem_cons.mpr ⟨lw_p79, fun _ h => absurd h List.not_mem_nil⟩⟩⟩⟩⟩⟩⟩⟩⟩⟩⟩⟩⟩⟩⟩⟩
theorem lw_p80 : lw_okq (⟨"BothSidesSheetModel", "narrow", "(IJ)J"⟩, 69) := ⟨⟨by decide +kernel, by decide +kernel⟩, List.mem_of_getElem? (i := 871) (by decide +kernel), List.mem_of_getElem? (i := 1460) (by decide +kernel), List.mem_of_getElem? (i := 1461) (by decide +kernel)⟩
def lw_privs_6 : List (MethodName × Nat) := [(⟨"BothSidesSheetModel", "narrow", "(IJ)J"⟩, 69)]
theorem lw_r6 : ∀ q ∈ lw_privs_6, lw_okq q := List.forall_mem_cons.mpr ⟨lw_p80, fun _ h => absurd h List.not_mem_nil⟩
def lw_privs : List (MethodName × Nat) := lw_privs_1 ++ (lw_privs_2 ++ (lw_privs_3 ++ (lw_privs_4 ++ (lw_privs_5 ++ (lw_privs_6)))))
def lw_tbl : List Cond := k2_sels lw_privs ++ tables_1
theorem lw_privs_ok : ∀ q ∈ lw_privs, lw_okq q := by
  show ∀ q ∈ lw_privs_1 ++ (lw_privs_2 ++ (lw_privs_3 ++ (lw_privs_4 ++ (lw_privs_5 ++ (lw_privs_6))))), lw_okq q
  exact List.forall_mem_append.mpr ⟨lw_r1, List.forall_mem_append.mpr ⟨lw_r2, List.forall_mem_append.mpr ⟨lw_r3, List.forall_mem_append.mpr ⟨lw_r4, List.forall_mem_append.mpr ⟨lw_r5, lw_r6⟩⟩⟩⟩⟩
def RX0 : String := "BothSidesSheet$Acts"
def TX0 : u_T := fun k => match k with
  | 0 => ("BothSidesSheet$Acts", "numbers", "[I", true)
  | 1 => ("BothSidesSheet$Acts", "ran", "I", false)
  | 2 => ("BothSidesSheet$Acts", "i", "I", false)
  | 3 => ("BothSidesSheet$Acts", "kind", "I", false)
  | _ => ("BothSidesSheet$Acts", "v", "I", false)
def tyX0 : Nat → FieldType := fun k => match k with
  | 0 => .array .int
  | 1 => .int
  | 2 => .int
  | 3 => .int
  | _ => .int
theorem nmX0 : ∀ a, a < 5 → ∀ b, b < 5 → a ≠ b → (TX0 a).2.1 ≠ (TX0 b).2.1 := by decide +kernel
theorem tyX0_ok : ∀ k, k < 5 → parseFieldDescriptor (TX0 k).2.2.1 = some (tyX0 k) := by decide +kernel
abbrev cX0_init : ByteArray := prog_2_method_1_code
def yX0_init : MethodName := ⟨RX0, "<init>", "()V"⟩
abbrev cX0_clear : ByteArray := prog_2_method_2_code
def yX0_clear : MethodName := ⟨RX0, "clear", "()V"⟩
abbrev cX0_doAct : ByteArray := prog_2_method_3_code
def yX0_doAct : MethodName := ⟨RX0, "doAct", "(ILBothSidesSheet$Tray;II)I"⟩
abbrev cX0_numberAt : ByteArray := prog_2_method_4_code
def yX0_numberAt : MethodName := ⟨RX0, "numberAt", "(I)I"⟩
abbrev cX0_begins : ByteArray := prog_2_method_5_code
def yX0_begins : MethodName := ⟨RX0, "begins", "(II)Z"⟩
abbrev cX0_feeds : ByteArray := prog_2_method_6_code
def yX0_feeds : MethodName := ⟨RX0, "feeds", "(III)I"⟩
abbrev cX0_prints : ByteArray := prog_2_method_7_code
def yX0_prints : MethodName := ⟨RX0, "prints", "(III)I"⟩
abbrev cX0_tells : ByteArray := prog_2_method_8_code
def yX0_tells : MethodName := ⟨RX0, "tells", "(III)I"⟩
def RX1 : String := "BothSidesSheet$Copier"
def TX1 : u_T := fun k => match k with
  | 0 => ("BothSidesSheet$Copier", "out", "[I", true)
  | 1 => ("BothSidesSheet$Copier", "took", "I", false)
  | _ => ("BothSidesSheet$Copier", "printed", "I", false)
def tyX1 : Nat → FieldType := fun k => match k with
  | 0 => .array .int
  | 1 => .int
  | _ => .int
theorem nmX1 : ∀ a, a < 3 → ∀ b, b < 3 → a ≠ b → (TX1 a).2.1 ≠ (TX1 b).2.1 := by decide +kernel
theorem tyX1_ok : ∀ k, k < 3 → parseFieldDescriptor (TX1 k).2.2.1 = some (tyX1 k) := by decide +kernel
abbrev cX1_init : ByteArray := prog_3_method_1_code
def yX1_init : MethodName := ⟨RX1, "<init>", "()V"⟩
abbrev cX1_copy : ByteArray := prog_3_method_2_code
def yX1_copy : MethodName := ⟨RX1, "copy", "(LBothSidesSheet$Pile;LBothSidesSheet$Tray;ILBothSidesSheet$Job;)V"⟩
abbrev cX1_isDry : ByteArray := prog_3_method_3_code
def yX1_isDry : MethodName := ⟨RX1, "isDry", "(III)Z"⟩
abbrev cX1_withPage : ByteArray := prog_3_method_4_code
def yX1_withPage : MethodName := ⟨RX1, "withPage", "(IIZ)I"⟩
abbrev cX1_laidOut : ByteArray := prog_3_method_5_code
def yX1_laidOut : MethodName := ⟨RX1, "laidOut", "(II)I"⟩
abbrev cX1_gather : ByteArray := prog_3_method_6_code
def yX1_gather : MethodName := ⟨RX1, "gather", "(LBothSidesSheet$Pile;I)V"⟩
def RX2 : String := "BothSidesSheet$Job"
def TX2 : u_T := fun k => match k with
  | 0 => ("BothSidesSheet$Job", "from", "I", true)
  | 1 => ("BothSidesSheet$Job", "till", "I", true)
  | 2 => ("BothSidesSheet$Job", "skipped", "[I", true)
  | _ => ("BothSidesSheet$Job", "turned", "[I", true)
def tyX2 : Nat → FieldType := fun k => match k with
  | 0 => .int
  | 1 => .int
  | 2 => .array .int
  | _ => .array .int
theorem nmX2 : ∀ a, a < 4 → ∀ b, b < 4 → a ≠ b → (TX2 a).2.1 ≠ (TX2 b).2.1 := by decide +kernel
theorem tyX2_ok : ∀ k, k < 4 → parseFieldDescriptor (TX2 k).2.2.1 = some (tyX2 k) := by decide +kernel
abbrev cX2_init : ByteArray := prog_4_method_1_code
def yX2_init : MethodName := ⟨RX2, "<init>", "(II[I[I)V"⟩
abbrev cX2_pageFrom : ByteArray := prog_4_method_2_code
def yX2_pageFrom : MethodName := ⟨RX2, "pageFrom", "(IIII)I"⟩
abbrev cX2_holds : ByteArray := prog_4_method_3_code
def yX2_holds : MethodName := ⟨RX2, "holds", "([IIIII)Z"⟩
abbrev cX2_value : ByteArray := prog_4_method_4_code
def yX2_value : MethodName := ⟨RX2, "value", "(IIIII)I"⟩
abbrev cX2_isSo : ByteArray := prog_4_method_5_code
def yX2_isSo : MethodName := ⟨RX2, "isSo", "(II)Z"⟩
def RX3 : String := "BothSidesSheet$Notes"
def TX3 : u_T := fun k => match k with
  | 0 => ("BothSidesSheet$Notes", "first", "[I", true)
  | 1 => ("BothSidesSheet$Notes", "second", "[I", true)
  | 2 => ("BothSidesSheet$Notes", "third", "[I", true)
  | _ => ("BothSidesSheet$Notes", "size", "I", false)
def tyX3 : Nat → FieldType := fun k => match k with
  | 0 => .array .int
  | 1 => .array .int
  | 2 => .array .int
  | _ => .int
theorem nmX3 : ∀ a, a < 4 → ∀ b, b < 4 → a ≠ b → (TX3 a).2.1 ≠ (TX3 b).2.1 := by decide +kernel
theorem tyX3_ok : ∀ k, k < 4 → parseFieldDescriptor (TX3 k).2.2.1 = some (tyX3 k) := by decide +kernel
abbrev cX3_init : ByteArray := prog_5_method_1_code
def yX3_init : MethodName := ⟨RX3, "<init>", "(I)V"⟩
abbrev cX3_isFull : ByteArray := prog_5_method_2_code
def yX3_isFull : MethodName := ⟨RX3, "isFull", "()Z"⟩
abbrev cX3_add : ByteArray := prog_5_method_3_code
def yX3_add : MethodName := ⟨RX3, "add", "(III)I"⟩
abbrev cX3_copyFrom : ByteArray := prog_5_method_4_code
def yX3_copyFrom : MethodName := ⟨RX3, "copyFrom", "(LBothSidesSheet$Notes;)V"⟩
def RX4 : String := "BothSidesSheet$Pile"
def TX4 : u_T := fun k => match k with
  | 0 => ("BothSidesSheet$Pile", "sheets", "[I", true)
  | _ => ("BothSidesSheet$Pile", "size", "I", false)
def tyX4 : Nat → FieldType := fun k => match k with
  | 0 => .array .int
  | _ => .int
theorem nmX4 : ∀ a, a < 2 → ∀ b, b < 2 → a ≠ b → (TX4 a).2.1 ≠ (TX4 b).2.1 := by decide +kernel
theorem tyX4_ok : ∀ k, k < 2 → parseFieldDescriptor (TX4 k).2.2.1 = some (tyX4 k) := by decide +kernel
abbrev cX4_init : ByteArray := prog_6_method_1_code
def yX4_init : MethodName := ⟨RX4, "<init>", "()V"⟩
abbrev cX4_copyFrom : ByteArray := prog_6_method_2_code
def yX4_copyFrom : MethodName := ⟨RX4, "copyFrom", "(LBothSidesSheet$Pile;)V"⟩
abbrev cX4_over : ByteArray := prog_6_method_3_code
def yX4_over : MethodName := ⟨RX4, "over", "(I)I"⟩
abbrev cX4_about : ByteArray := prog_6_method_4_code
def yX4_about : MethodName := ⟨RX4, "about", "(I)I"⟩
abbrev cX4_sideOf : ByteArray := prog_6_method_5_code
def yX4_sideOf : MethodName := ⟨RX4, "sideOf", "(II)I"⟩
abbrev cX4_pageOn : ByteArray := prog_6_method_6_code
def yX4_pageOn : MethodName := ⟨RX4, "pageOn", "(II)I"⟩
abbrev cX4_isDown : ByteArray := prog_6_method_7_code
def yX4_isDown : MethodName := ⟨RX4, "isDown", "(II)Z"⟩
abbrev cX4_isRight : ByteArray := prog_6_method_8_code
def yX4_isRight : MethodName := ⟨RX4, "isRight", "(I)Z"⟩
abbrev cX4_rights : ByteArray := prog_6_method_9_code
def yX4_rights : MethodName := ⟨RX4, "rights", "()I"⟩
abbrev cX4_sidesWith : ByteArray := prog_6_method_10_code
def yX4_sidesWith : MethodName := ⟨RX4, "sidesWith", "(I)I"⟩
abbrev cX4_missing : ByteArray := prog_6_method_11_code
def yX4_missing : MethodName := ⟨RX4, "missing", "()I"⟩
abbrev cX4_whereIs : ByteArray := prog_6_method_12_code
def yX4_whereIs : MethodName := ⟨RX4, "whereIs", "(I)I"⟩
abbrev cX4_putBlank : ByteArray := prog_6_method_13_code
def yX4_putBlank : MethodName := ⟨RX4, "putBlank", "(I)V"⟩
abbrev cX4_doWay : ByteArray := prog_6_method_14_code
def yX4_doWay : MethodName := ⟨RX4, "doWay", "(I)V"⟩
abbrev cX4_turnWhole : ByteArray := prog_6_method_15_code
def yX4_turnWhole : MethodName := ⟨RX4, "turnWhole", "()V"⟩
abbrev cX4_firstOtherwise : ByteArray := prog_6_method_16_code
def yX4_firstOtherwise : MethodName := ⟨RX4, "firstOtherwise", "(LBothSidesSheet$Notes;)I"⟩
def RX5 : String := "BothSidesSheet$Reader"
def TX5 : u_T := fun k => match k with
  | 0 => ("BothSidesSheet$Reader", "text", "[I", true)
  | 1 => ("BothSidesSheet$Reader", "size", "I", false)
  | 2 => ("BothSidesSheet$Reader", "at", "I", false)
  | 3 => ("BothSidesSheet$Reader", "from", "I", false)
  | 4 => ("BothSidesSheet$Reader", "till", "I", false)
  | 5 => ("BothSidesSheet$Reader", "skips", "LBothSidesSheet$Steps;", true)
  | 6 => ("BothSidesSheet$Reader", "turns", "LBothSidesSheet$Steps;", true)
  | _ => ("BothSidesSheet$Reader", "into", "LBothSidesSheet$Steps;", false)
def tyX5 : Nat → FieldType := fun k => match k with
  | 0 => .array .int
  | 1 => .int
  | 2 => .int
  | 3 => .int
  | 4 => .int
  | 5 => .object "BothSidesSheet$Steps"
  | 6 => .object "BothSidesSheet$Steps"
  | _ => .object "BothSidesSheet$Steps"
theorem nmX5 : ∀ a, a < 8 → ∀ b, b < 8 → a ≠ b → (TX5 a).2.1 ≠ (TX5 b).2.1 := by decide +kernel
theorem tyX5_ok : ∀ k, k < 8 → parseFieldDescriptor (TX5 k).2.2.1 = some (tyX5 k) := by decide +kernel
abbrev cX5_init : ByteArray := prog_7_method_1_code
def yX5_init : MethodName := ⟨RX5, "<init>", "()V"⟩
abbrev cX5_fault : ByteArray := prog_7_method_2_code
def yX5_fault : MethodName := ⟨RX5, "fault", "()I"⟩
abbrev cX5_made : ByteArray := prog_7_method_3_code
def yX5_made : MethodName := ⟨RX5, "made", "()LBothSidesSheet$Job;"⟩
abbrev cX5_clauses : ByteArray := prog_7_method_4_code
def yX5_clauses : MethodName := ⟨RX5, "clauses", "()Z"⟩
abbrev cX5_clause : ByteArray := prog_7_method_5_code
def yX5_clause : MethodName := ⟨RX5, "clause", "()Z"⟩
abbrev cX5_bound : ByteArray := prog_7_method_6_code
def yX5_bound : MethodName := ⟨RX5, "bound", "(I)Z"⟩
abbrev cX5_anyOf : ByteArray := prog_7_method_7_code
def yX5_anyOf : MethodName := ⟨RX5, "anyOf", "(I)Z"⟩
abbrev cX5_allOf : ByteArray := prog_7_method_8_code
def yX5_allOf : MethodName := ⟨RX5, "allOf", "(I)Z"⟩
abbrev cX5_one : ByteArray := prog_7_method_9_code
def yX5_one : MethodName := ⟨RX5, "one", "(I)Z"⟩
abbrev cX5_test : ByteArray := prog_7_method_10_code
def yX5_test : MethodName := ⟨RX5, "test", "(I)Z"⟩
abbrev cX5_word : ByteArray := prog_7_method_11_code
def yX5_word : MethodName := ⟨RX5, "word", "()I"⟩
abbrev cX5_number : ByteArray := prog_7_method_12_code
def yX5_number : MethodName := ⟨RX5, "number", "()I"⟩
abbrev cX5_sign : ByteArray := prog_7_method_13_code
def yX5_sign : MethodName := ⟨RX5, "sign", "()I"⟩
def RX6 : String := "BothSidesSheet$Room"
def TX6 : u_T := fun k => match k with
  | 0 => ("BothSidesSheet$Room", "stack", "LBothSidesSheet$Pile;", true)
  | 1 => ("BothSidesSheet$Room", "trays", "[LBothSidesSheet$Tray;", true)
  | 2 => ("BothSidesSheet$Room", "trayCount", "I", false)
  | 3 => ("BothSidesSheet$Room", "seen", "LBothSidesSheet$Notes;", true)
  | 4 => ("BothSidesSheet$Room", "planned", "LBothSidesSheet$Notes;", true)
  | _ => ("BothSidesSheet$Room", "booked", "LBothSidesSheet$Notes;", true)
def tyX6 : Nat → FieldType := fun k => match k with
  | 0 => .object "BothSidesSheet$Pile"
  | 1 => .array (.object "BothSidesSheet$Tray")
  | 2 => .int
  | 3 => .object "BothSidesSheet$Notes"
  | 4 => .object "BothSidesSheet$Notes"
  | _ => .object "BothSidesSheet$Notes"
theorem nmX6 : ∀ a, a < 6 → ∀ b, b < 6 → a ≠ b → (TX6 a).2.1 ≠ (TX6 b).2.1 := by decide +kernel
theorem tyX6_ok : ∀ k, k < 6 → parseFieldDescriptor (TX6 k).2.2.1 = some (tyX6 k) := by decide +kernel
abbrev cX6_init : ByteArray := prog_8_method_1_code
def yX6_init : MethodName := ⟨RX6, "<init>", "()V"⟩
abbrev cX6_copyFrom : ByteArray := prog_8_method_2_code
def yX6_copyFrom : MethodName := ⟨RX6, "copyFrom", "(LBothSidesSheet$Room;)V"⟩
def RX7 : String := "BothSidesSheet$Steps"
def TX7 : u_T := fun k => match k with
  | 0 => ("BothSidesSheet$Steps", "steps", "[I", true)
  | _ => ("BothSidesSheet$Steps", "size", "I", false)
def tyX7 : Nat → FieldType := fun k => match k with
  | 0 => .array .int
  | _ => .int
theorem nmX7 : ∀ a, a < 2 → ∀ b, b < 2 → a ≠ b → (TX7 a).2.1 ≠ (TX7 b).2.1 := by decide +kernel
theorem tyX7_ok : ∀ k, k < 2 → parseFieldDescriptor (TX7 k).2.2.1 = some (tyX7 k) := by decide +kernel
abbrev cX7_init : ByteArray := prog_9_method_1_code
def yX7_init : MethodName := ⟨RX7, "<init>", "()V"⟩
abbrev cX7_add : ByteArray := prog_9_method_2_code
def yX7_add : MethodName := ⟨RX7, "add", "(I)V"⟩
def RX8 : String := "BothSidesSheet$Tape"
def TX8 : u_T := fun k => match k with
  | 0 => ("BothSidesSheet$Tape", "sort", "I", false)
  | 1 => ("BothSidesSheet$Tape", "length", "I", false)
  | _ => ("BothSidesSheet$Tape", "items", "[J", true)
def tyX8 : Nat → FieldType := fun k => match k with
  | 0 => .int
  | 1 => .int
  | _ => .array .long
theorem nmX8 : ∀ a, a < 3 → ∀ b, b < 3 → a ≠ b → (TX8 a).2.1 ≠ (TX8 b).2.1 := by decide +kernel
theorem tyX8_ok : ∀ k, k < 3 → parseFieldDescriptor (TX8 k).2.2.1 = some (tyX8 k) := by decide +kernel
abbrev cX8_init : ByteArray := prog_10_method_1_code
def yX8_init : MethodName := ⟨RX8, "<init>", "()V"⟩
abbrev cX8_isRow : ByteArray := prog_10_method_2_code
def yX8_isRow : MethodName := ⟨RX8, "isRow", "()Z"⟩
abbrev cX8_has : ByteArray := prog_10_method_3_code
def yX8_has : MethodName := ⟨RX8, "has", "(I)Z"⟩
abbrev cX8_begin : ByteArray := prog_10_method_4_code
def yX8_begin : MethodName := ⟨RX8, "begin", "(II)V"⟩
abbrev cX8_asItem : ByteArray := prog_10_method_5_code
def yX8_asItem : MethodName := ⟨RX8, "asItem", "(J)J"⟩
def RX9 : String := "BothSidesSheet$Tray"
def TX9 : u_T := fun k => match k with
  | 0 => ("BothSidesSheet$Tray", "kind", "I", false)
  | 1 => ("BothSidesSheet$Tray", "v", "I", false)
  | 2 => ("BothSidesSheet$Tray", "ran", "I", false)
  | _ => ("BothSidesSheet$Tray", "parts", "[I", true)
def tyX9 : Nat → FieldType := fun k => match k with
  | 0 => .int
  | 1 => .int
  | 2 => .int
  | _ => .array .int
theorem nmX9 : ∀ a, a < 4 → ∀ b, b < 4 → a ≠ b → (TX9 a).2.1 ≠ (TX9 b).2.1 := by decide +kernel
theorem tyX9_ok : ∀ k, k < 4 → parseFieldDescriptor (TX9 k).2.2.1 = some (tyX9 k) := by decide +kernel
abbrev cX9_init : ByteArray := prog_11_method_1_code
def yX9_init : MethodName := ⟨RX9, "<init>", "()V"⟩
abbrev cX9_begin : ByteArray := prog_11_method_2_code
def yX9_begin : MethodName := ⟨RX9, "begin", "(II)V"⟩
abbrev cX9_copyFrom : ByteArray := prog_11_method_3_code
def yX9_copyFrom : MethodName := ⟨RX9, "copyFrom", "(LBothSidesSheet$Tray;)V"⟩
def RX10 : String := "BothSidesSheet"
def TX10 : u_T := fun k => match k with
  | 0 => ("BothSidesSheet", "now", "LBothSidesSheet$Room;", true)
  | 1 => ("BothSidesSheet", "kept", "LBothSidesSheet$Room;", true)
  | 2 => ("BothSidesSheet", "hasImage", "Z", false)
  | 3 => ("BothSidesSheet", "reader", "LBothSidesSheet$Reader;", true)
  | 4 => ("BothSidesSheet", "readJobs", "[LBothSidesSheet$Job;", true)
  | 5 => ("BothSidesSheet", "jobCount", "I", false)
  | 6 => ("BothSidesSheet", "copier", "LBothSidesSheet$Copier;", true)
  | 7 => ("BothSidesSheet", "once", "LBothSidesSheet$Pile;", true)
  | 8 => ("BothSidesSheet", "behind", "LBothSidesSheet$Pile;", true)
  | 9 => ("BothSidesSheet", "acts", "LBothSidesSheet$Acts;", true)
  | _ => ("BothSidesSheet", "tapes", "[LBothSidesSheet$Tape;", true)
def tyX10 : Nat → FieldType := fun k => match k with
  | 0 => .object "BothSidesSheet$Room"
  | 1 => .object "BothSidesSheet$Room"
  | 2 => .boolean
  | 3 => .object "BothSidesSheet$Reader"
  | 4 => .array (.object "BothSidesSheet$Job")
  | 5 => .int
  | 6 => .object "BothSidesSheet$Copier"
  | 7 => .object "BothSidesSheet$Pile"
  | 8 => .object "BothSidesSheet$Pile"
  | 9 => .object "BothSidesSheet$Acts"
  | _ => .array (.object "BothSidesSheet$Tape")
theorem nmX10 : ∀ a, a < 11 → ∀ b, b < 11 → a ≠ b → (TX10 a).2.1 ≠ (TX10 b).2.1 := by decide +kernel
theorem tyX10_ok : ∀ k, k < 11 → parseFieldDescriptor (TX10 k).2.2.1 = some (tyX10 k) := by decide +kernel
abbrev cX10_init : ByteArray := prog_1_method_1_code
def yX10_init : MethodName := ⟨RX10, "<init>", "()V"⟩
abbrev cX10_isWithin : ByteArray := prog_1_method_2_code
def yX10_isWithin : MethodName := ⟨RX10, "isWithin", "(III)Z"⟩
abbrev cX10_isTray : ByteArray := prog_1_method_3_code
def yX10_isTray : MethodName := ⟨RX10, "isTray", "(I)Z"⟩
abbrev cX10_isJob : ByteArray := prog_1_method_4_code
def yX10_isJob : MethodName := ⟨RX10, "isJob", "(I)Z"⟩
abbrev cX10_isSheet : ByteArray := prog_1_method_5_code
def yX10_isSheet : MethodName := ⟨RX10, "isSheet", "(I)Z"⟩
abbrev cX10_isTape : ByteArray := prog_1_method_6_code
def yX10_isTape : MethodName := ⟨RX10, "isTape", "(I)Z"⟩
abbrev cX10_isWay : ByteArray := prog_1_method_7_code
def yX10_isWay : MethodName := ⟨RX10, "isWay", "(I)Z"⟩
abbrev cX10_isEither : ByteArray := prog_1_method_8_code
def yX10_isEither : MethodName := ⟨RX10, "isEither", "(I)Z"⟩
abbrev cX10_isSide : ByteArray := prog_1_method_9_code
def yX10_isSide : MethodName := ⟨RX10, "isSide", "(III)Z"⟩
abbrev cX10_tray : ByteArray := prog_1_method_10_code
def yX10_tray : MethodName := ⟨RX10, "tray", "(II)I"⟩
abbrev cX10_of : ByteArray := prog_1_method_11_code
def yX10_of : MethodName := ⟨RX10, "of", "(II)I"⟩
abbrev cX10_row : ByteArray := prog_1_method_12_code
def yX10_row : MethodName := ⟨RX10, "row", "(III)I"⟩
abbrev cX10_feed : ByteArray := prog_1_method_13_code
def yX10_feed : MethodName := ⟨RX10, "feed", "(I)I"⟩
abbrev cX10_job : ByteArray := prog_1_method_14_code
def yX10_job : MethodName := ⟨RX10, "job", "()I"⟩
abbrev cX10_load : ByteArray := prog_1_method_15_code
def yX10_load : MethodName := ⟨RX10, "load", "(I)I"⟩
abbrev cX10_empty : ByteArray := prog_1_method_16_code
def yX10_empty : MethodName := ⟨RX10, "empty", "()I"⟩
abbrev cX10_turn : ByteArray := prog_1_method_17_code
def yX10_turn : MethodName := ⟨RX10, "turn", "(I)I"⟩
abbrev cX10_sheet : ByteArray := prog_1_method_18_code
def yX10_sheet : MethodName := ⟨RX10, "sheet", "(II)I"⟩
abbrev cX10_told : ByteArray := prog_1_method_19_code
def yX10_told : MethodName := ⟨RX10, "told", "(I)I"⟩
abbrev cX10_jobs : ByteArray := prog_1_method_20_code
def yX10_jobs : MethodName := ⟨RX10, "jobs", "(II)I"⟩
abbrev cX10_run : ByteArray := prog_1_method_21_code
def yX10_run : MethodName := ⟨RX10, "run", "(II)I"⟩
abbrev cX10_tryRun : ByteArray := prog_1_method_22_code
def yX10_tryRun : MethodName := ⟨RX10, "tryRun", "(III)V"⟩
abbrev cX10_rightsAfter : ByteArray := prog_1_method_23_code
def yX10_rightsAfter : MethodName := ⟨RX10, "rightsAfter", "(II)I"⟩
abbrev cX10_rightsBehind : ByteArray := prog_1_method_24_code
def yX10_rightsBehind : MethodName := ⟨RX10, "rightsBehind", "(III)I"⟩
abbrev cX10_after : ByteArray := prog_1_method_25_code
def yX10_after : MethodName := ⟨RX10, "after", "(III)I"⟩
abbrev cX10_best : ByteArray := prog_1_method_26_code
def yX10_best : MethodName := ⟨RX10, "best", "(I)I"⟩
abbrev cX10_uses : ByteArray := prog_1_method_27_code
def yX10_uses : MethodName := ⟨RX10, "uses", "(II)I"⟩
abbrev cX10_way : ByteArray := prog_1_method_28_code
def yX10_way : MethodName := ⟨RX10, "way", "(IIIII)I"⟩
abbrev cX10_twice : ByteArray := prog_1_method_29_code
def yX10_twice : MethodName := ⟨RX10, "twice", "(III)I"⟩
abbrev cX10_find : ByteArray := prog_1_method_30_code
def yX10_find : MethodName := ⟨RX10, "find", "(I)I"⟩
abbrev cX10_see : ByteArray := prog_1_method_31_code
def yX10_see : MethodName := ⟨RX10, "see", "(III)I"⟩
abbrev cX10_note : ByteArray := prog_1_method_32_code
def yX10_note : MethodName := ⟨RX10, "note", "(LBothSidesSheet$Notes;III)I"⟩
abbrev cX10_isSeenAfter : ByteArray := prog_1_method_33_code
def yX10_isSeenAfter : MethodName := ⟨RX10, "isSeenAfter", "(III)Z"⟩
abbrev cX10_which : ByteArray := prog_1_method_34_code
def yX10_which : MethodName := ⟨RX10, "which", "(I)I"⟩
abbrev cX10_can : ByteArray := prog_1_method_35_code
def yX10_can : MethodName := ⟨RX10, "can", "(III)I"⟩
abbrev cX10_odds : ByteArray := prog_1_method_36_code
def yX10_odds : MethodName := ⟨RX10, "odds", "(III)J"⟩
abbrev cX10_mean : ByteArray := prog_1_method_37_code
def yX10_mean : MethodName := ⟨RX10, "mean", "(II)J"⟩
abbrev cX10_partInLowest : ByteArray := prog_1_method_38_code
def yX10_partInLowest : MethodName := ⟨RX10, "partInLowest", "(III)J"⟩
abbrev cX10_plan : ByteArray := prog_1_method_39_code
def yX10_plan : MethodName := ⟨RX10, "plan", "(III)I"⟩
abbrev cX10_done : ByteArray := prog_1_method_40_code
def yX10_done : MethodName := ⟨RX10, "done", "(I)I"⟩
abbrev cX10_doPlanned : ByteArray := prog_1_method_41_code
def yX10_doPlanned : MethodName := ⟨RX10, "doPlanned", "(III)V"⟩
abbrev cX10_book : ByteArray := prog_1_method_42_code
def yX10_book : MethodName := ⟨RX10, "book", "(III)I"⟩
abbrev cX10_looked : ByteArray := prog_1_method_43_code
def yX10_looked : MethodName := ⟨RX10, "looked", "()I"⟩
abbrev cX10_judge : ByteArray := prog_1_method_44_code
def yX10_judge : MethodName := ⟨RX10, "judge", "(II)I"⟩
abbrev cX10_image : ByteArray := prog_1_method_45_code
def yX10_image : MethodName := ⟨RX10, "image", "()I"⟩
abbrev cX10_undo : ByteArray := prog_1_method_46_code
def yX10_undo : MethodName := ⟨RX10, "undo", "()I"⟩
abbrev cX10_act : ByteArray := prog_1_method_47_code
def yX10_act : MethodName := ⟨RX10, "act", "(III)I"⟩
abbrev cX10_trace : ByteArray := prog_1_method_48_code
def yX10_trace : MethodName := ⟨RX10, "trace", "(I)I"⟩
abbrev cX10_taken : ByteArray := prog_1_method_49_code
def yX10_taken : MethodName := ⟨RX10, "taken", "(II)I"⟩
abbrev cX10_isKindOrUnder : ByteArray := prog_1_method_50_code
def yX10_isKindOrUnder : MethodName := ⟨RX10, "isKindOrUnder", "(II)Z"⟩
abbrev cX10_count : ByteArray := prog_1_method_51_code
def yX10_count : MethodName := ⟨RX10, "count", "(I)I"⟩
abbrev cX10_tape : ByteArray := prog_1_method_52_code
def yX10_tape : MethodName := ⟨RX10, "tape", "(III)I"⟩
abbrev cX10_item : ByteArray := prog_1_method_53_code
def yX10_item : MethodName := ⟨RX10, "item", "(IIJ)I"⟩
abbrev cX10_read : ByteArray := prog_1_method_54_code
def yX10_read : MethodName := ⟨RX10, "read", "(II)J"⟩
abbrev cX10_shift : ByteArray := prog_1_method_55_code
def yX10_shift : MethodName := ⟨RX10, "shift", "(IIIII)I"⟩
def RX11 : String := "BothSidesSheetModel"
def TX11 : u_T := fun k => match k with
  | 0 => ("BothSidesSheetModel", "trays", "I", false)
  | 1 => ("BothSidesSheetModel", "kind", "[I", true)
  | 2 => ("BothSidesSheetModel", "v", "[I", true)
  | 3 => ("BothSidesSheetModel", "ran0", "[I", true)
  | 4 => ("BothSidesSheetModel", "rows", "[I", true)
  | 5 => ("BothSidesSheetModel", "jobs0", "I", false)
  | 6 => ("BothSidesSheetModel", "fed", "I", false)
  | 7 => ("BothSidesSheetModel", "at", "I", false)
  | 8 => ("BothSidesSheetModel", "digits", "I", false)
  | 9 => ("BothSidesSheetModel", "text", "[I", true)
  | 10 => ("BothSidesSheetModel", "clauses", "[I", true)
  | 11 => ("BothSidesSheetModel", "word", "[I", true)
  | 12 => ("BothSidesSheetModel", "number", "[I", true)
  | 13 => ("BothSidesSheetModel", "from", "[I", true)
  | 14 => ("BothSidesSheetModel", "to", "[I", true)
  | 15 => ("BothSidesSheetModel", "sign", "[I", true)
  | 16 => ("BothSidesSheetModel", "waits", "[I", true)
  | 17 => ("BothSidesSheetModel", "signs", "I", false)
  | 18 => ("BothSidesSheetModel", "waiting", "I", false)
  | 19 => ("BothSidesSheetModel", "open", "I", false)
  | 20 => ("BothSidesSheetModel", "letters", "[I", true)
  | 21 => ("BothSidesSheetModel", "pile", "[Z", true)
  | 22 => ("BothSidesSheetModel", "sheets", "I", false)
  | 23 => ("BothSidesSheetModel", "side", "[I", true)
  | 24 => ("BothSidesSheetModel", "outSide", "[I", true)
  | 25 => ("BothSidesSheetModel", "newSide", "[I", true)
  | 26 => ("BothSidesSheetModel", "down", "[Z", true)
  | 27 => ("BothSidesSheetModel", "outDown", "[Z", true)
  | 28 => ("BothSidesSheetModel", "newDown", "[Z", true)
  | 29 => ("BothSidesSheetModel", "taken1", "I", false)
  | 30 => ("BothSidesSheetModel", "printed", "I", false)
  | 31 => ("BothSidesSheetModel", "keptSheets", "I", false)
  | 32 => ("BothSidesSheetModel", "keptSide", "[I", true)
  | 33 => ("BothSidesSheetModel", "keptDown", "[Z", true)
  | 34 => ("BothSidesSheetModel", "seen", "I", false)
  | 35 => ("BothSidesSheetModel", "seenSide", "[I", true)
  | 36 => ("BothSidesSheetModel", "seenPage", "[I", true)
  | 37 => ("BothSidesSheetModel", "plans", "I", false)
  | 38 => ("BothSidesSheetModel", "books", "I", false)
  | 39 => ("BothSidesSheetModel", "planWhat", "[I", true)
  | 40 => ("BothSidesSheetModel", "planA", "[I", true)
  | 41 => ("BothSidesSheetModel", "planB", "[I", true)
  | 42 => ("BothSidesSheetModel", "bookSide", "[I", true)
  | 43 => ("BothSidesSheetModel", "bookPage", "[I", true)
  | 44 => ("BothSidesSheetModel", "hasImage", "Z", false)
  | 45 => ("BothSidesSheetModel", "imageSheets", "I", false)
  | 46 => ("BothSidesSheetModel", "imageTrays", "I", false)
  | 47 => ("BothSidesSheetModel", "imageSeen", "I", false)
  | 48 => ("BothSidesSheetModel", "imagePlans", "I", false)
  | 49 => ("BothSidesSheetModel", "imageBooks", "I", false)
  | 50 => ("BothSidesSheetModel", "imageSide", "[I", true)
  | 51 => ("BothSidesSheetModel", "imageKind", "[I", true)
  | 52 => ("BothSidesSheetModel", "imageV", "[I", true)
  | 53 => ("BothSidesSheetModel", "imageRan", "[I", true)
  | 54 => ("BothSidesSheetModel", "imageRows", "[I", true)
  | 55 => ("BothSidesSheetModel", "imageSeenSide", "[I", true)
  | 56 => ("BothSidesSheetModel", "imageSeenPage", "[I", true)
  | 57 => ("BothSidesSheetModel", "imageWhat", "[I", true)
  | 58 => ("BothSidesSheetModel", "imageA", "[I", true)
  | 59 => ("BothSidesSheetModel", "imageB", "[I", true)
  | 60 => ("BothSidesSheetModel", "imageBookSide", "[I", true)
  | 61 => ("BothSidesSheetModel", "imageBookPage", "[I", true)
  | 62 => ("BothSidesSheetModel", "imageDown", "[Z", true)
  | 63 => ("BothSidesSheetModel", "ran", "I", false)
  | 64 => ("BothSidesSheetModel", "bodies", "[I", true)
  | 65 => ("BothSidesSheetModel", "sort", "[I", true)
  | 66 => ("BothSidesSheetModel", "length", "[I", true)
  | 67 => ("BothSidesSheetModel", "item", "[J", true)
  | _ => ("BothSidesSheetModel", "aside", "[J", true)
def tyX11 : Nat → FieldType := fun k => match k with
  | 0 => .int
  | 1 => .array .int
  | 2 => .array .int
  | 3 => .array .int
  | 4 => .array .int
  | 5 => .int
  | 6 => .int
  | 7 => .int
  | 8 => .int
  | 9 => .array .int
  | 10 => .array .int
  | 11 => .array .int
  | 12 => .array .int
  | 13 => .array .int
  | 14 => .array .int
  | 15 => .array .int
  | 16 => .array .int
  | 17 => .int
  | 18 => .int
  | 19 => .int
  | 20 => .array .int
  | 21 => .array .boolean
  | 22 => .int
  | 23 => .array .int
  | 24 => .array .int
  | 25 => .array .int
  | 26 => .array .boolean
  | 27 => .array .boolean
  | 28 => .array .boolean
  | 29 => .int
  | 30 => .int
  | 31 => .int
  | 32 => .array .int
  | 33 => .array .boolean
  | 34 => .int
  | 35 => .array .int
  | 36 => .array .int
  | 37 => .int
  | 38 => .int
  | 39 => .array .int
  | 40 => .array .int
  | 41 => .array .int
  | 42 => .array .int
  | 43 => .array .int
  | 44 => .boolean
  | 45 => .int
  | 46 => .int
  | 47 => .int
  | 48 => .int
  | 49 => .int
  | 50 => .array .int
  | 51 => .array .int
  | 52 => .array .int
  | 53 => .array .int
  | 54 => .array .int
  | 55 => .array .int
  | 56 => .array .int
  | 57 => .array .int
  | 58 => .array .int
  | 59 => .array .int
  | 60 => .array .int
  | 61 => .array .int
  | 62 => .array .boolean
  | 63 => .int
  | 64 => .array .int
  | 65 => .array .int
  | 66 => .array .int
  | 67 => .array .long
  | _ => .array .long
theorem nmX11 : ∀ a, a < 69 → ∀ b, b < 69 → a ≠ b → (TX11 a).2.1 ≠ (TX11 b).2.1 := by decide +kernel
theorem tyX11_ok : ∀ k, k < 69 → parseFieldDescriptor (TX11 k).2.2.1 = some (tyX11 k) := by decide +kernel
abbrev cX11_init : ByteArray := prog_13_method_1_code
def yX11_init : MethodName := ⟨RX11, "<init>", "()V"⟩
abbrev cX11_in : ByteArray := prog_13_method_2_code
def yX11_in : MethodName := ⟨RX11, "in", "(III)Z"⟩
abbrev cX11_isTray : ByteArray := prog_13_method_3_code
def yX11_isTray : MethodName := ⟨RX11, "isTray", "(I)Z"⟩
abbrev cX11_tray : ByteArray := prog_13_method_4_code
def yX11_tray : MethodName := ⟨RX11, "tray", "(II)I"⟩
abbrev cX11_of : ByteArray := prog_13_method_5_code
def yX11_of : MethodName := ⟨RX11, "of", "(II)I"⟩
abbrev cX11_row : ByteArray := prog_13_method_6_code
def yX11_row : MethodName := ⟨RX11, "row", "(III)I"⟩
abbrev cX11_feed : ByteArray := prog_13_method_7_code
def yX11_feed : MethodName := ⟨RX11, "feed", "(I)I"⟩
abbrev cX11_next : ByteArray := prog_13_method_8_code
def yX11_next : MethodName := ⟨RX11, "next", "()I"⟩
abbrev cX11_second : ByteArray := prog_13_method_9_code
def yX11_second : MethodName := ⟨RX11, "second", "()I"⟩
abbrev cX11_takes : ByteArray := prog_13_method_10_code
def yX11_takes : MethodName := ⟨RX11, "takes", "(I)Z"⟩
abbrev cX11_takesWord : ByteArray := prog_13_method_11_code
def yX11_takesWord : MethodName := ⟨RX11, "takesWord", "(II)Z"⟩
abbrev cX11_isDigit : ByteArray := prog_13_method_12_code
def yX11_isDigit : MethodName := ⟨RX11, "isDigit", "()Z"⟩
abbrev cX11_takesNumber : ByteArray := prog_13_method_13_code
def yX11_takesNumber : MethodName := ⟨RX11, "takesNumber", "()Z"⟩
abbrev cX11_emits : ByteArray := prog_13_method_14_code
def yX11_emits : MethodName := ⟨RX11, "emits", "(I)V"⟩
abbrev cX11_whole : ByteArray := prog_13_method_15_code
def yX11_whole : MethodName := ⟨RX11, "whole", "()V"⟩
abbrev cX11_settle : ByteArray := prog_13_method_16_code
def yX11_settle : MethodName := ⟨RX11, "settle", "(I)V"⟩
abbrev cX11_place : ByteArray := prog_13_method_17_code
def yX11_place : MethodName := ⟨RX11, "place", "(I)I"⟩
abbrev cX11_takesTest : ByteArray := prog_13_method_18_code
def yX11_takesTest : MethodName := ⟨RX11, "takesTest", "()Z"⟩
abbrev cX11_takesE : ByteArray := prog_13_method_19_code
def yX11_takesE : MethodName := ⟨RX11, "takesE", "(I)Z"⟩
abbrev cX11_takesHead : ByteArray := prog_13_method_20_code
def yX11_takesHead : MethodName := ⟨RX11, "takesHead", "(I)Z"⟩
abbrev cX11_takesClause : ByteArray := prog_13_method_21_code
def yX11_takesClause : MethodName := ⟨RX11, "takesClause", "(I)Z"⟩
abbrev cX11_goesText : ByteArray := prog_13_method_22_code
def yX11_goesText : MethodName := ⟨RX11, "goesText", "(I)Z"⟩
abbrev cX11_job : ByteArray := prog_13_method_23_code
def yX11_job : MethodName := ⟨RX11, "job", "()I"⟩
abbrev cX11_isJob : ByteArray := prog_13_method_24_code
def yX11_isJob : MethodName := ⟨RX11, "isJob", "(I)Z"⟩
abbrev cX11_lastOf : ByteArray := prog_13_method_25_code
def yX11_lastOf : MethodName := ⟨RX11, "lastOf", "(III)I"⟩
abbrev cX11_first : ByteArray := prog_13_method_26_code
def yX11_first : MethodName := ⟨RX11, "first", "(I)I"⟩
abbrev cX11_last : ByteArray := prog_13_method_27_code
def yX11_last : MethodName := ⟨RX11, "last", "(I)I"⟩
abbrev cX11_jobs : ByteArray := prog_13_method_28_code
def yX11_jobs : MethodName := ⟨RX11, "jobs", "(II)I"⟩
abbrev cX11_factOf : ByteArray := prog_13_method_29_code
def yX11_factOf : MethodName := ⟨RX11, "factOf", "(IIII)I"⟩
abbrev cX11_holds : ByteArray := prog_13_method_30_code
def yX11_holds : MethodName := ⟨RX11, "holds", "(IIII)Z"⟩
abbrev cX11_anyHolds : ByteArray := prog_13_method_31_code
def yX11_anyHolds : MethodName := ⟨RX11, "anyHolds", "(IIIII)Z"⟩
abbrev cX11_over : ByteArray := prog_13_method_32_code
def yX11_over : MethodName := ⟨RX11, "over", "(I)V"⟩
abbrev cX11_about : ByteArray := prog_13_method_33_code
def yX11_about : MethodName := ⟨RX11, "about", "(I)V"⟩
abbrev cX11_loads : ByteArray := prog_13_method_34_code
def yX11_loads : MethodName := ⟨RX11, "loads", "(I)V"⟩
abbrev cX11_load : ByteArray := prog_13_method_35_code
def yX11_load : MethodName := ⟨RX11, "load", "(I)I"⟩
abbrev cX11_empty : ByteArray := prog_13_method_36_code
def yX11_empty : MethodName := ⟨RX11, "empty", "()I"⟩
abbrev cX11_turnsOver : ByteArray := prog_13_method_37_code
def yX11_turnsOver : MethodName := ⟨RX11, "turnsOver", "()V"⟩
abbrev cX11_goWay : ByteArray := prog_13_method_38_code
def yX11_goWay : MethodName := ⟨RX11, "goWay", "(I)V"⟩
abbrev cX11_isRight : ByteArray := prog_13_method_39_code
def yX11_isRight : MethodName := ⟨RX11, "isRight", "(I)Z"⟩
abbrev cX11_right : ByteArray := prog_13_method_40_code
def yX11_right : MethodName := ⟨RX11, "right", "()I"⟩
abbrev cX11_sidesWith : ByteArray := prog_13_method_41_code
def yX11_sidesWith : MethodName := ⟨RX11, "sidesWith", "(I)I"⟩
abbrev cX11_turn : ByteArray := prog_13_method_42_code
def yX11_turn : MethodName := ⟨RX11, "turn", "(I)I"⟩
abbrev cX11_sheet : ByteArray := prog_13_method_43_code
def yX11_sheet : MethodName := ⟨RX11, "sheet", "(II)I"⟩
abbrev cX11_missing : ByteArray := prog_13_method_44_code
def yX11_missing : MethodName := ⟨RX11, "missing", "()I"⟩
abbrev cX11_told : ByteArray := prog_13_method_45_code
def yX11_told : MethodName := ⟨RX11, "told", "(I)I"⟩
abbrev cX11_prints : ByteArray := prog_13_method_46_code
def yX11_prints : MethodName := ⟨RX11, "prints", "(IIZ)V"⟩
abbrev cX11_putsOut : ByteArray := prog_13_method_47_code
def yX11_putsOut : MethodName := ⟨RX11, "putsOut", "(II)V"⟩
abbrev cX11_goesOn : ByteArray := prog_13_method_48_code
def yX11_goesOn : MethodName := ⟨RX11, "goesOn", "(III)I"⟩
abbrev cX11_told1 : ByteArray := prog_13_method_49_code
def yX11_told1 : MethodName := ⟨RX11, "told1", "(II)I"⟩
abbrev cX11_goRun : ByteArray := prog_13_method_50_code
def yX11_goRun : MethodName := ⟨RX11, "goRun", "(II)V"⟩
abbrev cX11_run : ByteArray := prog_13_method_51_code
def yX11_run : MethodName := ⟨RX11, "run", "(II)I"⟩
abbrev cX11_save : ByteArray := prog_13_method_52_code
def yX11_save : MethodName := ⟨RX11, "save", "()V"⟩
abbrev cX11_putBack : ByteArray := prog_13_method_53_code
def yX11_putBack : MethodName := ⟨RX11, "putBack", "()V"⟩
abbrev cX11_after : ByteArray := prog_13_method_54_code
def yX11_after : MethodName := ⟨RX11, "after", "(III)I"⟩
abbrev cX11_rightAfter : ByteArray := prog_13_method_55_code
def yX11_rightAfter : MethodName := ⟨RX11, "rightAfter", "(II)I"⟩
abbrev cX11_best : ByteArray := prog_13_method_56_code
def yX11_best : MethodName := ⟨RX11, "best", "(I)I"⟩
abbrev cX11_uses : ByteArray := prog_13_method_57_code
def yX11_uses : MethodName := ⟨RX11, "uses", "(II)I"⟩
abbrev cX11_rightTwice : ByteArray := prog_13_method_58_code
def yX11_rightTwice : MethodName := ⟨RX11, "rightTwice", "(IIIII)I"⟩
abbrev cX11_way : ByteArray := prog_13_method_59_code
def yX11_way : MethodName := ⟨RX11, "way", "(IIIII)I"⟩
abbrev cX11_twice : ByteArray := prog_13_method_60_code
def yX11_twice : MethodName := ⟨RX11, "twice", "(III)I"⟩
abbrev cX11_find : ByteArray := prog_13_method_61_code
def yX11_find : MethodName := ⟨RX11, "find", "(I)I"⟩
abbrev cX11_isOn : ByteArray := prog_13_method_62_code
def yX11_isOn : MethodName := ⟨RX11, "isOn", "(III)Z"⟩
abbrev cX11_see : ByteArray := prog_13_method_63_code
def yX11_see : MethodName := ⟨RX11, "see", "(III)I"⟩
abbrev cX11_on : ByteArray := prog_13_method_64_code
def yX11_on : MethodName := ⟨RX11, "on", "(I)I"⟩
abbrev cX11_isSeenAfter : ByteArray := prog_13_method_65_code
def yX11_isSeenAfter : MethodName := ⟨RX11, "isSeenAfter", "(II)Z"⟩
abbrev cX11_which : ByteArray := prog_13_method_66_code
def yX11_which : MethodName := ⟨RX11, "which", "(I)I"⟩
abbrev cX11_can : ByteArray := prog_13_method_67_code
def yX11_can : MethodName := ⟨RX11, "can", "(III)I"⟩
abbrev cX11_divisor : ByteArray := prog_13_method_68_code
def yX11_divisor : MethodName := ⟨RX11, "divisor", "(II)I"⟩
abbrev cX11_lowest : ByteArray := prog_13_method_69_code
def yX11_lowest : MethodName := ⟨RX11, "lowest", "(III)J"⟩
abbrev cX11_odds : ByteArray := prog_13_method_70_code
def yX11_odds : MethodName := ⟨RX11, "odds", "(III)J"⟩
abbrev cX11_mean : ByteArray := prog_13_method_71_code
def yX11_mean : MethodName := ⟨RX11, "mean", "(II)J"⟩
abbrev cX11_plan : ByteArray := prog_13_method_72_code
def yX11_plan : MethodName := ⟨RX11, "plan", "(III)I"⟩
abbrev cX11_goPlan : ByteArray := prog_13_method_73_code
def yX11_goPlan : MethodName := ⟨RX11, "goPlan", "(I)V"⟩
abbrev cX11_done : ByteArray := prog_13_method_74_code
def yX11_done : MethodName := ⟨RX11, "done", "(I)I"⟩
abbrev cX11_book : ByteArray := prog_13_method_75_code
def yX11_book : MethodName := ⟨RX11, "book", "(III)I"⟩
abbrev cX11_looked : ByteArray := prog_13_method_76_code
def yX11_looked : MethodName := ⟨RX11, "looked", "()I"⟩
abbrev cX11_judge : ByteArray := prog_13_method_77_code
def yX11_judge : MethodName := ⟨RX11, "judge", "(II)I"⟩
abbrev cX11_image : ByteArray := prog_13_method_78_code
def yX11_image : MethodName := ⟨RX11, "image", "()I"⟩
abbrev cX11_undo : ByteArray := prog_13_method_79_code
def yX11_undo : MethodName := ⟨RX11, "undo", "()I"⟩
abbrev cX11_body : ByteArray := prog_13_method_80_code
def yX11_body : MethodName := ⟨RX11, "body", "(I)V"⟩
abbrev cX11_trayFeeds : ByteArray := prog_13_method_81_code
def yX11_trayFeeds : MethodName := ⟨RX11, "trayFeeds", "(II)I"⟩
abbrev cX11_feedsAct : ByteArray := prog_13_method_82_code
def yX11_feedsAct : MethodName := ⟨RX11, "feedsAct", "(II)I"⟩
abbrev cX11_trayPrints : ByteArray := prog_13_method_83_code
def yX11_trayPrints : MethodName := ⟨RX11, "trayPrints", "(II)I"⟩
abbrev cX11_flippingPrints : ByteArray := prog_13_method_84_code
def yX11_flippingPrints : MethodName := ⟨RX11, "flippingPrints", "(II)I"⟩
abbrev cX11_printsAct : ByteArray := prog_13_method_85_code
def yX11_printsAct : MethodName := ⟨RX11, "printsAct", "(II)I"⟩
abbrev cX11_trayTells : ByteArray := prog_13_method_86_code
def yX11_trayTells : MethodName := ⟨RX11, "trayTells", "(II)I"⟩
abbrev cX11_tellsAct : ByteArray := prog_13_method_87_code
def yX11_tellsAct : MethodName := ⟨RX11, "tellsAct", "(II)I"⟩
abbrev cX11_act : ByteArray := prog_13_method_88_code
def yX11_act : MethodName := ⟨RX11, "act", "(III)I"⟩
abbrev cX11_trace : ByteArray := prog_13_method_89_code
def yX11_trace : MethodName := ⟨RX11, "trace", "(I)I"⟩
abbrev cX11_taken : ByteArray := prog_13_method_90_code
def yX11_taken : MethodName := ⟨RX11, "taken", "(II)I"⟩
abbrev cX11_count : ByteArray := prog_13_method_91_code
def yX11_count : MethodName := ⟨RX11, "count", "(I)I"⟩
abbrev cX11_isTape : ByteArray := prog_13_method_92_code
def yX11_isTape : MethodName := ⟨RX11, "isTape", "(I)Z"⟩
abbrev cX11_tape : ByteArray := prog_13_method_93_code
def yX11_tape : MethodName := ⟨RX11, "tape", "(III)I"⟩
abbrev cX11_narrow : ByteArray := prog_13_method_94_code
def yX11_narrow : MethodName := ⟨RX11, "narrow", "(IJ)J"⟩
abbrev cX11_item : ByteArray := prog_13_method_95_code
def yX11_item : MethodName := ⟨RX11, "item", "(IIJ)I"⟩
abbrev cX11_read : ByteArray := prog_13_method_96_code
def yX11_read : MethodName := ⟨RX11, "read", "(II)J"⟩
abbrev cX11_shift : ByteArray := prog_13_method_97_code
def yX11_shift : MethodName := ⟨RX11, "shift", "(IIIII)I"⟩
def RJ11 : String := "java/lang/Character"
def RJ9 : String := "java/lang/Math"
def RJ0 : String := "java/lang/String"
abbrev cJ0_length_8abf5 : ByteArray := prog_17_method_54_code
def yJ0_length_8abf5 : MethodName := ⟨RJ0, "length", "()I"⟩
abbrev cJ0_charAt_5068e : ByteArray := prog_17_method_56_code
def yJ0_charAt_5068e : MethodName := ⟨RJ0, "charAt", "(I)C"⟩
abbrev cJ0_indexOf_0f7a4 : ByteArray := prog_17_method_79_code
def yJ0_indexOf_0f7a4 : MethodName := ⟨RJ0, "indexOf", "(I)I"⟩
abbrev cJ0_indexOf_7cf53 : ByteArray := prog_17_method_80_code
def yJ0_indexOf_7cf53 : MethodName := ⟨RJ0, "indexOf", "(II)I"⟩
abbrev cJ0_coder_7d493 : ByteArray := prog_17_method_152_code
def yJ0_coder_7d493 : MethodName := ⟨RJ0, "coder", "()B"⟩
abbrev cJ0_isLatin1_aae02 : ByteArray := prog_17_method_154_code
def yJ0_isLatin1_aae02 : MethodName := ⟨RJ0, "isLatin1", "()Z"⟩
abbrev cJ0_checkIndex_df160 : ByteArray := prog_17_method_155_code
def yJ0_checkIndex_df160 : MethodName := ⟨RJ0, "checkIndex", "(II)V"⟩
def RJ1 : String := "java/lang/StringLatin1"
abbrev cJ1_charAt_3b067 : ByteArray := prog_18_method_2_code
def yJ1_charAt_3b067 : MethodName := ⟨RJ1, "charAt", "([BI)C"⟩
abbrev cJ1_canEncode_9a6ad : ByteArray := prog_18_method_4_code
def yJ1_canEncode_9a6ad : MethodName := ⟨RJ1, "canEncode", "(I)Z"⟩
abbrev cJ1_indexOf_4cfef : ByteArray := prog_18_method_22_code
def yJ1_indexOf_4cfef : MethodName := ⟨RJ1, "indexOf", "([BIII)I"⟩
abbrev cJ1_indexOfChar_4cfef : ByteArray := prog_18_method_23_code
def yJ1_indexOfChar_4cfef : MethodName := ⟨RJ1, "indexOfChar", "([BIII)I"⟩
def RJ2 : String := "java/lang/StringUTF16"
def RJ10 : String := "java/lang/System"
def RJ7 : String := "java/util/Arrays"
abbrev cJ7_fill_d0a16 : ByteArray := prog_21_method_101_code
def yJ7_fill_d0a16 : MethodName := ⟨RJ7, "fill", "([JJ)V"⟩
abbrev cJ7_fill_53178 : ByteArray := prog_21_method_103_code
def yJ7_fill_53178 : MethodName := ⟨RJ7, "fill", "([II)V"⟩
abbrev cJ7_copyOf_59c91 : ByteArray := prog_21_method_123_code
def yJ7_copyOf_59c91 : MethodName := ⟨RJ7, "copyOf", "([II)[I"⟩
def RJ3 : String := "jdk/internal/util/Preconditions"
abbrev cJ3_checkIndex_8e157 : ByteArray := prog_22_method_11_code
def yJ3_checkIndex_8e157 : MethodName := ⟨RJ3, "checkIndex", "(IILjava/util/function/BiFunction;)I"⟩
def RL : String := "BothSidesSheetLaw"
abbrev cL_law : ByteArray := code
abbrev vwCl : List vw_C := [(RX0, TX0, 5), (RX1, TX1, 3), (RX2, TX2, 4), (RX3, TX3, 4), (RX4, TX4, 2), (RX5, TX5, 8), (RX6, TX6, 6), (RX7, TX7, 2), (RX8, TX8, 3), (RX9, TX9, 4), (RX10, TX10, 11), (RX11, TX11, 69)]
abbrev q_M : Type := Nat × (MethodName × (ByteArray × (Nat × (Option FieldType × (Nat × (Nat × (Bool × (Nat × (Nat × (Nat × (Nat × Nat)))))))))))
def q_mt0 : List q_M := [(0, yX0_init, cX0_init, 1, none, 0, 5, true, 1206, 1205, 1009, 0, 2),
  (0, yX0_clear, cX0_clear, 1, none, 0, 5, false, 4076, 4074, 1009, 4075, 0),
  (0, yX0_doAct, cX0_doAct, 5, (some .int), 4, 0, false, 4080, 4078, 1009, 4079, 0),
  (0, yX0_numberAt, cX0_numberAt, 2, (some .int), 1, 0, false, 4104, 4102, 1009, 4103, 0),
  (0, yX0_begins, cX0_begins, 3, (some .boolean), 2, 1, false, 4088, 4087, 1009, 20, 0),
  (0, yX0_feeds, cX0_feeds, 4, (some .int), 3, 0, false, 4084, 4083, 1009, 19, 0),
  (0, yX0_prints, cX0_prints, 4, (some .int), 3, 0, false, 4092, 4091, 1009, 21, 0),
  (0, yX0_tells, cX0_tells, 4, (some .int), 3, 0, false, 4096, 4095, 1009, 22, 0),
  (1, yX1_init, cX1_init, 1, none, 0, 5, true, 1186, 1185, 1008, 0, 2),
  (1, yX1_copy, cX1_copy, 11, none, 4, 5, false, 3132, 3130, 1008, 3131, 0),
  (1, yX1_isDry, cX1_isDry, 3, (some .boolean), 3, 1, false, 3148, 3147, 1008, 0, 1),
  (1, yX1_withPage, cX1_withPage, 4, (some .int), 3, 0, false, 3153, 3152, 1008, 0, 1),
  (1, yX1_laidOut, cX1_laidOut, 2, (some .int), 2, 0, false, 3156, 3155, 1008, 0, 1),
  (1, yX1_gather, cX1_gather, 5, none, 2, 5, false, 3162, 3161, 1008, 13, 0),
  (2, yX2_init, cX2_init, 5, none, 4, 5, true, 3011, 3010, 1019, 0, 2),
  (2, yX2_pageFrom, cX2_pageFrom, 6, (some .int), 4, 0, false, 3136, 3134, 1019, 3135, 0),
  (2, yX2_holds, cX2_holds, 10, (some .boolean), 5, 1, false, 3139, 3138, 1019, 0, 1),
  (2, yX2_value, cX2_value, 5, (some .int), 5, 0, false, 3142, 3141, 1019, 0, 1),
  (2, yX2_isSo, cX2_isSo, 3, (some .boolean), 2, 1, false, 3145, 3144, 1019, 0, 1),
  (3, yX3_init, cX3_init, 2, none, 1, 5, true, 1058, 1057, 1004, 0, 2),
  (3, yX3_isFull, cX3_isFull, 1, (some .boolean), 0, 1, false, 3222, 3220, 1004, 3221, 0),
  (3, yX3_add, cX3_add, 4, (some .int), 3, 0, false, 3226, 3224, 1004, 3225, 0),
  (3, yX3_copyFrom, cX3_copyFrom, 3, none, 1, 5, false, 4064, 4062, 1004, 4063, 0),
  (4, yX4_init, cX4_init, 1, none, 0, 5, true, 1039, 1038, 1003, 0, 2),
  (4, yX4_copyFrom, cX4_copyFrom, 2, none, 1, 5, false, 3174, 3172, 1003, 3173, 0),
  (4, yX4_over, cX4_over, 1, (some .int), 1, 0, false, 3066, 3065, 1003, 0, 1),
  (4, yX4_about, cX4_about, 1, (some .int), 1, 0, false, 3069, 3068, 1003, 0, 1),
  (4, yX4_sideOf, cX4_sideOf, 3, (some .int), 2, 0, false, 3082, 3080, 1003, 3081, 0),
  (4, yX4_pageOn, cX4_pageOn, 3, (some .int), 2, 0, false, 3094, 3092, 1003, 3093, 0),
  (4, yX4_isDown, cX4_isDown, 3, (some .boolean), 2, 1, false, 3098, 3096, 1003, 3097, 0),
  (4, yX4_isRight, cX4_isRight, 2, (some .boolean), 1, 1, false, 3078, 3076, 1003, 3077, 0),
  (4, yX4_rights, cX4_rights, 3, (some .int), 0, 0, false, 3074, 3072, 1003, 3073, 0),
  (4, yX4_sidesWith, cX4_sidesWith, 4, (some .int), 1, 0, false, 3107, 3105, 1003, 3106, 0),
  (4, yX4_missing, cX4_missing, 3, (some .int), 0, 0, false, 3112, 3110, 1003, 3111, 0),
  (4, yX4_whereIs, cX4_whereIs, 4, (some .int), 1, 0, false, 3208, 3206, 1003, 3207, 0),
  (4, yX4_putBlank, cX4_putBlank, 4, none, 1, 5, false, 3043, 3041, 1003, 3042, 0),
  (4, yX4_doWay, cX4_doWay, 3, none, 1, 5, false, 3059, 3057, 1003, 3058, 0),
  (4, yX4_turnWhole, cX4_turnWhole, 4, none, 0, 5, false, 3063, 3062, 1003, 10, 0),
  (4, yX4_firstOtherwise, cX4_firstOtherwise, 3, (some .int), 1, 0, false, 3239, 3237, 1003, 3238, 0),
  (5, yX5_init, cX5_init, 1, none, 0, 5, true, 1136, 1135, 1006, 0, 2)]
def q_mt1 : List q_M := [(5, yX5_fault, cX5_fault, 1, (some .int), 0, 0, false, 3035, 3033, 1006, 3034, 0),
  (5, yX5_made, cX5_made, 1, (some (.object "BothSidesSheet$Job")), 0, 6, false, 2232, 2230, 1006, 2231, 0),
  (5, yX5_clauses, cX5_clauses, 2, (some .boolean), 0, 1, false, 2077, 2075, 1006, 2076, 0),
  (5, yX5_clause, cX5_clause, 3, (some .boolean), 0, 1, false, 2081, 2080, 1006, 1, 0),
  (5, yX5_bound, cX5_bound, 3, (some .boolean), 1, 1, false, 2137, 2136, 1006, 4, 0),
  (5, yX5_anyOf, cX5_anyOf, 2, (some .boolean), 1, 1, false, 2148, 2147, 1006, 6, 0),
  (5, yX5_allOf, cX5_allOf, 2, (some .boolean), 1, 1, false, 2152, 2151, 1006, 7, 0),
  (5, yX5_one, cX5_one, 3, (some .boolean), 1, 1, false, 2156, 2155, 1006, 8, 0),
  (5, yX5_test, cX5_test, 5, (some .boolean), 1, 1, false, 2160, 2159, 1006, 9, 0),
  (5, yX5_word, cX5_word, 4, (some .int), 0, 0, false, 2085, 2084, 1006, 2, 0),
  (5, yX5_number, cX5_number, 4, (some .int), 0, 0, false, 2141, 2140, 1006, 5, 0),
  (5, yX5_sign, cX5_sign, 1, (some .int), 0, 0, false, 2133, 2132, 1006, 3, 0),
  (6, yX6_init, cX6_init, 2, none, 0, 5, true, 1033, 1032, 1002, 0, 2),
  (6, yX6_copyFrom, cX6_copyFrom, 3, none, 1, 5, false, 4054, 4052, 1002, 4053, 0),
  (7, yX7_init, cX7_init, 1, none, 0, 5, true, 1142, 1141, 1007, 0, 2),
  (7, yX7_add, cX7_add, 2, none, 1, 5, false, 2228, 2226, 1007, 2227, 0),
  (8, yX8_init, cX8_init, 1, none, 0, 5, true, 1230, 1229, 1010, 0, 2),
  (8, yX8_isRow, cX8_isRow, 1, (some .boolean), 0, 1, false, 4046, 4044, 1010, 4045, 0),
  (8, yX8_has, cX8_has, 2, (some .boolean), 1, 1, false, 4136, 4134, 1010, 4135, 0),
  (8, yX8_begin, cX8_begin, 3, none, 2, 5, false, 4125, 4123, 1010, 4124, 0),
  (8, yX8_asItem, cX8_asItem, 3, (some .long), 1, 4, false, 4140, 4138, 1010, 4139, 0),
  (9, yX9_init, cX9_init, 1, none, 0, 5, true, 1084, 1083, 1005, 0, 2),
  (9, yX9_begin, cX9_begin, 3, none, 2, 5, false, 2050, 2048, 1005, 2049, 0),
  (9, yX9_copyFrom, cX9_copyFrom, 2, none, 1, 5, false, 4059, 4057, 1005, 4058, 0),
  (10, yX10_init, cX10_init, 2, none, 0, 5, true, 1025, 1024, 1001, 0, 2),
  (10, yX10_isWithin, cX10_isWithin, 3, (some .boolean), 3, 1, false, 2046, 2045, 1001, 0, 1),
  (10, yX10_isTray, cX10_isTray, 2, (some .boolean), 1, 1, false, 2061, 2060, 1001, 0, 0),
  (10, yX10_isJob, cX10_isJob, 2, (some .boolean), 1, 1, false, 3121, 3120, 1001, 12, 0),
  (10, yX10_isSheet, cX10_isSheet, 2, (some .boolean), 1, 1, false, 3090, 3089, 1001, 11, 0),
  (10, yX10_isTape, cX10_isTape, 1, (some .boolean), 1, 1, false, 4042, 4041, 1001, 0, 1),
  (10, yX10_isWay, cX10_isWay, 1, (some .boolean), 1, 1, false, 3055, 3054, 1001, 0, 1),
  (10, yX10_isEither, cX10_isEither, 1, (some .boolean), 1, 1, false, 3124, 3123, 1001, 0, 1),
  (10, yX10_isSide, cX10_isSide, 3, (some .boolean), 3, 1, false, 3218, 3217, 1001, 0, 1),
  (10, yX10_tray, cX10_tray, 3, (some .int), 2, 0, false, 2043, 2041, 1001, 2042, 0),
  (10, yX10_of, cX10_of, 3, (some .int), 2, 0, false, 2057, 2055, 1001, 2056, 0),
  (10, yX10_row, cX10_row, 5, (some .int), 3, 0, false, 2065, 2063, 1001, 2064, 0),
  (10, yX10_feed, cX10_feed, 2, (some .int), 1, 0, false, 2069, 2067, 1001, 2068, 0),
  (10, yX10_job, cX10_job, 2, (some .int), 0, 0, false, 2073, 2071, 1001, 2072, 0),
  (10, yX10_load, cX10_load, 2, (some .int), 1, 0, false, 3039, 3037, 1001, 3038, 0),
  (10, yX10_empty, cX10_empty, 2, (some .int), 0, 0, false, 3048, 3046, 1001, 3047, 0)]
def q_mt2 : List q_M := [(10, yX10_turn, cX10_turn, 2, (some .int), 1, 0, false, 3052, 3050, 1001, 3051, 0),
  (10, yX10_sheet, cX10_sheet, 3, (some .int), 2, 0, false, 3086, 3084, 1001, 3085, 0),
  (10, yX10_told, cX10_told, 2, (some .int), 1, 0, false, 3103, 3101, 1001, 3102, 0),
  (10, yX10_jobs, cX10_jobs, 3, (some .int), 2, 0, false, 3117, 3115, 1001, 3116, 0),
  (10, yX10_run, cX10_run, 4, (some .int), 2, 0, false, 3128, 3126, 1001, 3127, 0),
  (10, yX10_tryRun, cX10_tryRun, 4, none, 3, 5, false, 3170, 3169, 1001, 14, 0),
  (10, yX10_rightsAfter, cX10_rightsAfter, 3, (some .int), 2, 0, false, 3183, 3182, 1001, 15, 0),
  (10, yX10_rightsBehind, cX10_rightsBehind, 4, (some .int), 3, 0, false, 3195, 3194, 1001, 16, 0),
  (10, yX10_after, cX10_after, 4, (some .int), 3, 0, false, 3166, 3164, 1001, 3165, 0),
  (10, yX10_best, cX10_best, 6, (some .int), 1, 0, false, 3179, 3177, 1001, 3178, 0),
  (10, yX10_uses, cX10_uses, 3, (some .int), 2, 0, false, 3187, 3185, 1001, 3186, 0),
  (10, yX10_way, cX10_way, 10, (some .int), 5, 0, false, 3191, 3189, 1001, 3190, 0),
  (10, yX10_twice, cX10_twice, 10, (some .int), 3, 0, false, 3199, 3197, 1001, 3198, 0),
  (10, yX10_find, cX10_find, 2, (some .int), 1, 0, false, 3204, 3202, 1001, 3203, 0),
  (10, yX10_see, cX10_see, 4, (some .int), 3, 0, false, 3212, 3210, 1001, 3211, 0),
  (10, yX10_note, cX10_note, 4, (some .int), 4, 0, false, 3215, 3214, 1001, 0, 1),
  (10, yX10_isSeenAfter, cX10_isSeenAfter, 4, (some .boolean), 3, 1, false, 3235, 3234, 1001, 17, 0),
  (10, yX10_which, cX10_which, 4, (some .int), 1, 0, false, 3231, 3229, 1001, 3230, 0),
  (10, yX10_can, cX10_can, 7, (some .int), 3, 0, false, 4003, 4001, 1001, 4002, 0),
  (10, yX10_odds, cX10_odds, 6, (some .long), 3, 4, false, 4007, 4005, 1001, 4006, 0),
  (10, yX10_mean, cX10_mean, 5, (some .long), 2, 4, false, 4015, 4013, 1001, 4014, 0),
  (10, yX10_partInLowest, cX10_partInLowest, 5, (some .long), 3, 4, false, 4011, 4010, 1001, 0, 1),
  (10, yX10_plan, cX10_plan, 4, (some .int), 3, 0, false, 4019, 4017, 1001, 4018, 0),
  (10, yX10_done, cX10_done, 3, (some .int), 1, 0, false, 4023, 4021, 1001, 4022, 0),
  (10, yX10_doPlanned, cX10_doPlanned, 4, none, 3, 5, false, 4027, 4026, 1001, 18, 0),
  (10, yX10_book, cX10_book, 4, (some .int), 3, 0, false, 4031, 4029, 1001, 4030, 0),
  (10, yX10_looked, cX10_looked, 1, (some .int), 0, 0, false, 4035, 4033, 1001, 4034, 0),
  (10, yX10_judge, cX10_judge, 5, (some .int), 2, 0, false, 4039, 4037, 1001, 4038, 0),
  (10, yX10_image, cX10_image, 1, (some .int), 0, 0, false, 4050, 4048, 1001, 4049, 0),
  (10, yX10_undo, cX10_undo, 1, (some .int), 0, 0, false, 4068, 4066, 1001, 4067, 0),
  (10, yX10_act, cX10_act, 4, (some .int), 3, 0, false, 4072, 4070, 1001, 4071, 0),
  (10, yX10_trace, cX10_trace, 2, (some .int), 1, 0, false, 4100, 4098, 1001, 4099, 0),
  (10, yX10_taken, cX10_taken, 4, (some .int), 2, 0, false, 4108, 4106, 1001, 4107, 0),
  (10, yX10_isKindOrUnder, cX10_isKindOrUnder, 4, (some .boolean), 2, 1, false, 4111, 4110, 1001, 0, 1),
  (10, yX10_count, cX10_count, 2, (some .int), 1, 0, false, 4117, 4115, 1001, 4116, 0),
  (10, yX10_tape, cX10_tape, 4, (some .int), 3, 0, false, 4121, 4119, 1001, 4120, 0),
  (10, yX10_item, cX10_item, 6, (some .int), 3, 0, false, 4132, 4130, 1001, 4131, 0),
  (10, yX10_read, cX10_read, 3, (some .long), 2, 4, false, 4144, 4142, 1001, 4143, 0),
  (10, yX10_shift, cX10_shift, 8, (some .int), 5, 0, false, 4148, 4146, 1001, 4147, 0),
  (11, yX11_init, cX11_init, 1, none, 0, 5, true, 4154, 4153, 1011, 0, 2)]
def q_mt3 : List q_M := [(11, yX11_in, cX11_in, 4, (some .boolean), 3, 1, false, 5132, 5131, 1011, 23, 0),
  (11, yX11_isTray, cX11_isTray, 2, (some .boolean), 1, 1, false, 5140, 5139, 1011, 24, 0),
  (11, yX11_tray, cX11_tray, 4, (some .int), 2, 0, false, 5128, 5126, 1011, 5127, 0),
  (11, yX11_of, cX11_of, 3, (some .int), 2, 0, false, 5136, 5134, 1011, 5135, 0),
  (11, yX11_row, cX11_row, 5, (some .int), 3, 0, false, 5144, 5142, 1011, 5143, 0),
  (11, yX11_feed, cX11_feed, 2, (some .int), 1, 0, false, 5148, 5146, 1011, 5147, 0),
  (11, yX11_next, cX11_next, 1, (some .int), 0, 0, false, 5168, 5167, 1011, 28, 0),
  (11, yX11_second, cX11_second, 1, (some .int), 0, 0, false, 5180, 5179, 1011, 31, 0),
  (11, yX11_takes, cX11_takes, 2, (some .boolean), 1, 1, false, 5176, 5175, 1011, 30, 0),
  (11, yX11_takesWord, cX11_takesWord, 4, (some .boolean), 2, 1, false, 5172, 5171, 1011, 29, 0),
  (11, yX11_isDigit, cX11_isDigit, 1, (some .boolean), 0, 1, false, 5200, 5199, 1011, 36, 0),
  (11, yX11_takesNumber, cX11_takesNumber, 2, (some .boolean), 0, 1, false, 5196, 5195, 1011, 35, 0),
  (11, yX11_emits, cX11_emits, 2, none, 1, 5, false, 5204, 5203, 1011, 37, 0),
  (11, yX11_whole, cX11_whole, 1, none, 0, 5, false, 5208, 5207, 1011, 38, 0),
  (11, yX11_settle, cX11_settle, 2, none, 1, 5, false, 5212, 5211, 1011, 39, 0),
  (11, yX11_place, cX11_place, 2, (some .int), 1, 0, false, 5192, 5191, 1011, 34, 0),
  (11, yX11_takesTest, cX11_takesTest, 3, (some .boolean), 0, 1, false, 5188, 5187, 1011, 33, 0),
  (11, yX11_takesE, cX11_takesE, 4, (some .boolean), 1, 1, false, 5184, 5183, 1011, 32, 0),
  (11, yX11_takesHead, cX11_takesHead, 2, (some .boolean), 1, 1, false, 5164, 5163, 1011, 27, 0),
  (11, yX11_takesClause, cX11_takesClause, 2, (some .boolean), 1, 1, false, 5160, 5159, 1011, 26, 0),
  (11, yX11_goesText, cX11_goesText, 3, (some .boolean), 1, 1, false, 5156, 5155, 1011, 25, 0),
  (11, yX11_job, cX11_job, 2, (some .int), 0, 0, false, 5152, 5150, 1011, 5151, 0),
  (11, yX11_isJob, cX11_isJob, 2, (some .boolean), 1, 1, false, 5220, 5219, 1011, 40, 0),
  (11, yX11_lastOf, cX11_lastOf, 6, (some .int), 3, 0, false, 5228, 5227, 1011, 42, 0),
  (11, yX11_first, cX11_first, 3, (some .int), 1, 0, false, 5224, 5223, 1011, 41, 0),
  (11, yX11_last, cX11_last, 3, (some .int), 1, 0, false, 5232, 5231, 1011, 43, 0),
  (11, yX11_jobs, cX11_jobs, 3, (some .int), 2, 0, false, 5216, 5214, 1011, 5215, 0),
  (11, yX11_factOf, cX11_factOf, 5, (some .int), 4, 0, false, 6072, 6071, 1011, 57, 0),
  (11, yX11_holds, cX11_holds, 10, (some .boolean), 4, 1, false, 6068, 6067, 1011, 56, 0),
  (11, yX11_anyHolds, cX11_anyHolds, 7, (some .boolean), 5, 1, false, 6064, 6063, 1011, 55, 0),
  (11, yX11_over, cX11_over, 4, none, 1, 5, false, 6020, 6019, 1011, 47, 0),
  (11, yX11_about, cX11_about, 2, none, 1, 5, false, 6024, 6023, 1011, 48, 0),
  (11, yX11_loads, cX11_loads, 3, none, 1, 5, false, 6000, 5239, 1011, 44, 0),
  (11, yX11_load, cX11_load, 2, (some .int), 1, 0, false, 5236, 5234, 1011, 5235, 0),
  (11, yX11_empty, cX11_empty, 2, (some .int), 0, 0, false, 6004, 6002, 1011, 6003, 0),
  (11, yX11_turnsOver, cX11_turnsOver, 6, none, 0, 5, false, 6016, 6015, 1011, 46, 0),
  (11, yX11_goWay, cX11_goWay, 3, none, 1, 5, false, 6012, 6011, 1011, 45, 0),
  (11, yX11_isRight, cX11_isRight, 2, (some .boolean), 1, 1, false, 6032, 6031, 1011, 50, 0),
  (11, yX11_right, cX11_right, 3, (some .int), 0, 0, false, 6028, 6027, 1011, 49, 0),
  (11, yX11_sidesWith, cX11_sidesWith, 4, (some .int), 1, 0, false, 6044, 6043, 1011, 51, 0)]
def q_mt4 : List q_M := [(11, yX11_turn, cX11_turn, 2, (some .int), 1, 0, false, 6008, 6006, 1011, 6007, 0),
  (11, yX11_sheet, cX11_sheet, 3, (some .int), 2, 0, false, 6036, 6034, 1011, 6035, 0),
  (11, yX11_missing, cX11_missing, 3, (some .int), 0, 0, false, 6048, 6047, 1011, 52, 0),
  (11, yX11_told, cX11_told, 2, (some .int), 1, 0, false, 6040, 6038, 1011, 6039, 0),
  (11, yX11_prints, cX11_prints, 5, none, 3, 5, false, 6080, 6079, 1011, 59, 0),
  (11, yX11_putsOut, cX11_putsOut, 4, none, 2, 5, false, 6084, 6083, 1011, 60, 0),
  (11, yX11_goesOn, cX11_goesOn, 5, (some .int), 3, 0, false, 6060, 6059, 1011, 54, 0),
  (11, yX11_told1, cX11_told1, 4, (some .int), 2, 0, false, 6076, 6075, 1011, 58, 0),
  (11, yX11_goRun, cX11_goRun, 9, none, 2, 5, false, 6056, 6055, 1011, 53, 0),
  (11, yX11_run, cX11_run, 3, (some .int), 2, 0, false, 6052, 6050, 1011, 6051, 0),
  (11, yX11_save, cX11_save, 2, none, 0, 5, false, 6092, 6091, 1011, 61, 0),
  (11, yX11_putBack, cX11_putBack, 2, none, 0, 5, false, 6096, 6095, 1011, 62, 0),
  (11, yX11_after, cX11_after, 5, (some .int), 3, 0, false, 6088, 6086, 1011, 6087, 0),
  (11, yX11_rightAfter, cX11_rightAfter, 3, (some .int), 2, 0, false, 6104, 6103, 1011, 63, 0),
  (11, yX11_best, cX11_best, 6, (some .int), 1, 0, false, 6100, 6098, 1011, 6099, 0),
  (11, yX11_uses, cX11_uses, 4, (some .int), 2, 0, false, 6109, 6107, 1011, 6108, 0),
  (11, yX11_rightTwice, cX11_rightTwice, 7, (some .int), 5, 0, false, 6117, 6116, 1011, 64, 0),
  (11, yX11_way, cX11_way, 10, (some .int), 5, 0, false, 6113, 6111, 1011, 6112, 0),
  (11, yX11_twice, cX11_twice, 10, (some .int), 3, 0, false, 6121, 6119, 1011, 6120, 0),
  (11, yX11_find, cX11_find, 3, (some .int), 1, 0, false, 6125, 6123, 1011, 6124, 0),
  (11, yX11_isOn, cX11_isOn, 4, (some .boolean), 3, 1, false, 6133, 6132, 1011, 65, 0),
  (11, yX11_see, cX11_see, 4, (some .int), 3, 0, false, 6129, 6127, 1011, 6128, 0),
  (11, yX11_on, cX11_on, 2, (some .int), 1, 0, false, 6145, 6144, 1011, 67, 0),
  (11, yX11_isSeenAfter, cX11_isSeenAfter, 5, (some .boolean), 2, 1, false, 6141, 6140, 1011, 66, 0),
  (11, yX11_which, cX11_which, 4, (some .int), 1, 0, false, 6137, 6135, 1011, 6136, 0),
  (11, yX11_can, cX11_can, 8, (some .int), 3, 0, false, 6149, 6147, 1011, 6148, 0),
  (11, yX11_divisor, cX11_divisor, 6, (some .int), 2, 0, false, 6162, 6161, 1011, 69, 0),
  (11, yX11_lowest, cX11_lowest, 5, (some .long), 3, 4, false, 6158, 6157, 1011, 68, 0),
  (11, yX11_odds, cX11_odds, 6, (some .long), 3, 4, false, 6153, 6151, 1011, 6152, 0),
  (11, yX11_mean, cX11_mean, 5, (some .long), 2, 4, false, 6166, 6164, 1011, 6165, 0),
  (11, yX11_plan, cX11_plan, 4, (some .int), 3, 0, false, 6170, 6168, 1011, 6169, 0),
  (11, yX11_goPlan, cX11_goPlan, 2, none, 1, 5, false, 6178, 6177, 1011, 70, 0),
  (11, yX11_done, cX11_done, 3, (some .int), 1, 0, false, 6174, 6172, 1011, 6173, 0),
  (11, yX11_book, cX11_book, 4, (some .int), 3, 0, false, 6182, 6180, 1011, 6181, 0),
  (11, yX11_looked, cX11_looked, 2, (some .int), 0, 0, false, 6186, 6184, 1011, 6185, 0),
  (11, yX11_judge, cX11_judge, 4, (some .int), 2, 0, false, 6190, 6188, 1011, 6189, 0),
  (11, yX11_image, cX11_image, 2, (some .int), 0, 0, false, 6198, 6196, 1011, 6197, 0),
  (11, yX11_undo, cX11_undo, 2, (some .int), 0, 0, false, 6202, 6200, 1011, 6201, 0),
  (11, yX11_body, cX11_body, 2, none, 1, 5, false, 6214, 6213, 1011, 73, 0),
  (11, yX11_trayFeeds, cX11_trayFeeds, 3, (some .int), 2, 0, false, 6218, 6217, 1011, 74, 0)]
def q_mt5 : List q_M := [(11, yX11_feedsAct, cX11_feedsAct, 3, (some .int), 2, 0, false, 6210, 6209, 1011, 72, 0),
  (11, yX11_trayPrints, cX11_trayPrints, 3, (some .int), 2, 0, false, 6230, 6229, 1011, 77, 0),
  (11, yX11_flippingPrints, cX11_flippingPrints, 3, (some .int), 2, 0, false, 6226, 6225, 1011, 76, 0),
  (11, yX11_printsAct, cX11_printsAct, 4, (some .int), 2, 0, false, 6222, 6221, 1011, 75, 0),
  (11, yX11_trayTells, cX11_trayTells, 3, (some .int), 2, 0, false, 6238, 6237, 1011, 79, 0),
  (11, yX11_tellsAct, cX11_tellsAct, 4, (some .int), 2, 0, false, 6234, 6233, 1011, 78, 0),
  (11, yX11_act, cX11_act, 4, (some .int), 3, 0, false, 6206, 6204, 1011, 6205, 0),
  (11, yX11_trace, cX11_trace, 2, (some .int), 1, 0, false, 7002, 7000, 1011, 7001, 0),
  (11, yX11_taken, cX11_taken, 4, (some .int), 2, 0, false, 7006, 7004, 1011, 7005, 0),
  (11, yX11_count, cX11_count, 2, (some .int), 1, 0, false, 7010, 7008, 1011, 7009, 0),
  (11, yX11_isTape, cX11_isTape, 2, (some .boolean), 1, 1, false, 6194, 6193, 1011, 71, 0),
  (11, yX11_tape, cX11_tape, 5, (some .int), 3, 0, false, 7014, 7012, 1011, 7013, 0),
  (11, yX11_narrow, cX11_narrow, 4, (some .long), 2, 4, false, 7022, 7021, 1011, 80, 0),
  (11, yX11_item, cX11_item, 5, (some .int), 3, 0, false, 7018, 7016, 1011, 7017, 0),
  (11, yX11_read, cX11_read, 3, (some .long), 2, 4, false, 7026, 7024, 1011, 7025, 0),
  (11, yX11_shift, cX11_shift, 7, (some .int), 5, 0, false, 7030, 7028, 1011, 7029, 0),
  (12, yJ0_charAt_5068e, cJ0_charAt_5068e, 2, (some .char), 1, 3, false, 2090, 2088, 1013, 2089, 0),
  (12, yJ0_indexOf_0f7a4, cJ0_indexOf_0f7a4, 2, (some .int), 1, 0, false, 2165, 2163, 1013, 2164, 0),
  (12, yJ0_indexOf_7cf53, cJ0_indexOf_7cf53, 3, (some .int), 2, 0, false, 2169, 2167, 1013, 2168, 0),
  (12, yJ0_length_8abf5, cJ0_length_8abf5, 1, (some .int), 0, 0, false, 2173, 2171, 1013, 2172, 0),
  (12, yJ0_coder_7d493, cJ0_coder_7d493, 1, (some .byte), 0, 2, false, 2177, 2175, 1013, 2176, 0),
  (12, yJ0_isLatin1_aae02, cJ0_isLatin1_aae02, 1, (some .boolean), 0, 1, false, 2094, 2092, 1013, 2093, 0),
  (12, yJ0_checkIndex_df160, cJ0_checkIndex_df160, 2, none, 2, 5, false, 2102, 2101, 1013, 0, 1),
  (13, yJ1_charAt_3b067, cJ1_charAt_3b067, 2, (some .char), 2, 3, false, 2099, 2098, 1014, 0, 1),
  (13, yJ1_canEncode_9a6ad, cJ1_canEncode_9a6ad, 1, (some .boolean), 1, 1, false, 2183, 2182, 1014, 0, 1),
  (13, yJ1_indexOf_4cfef, cJ1_indexOf_4cfef, 4, (some .int), 4, 0, false, 2180, 2179, 1014, 0, 1),
  (13, yJ1_indexOfChar_4cfef, cJ1_indexOfChar_4cfef, 6, (some .int), 4, 0, false, 2188, 2187, 1014, 0, 1),
  (15, yJ7_fill_53178, cJ7_fill_53178, 4, none, 2, 5, false, 2053, 2052, 1012, 0, 1),
  (15, yJ7_fill_d0a16, cJ7_fill_d0a16, 5, none, 2, 5, false, 4128, 4127, 1012, 0, 1),
  (15, yJ7_copyOf_59c91, cJ7_copyOf_59c91, 3, (some (.array .int)), 2, 6, false, 2237, 2236, 1012, 0, 1),
  (16, yJ3_checkIndex_8e157, cJ3_checkIndex_8e157, 3, (some .int), 3, 0, false, 2107, 2106, 1015, 0, 1),
  (18, objectInit, object_method_1_code, 1, none, 0, 5, true, 1028, 1027, 0, 0, 2),
  (17, x, code, 4, ret, 1, 1, false, 0, 0, 0, 0, 1)]
def q_mt : List q_M := q_mt0 ++ (q_mt1 ++ (q_mt2 ++ (q_mt3 ++ (q_mt4 ++ (q_mt5)))))
def q_m0 : q_M := (99, objectInit, code, 0, none, 0, 9, false, 0, 0, 0, 0, 9)
def mT (μ : Nat) : q_M := q_mt.getD μ q_m0
def mO (μ : Nat) : Nat := (mT μ).1
def mY (μ : Nat) : MethodName := (mT μ).2.1
def mB (μ : Nat) : ByteArray := (mT μ).2.2.1
def mL (μ : Nat) : Nat := (mT μ).2.2.2.1
def mR (μ : Nat) : Option FieldType := (mT μ).2.2.2.2.1
def mA (μ : Nat) : Nat := (mT μ).2.2.2.2.2.1
def mK (μ : Nat) : Nat := (mT μ).2.2.2.2.2.2.1
def mI (μ : Nat) : Bool := (mT μ).2.2.2.2.2.2.2.1
def mP (μ : Nat) : Nat := (mT μ).2.2.2.2.2.2.2.2.1
def mS (μ : Nat) : Nat := (mT μ).2.2.2.2.2.2.2.2.2.1
def mN (μ : Nat) : Nat := (mT μ).2.2.2.2.2.2.2.2.2.2.1
def mQ (μ : Nat) : Nat := (mT μ).2.2.2.2.2.2.2.2.2.2.2.1
def mD (μ : Nat) : Nat := (mT μ).2.2.2.2.2.2.2.2.2.2.2.2
theorem mB_0 : mB 0 = cX0_init := rfl
theorem mL_0 : mL 0 = 1 := rfl
theorem mO_0 : mO 0 = 0 := rfl
theorem mK_0 : mK 0 = 5 := rfl
theorem mI_0 : mI 0 = true := rfl
theorem mB_1 : mB 1 = cX0_clear := rfl
theorem mL_1 : mL 1 = 1 := rfl
theorem mO_1 : mO 1 = 0 := rfl
theorem mK_1 : mK 1 = 5 := rfl
theorem mI_1 : mI 1 = false := rfl
theorem mB_2 : mB 2 = cX0_doAct := rfl
theorem mL_2 : mL 2 = 5 := rfl
theorem mO_2 : mO 2 = 0 := rfl
theorem mK_2 : mK 2 = 0 := rfl
theorem mI_2 : mI 2 = false := rfl
theorem mB_3 : mB 3 = cX0_numberAt := rfl
theorem mL_3 : mL 3 = 2 := rfl
theorem mO_3 : mO 3 = 0 := rfl
theorem mK_3 : mK 3 = 0 := rfl
theorem mI_3 : mI 3 = false := rfl
theorem mB_4 : mB 4 = cX0_begins := rfl
theorem mL_4 : mL 4 = 3 := rfl
theorem mO_4 : mO 4 = 0 := rfl
theorem mK_4 : mK 4 = 1 := rfl
theorem mI_4 : mI 4 = false := rfl
theorem mB_5 : mB 5 = cX0_feeds := rfl
theorem mL_5 : mL 5 = 4 := rfl
theorem mO_5 : mO 5 = 0 := rfl
theorem mK_5 : mK 5 = 0 := rfl
theorem mI_5 : mI 5 = false := rfl
theorem mB_6 : mB 6 = cX0_prints := rfl
theorem mL_6 : mL 6 = 4 := rfl
theorem mO_6 : mO 6 = 0 := rfl
theorem mK_6 : mK 6 = 0 := rfl
theorem mI_6 : mI 6 = false := rfl
theorem mB_7 : mB 7 = cX0_tells := rfl
theorem mL_7 : mL 7 = 4 := rfl
theorem mO_7 : mO 7 = 0 := rfl
theorem mK_7 : mK 7 = 0 := rfl
theorem mI_7 : mI 7 = false := rfl
theorem mB_8 : mB 8 = cX1_init := rfl
theorem mL_8 : mL 8 = 1 := rfl
theorem mO_8 : mO 8 = 1 := rfl
theorem mK_8 : mK 8 = 5 := rfl
theorem mI_8 : mI 8 = true := rfl
theorem mB_9 : mB 9 = cX1_copy := rfl
theorem mL_9 : mL 9 = 11 := rfl
theorem mO_9 : mO 9 = 1 := rfl
theorem mK_9 : mK 9 = 5 := rfl
theorem mI_9 : mI 9 = false := rfl
theorem mB_10 : mB 10 = cX1_isDry := rfl
theorem mL_10 : mL 10 = 3 := rfl
theorem mO_10 : mO 10 = 1 := rfl
theorem mK_10 : mK 10 = 1 := rfl
theorem mI_10 : mI 10 = false := rfl
theorem mB_11 : mB 11 = cX1_withPage := rfl
theorem mL_11 : mL 11 = 4 := rfl
theorem mO_11 : mO 11 = 1 := rfl
theorem mK_11 : mK 11 = 0 := rfl
theorem mI_11 : mI 11 = false := rfl
theorem mB_12 : mB 12 = cX1_laidOut := rfl
theorem mL_12 : mL 12 = 2 := rfl
theorem mO_12 : mO 12 = 1 := rfl
theorem mK_12 : mK 12 = 0 := rfl
theorem mI_12 : mI 12 = false := rfl
theorem mB_13 : mB 13 = cX1_gather := rfl
theorem mL_13 : mL 13 = 5 := rfl
theorem mO_13 : mO 13 = 1 := rfl
theorem mK_13 : mK 13 = 5 := rfl
theorem mI_13 : mI 13 = false := rfl
theorem mB_14 : mB 14 = cX2_init := rfl
theorem mL_14 : mL 14 = 5 := rfl
theorem mO_14 : mO 14 = 2 := rfl
theorem mK_14 : mK 14 = 5 := rfl
theorem mI_14 : mI 14 = true := rfl
theorem mB_15 : mB 15 = cX2_pageFrom := rfl
theorem mL_15 : mL 15 = 6 := rfl
theorem mO_15 : mO 15 = 2 := rfl
theorem mK_15 : mK 15 = 0 := rfl
theorem mI_15 : mI 15 = false := rfl
theorem mB_16 : mB 16 = cX2_holds := rfl
theorem mL_16 : mL 16 = 10 := rfl
theorem mO_16 : mO 16 = 2 := rfl
theorem mK_16 : mK 16 = 1 := rfl
theorem mI_16 : mI 16 = false := rfl
theorem mB_17 : mB 17 = cX2_value := rfl
theorem mL_17 : mL 17 = 5 := rfl
theorem mO_17 : mO 17 = 2 := rfl
theorem mK_17 : mK 17 = 0 := rfl
theorem mI_17 : mI 17 = false := rfl
theorem mB_18 : mB 18 = cX2_isSo := rfl
theorem mL_18 : mL 18 = 3 := rfl
theorem mO_18 : mO 18 = 2 := rfl
theorem mK_18 : mK 18 = 1 := rfl
theorem mI_18 : mI 18 = false := rfl
theorem mB_19 : mB 19 = cX3_init := rfl
theorem mL_19 : mL 19 = 2 := rfl
theorem mO_19 : mO 19 = 3 := rfl
theorem mK_19 : mK 19 = 5 := rfl
theorem mI_19 : mI 19 = true := rfl
theorem mB_20 : mB 20 = cX3_isFull := rfl
theorem mL_20 : mL 20 = 1 := rfl
theorem mO_20 : mO 20 = 3 := rfl
theorem mK_20 : mK 20 = 1 := rfl
theorem mI_20 : mI 20 = false := rfl
theorem mB_21 : mB 21 = cX3_add := rfl
theorem mL_21 : mL 21 = 4 := rfl
theorem mO_21 : mO 21 = 3 := rfl
theorem mK_21 : mK 21 = 0 := rfl
theorem mI_21 : mI 21 = false := rfl
theorem mB_22 : mB 22 = cX3_copyFrom := rfl
theorem mL_22 : mL 22 = 3 := rfl
theorem mO_22 : mO 22 = 3 := rfl
theorem mK_22 : mK 22 = 5 := rfl
theorem mI_22 : mI 22 = false := rfl
theorem mB_23 : mB 23 = cX4_init := rfl
theorem mL_23 : mL 23 = 1 := rfl
theorem mO_23 : mO 23 = 4 := rfl
theorem mK_23 : mK 23 = 5 := rfl
theorem mI_23 : mI 23 = true := rfl
theorem mB_24 : mB 24 = cX4_copyFrom := rfl
theorem mL_24 : mL 24 = 2 := rfl
theorem mO_24 : mO 24 = 4 := rfl
theorem mK_24 : mK 24 = 5 := rfl
theorem mI_24 : mI 24 = false := rfl
theorem mB_25 : mB 25 = cX4_over := rfl
theorem mL_25 : mL 25 = 1 := rfl
theorem mO_25 : mO 25 = 4 := rfl
theorem mK_25 : mK 25 = 0 := rfl
theorem mI_25 : mI 25 = false := rfl
theorem mB_26 : mB 26 = cX4_about := rfl
theorem mL_26 : mL 26 = 1 := rfl
theorem mO_26 : mO 26 = 4 := rfl
theorem mK_26 : mK 26 = 0 := rfl
theorem mI_26 : mI 26 = false := rfl
theorem mB_27 : mB 27 = cX4_sideOf := rfl
theorem mL_27 : mL 27 = 3 := rfl
theorem mO_27 : mO 27 = 4 := rfl
theorem mK_27 : mK 27 = 0 := rfl
theorem mI_27 : mI 27 = false := rfl
theorem mB_28 : mB 28 = cX4_pageOn := rfl
theorem mL_28 : mL 28 = 3 := rfl
theorem mO_28 : mO 28 = 4 := rfl
theorem mK_28 : mK 28 = 0 := rfl
theorem mI_28 : mI 28 = false := rfl
theorem mB_29 : mB 29 = cX4_isDown := rfl
theorem mL_29 : mL 29 = 3 := rfl
theorem mO_29 : mO 29 = 4 := rfl
theorem mK_29 : mK 29 = 1 := rfl
theorem mI_29 : mI 29 = false := rfl
theorem mB_30 : mB 30 = cX4_isRight := rfl
theorem mL_30 : mL 30 = 2 := rfl
theorem mO_30 : mO 30 = 4 := rfl
theorem mK_30 : mK 30 = 1 := rfl
theorem mI_30 : mI 30 = false := rfl
theorem mB_31 : mB 31 = cX4_rights := rfl
theorem mL_31 : mL 31 = 3 := rfl
theorem mO_31 : mO 31 = 4 := rfl
theorem mK_31 : mK 31 = 0 := rfl
theorem mI_31 : mI 31 = false := rfl
theorem mB_32 : mB 32 = cX4_sidesWith := rfl
theorem mL_32 : mL 32 = 4 := rfl
theorem mO_32 : mO 32 = 4 := rfl
theorem mK_32 : mK 32 = 0 := rfl
theorem mI_32 : mI 32 = false := rfl
theorem mB_33 : mB 33 = cX4_missing := rfl
theorem mL_33 : mL 33 = 3 := rfl
theorem mO_33 : mO 33 = 4 := rfl
theorem mK_33 : mK 33 = 0 := rfl
theorem mI_33 : mI 33 = false := rfl
theorem mB_34 : mB 34 = cX4_whereIs := rfl
theorem mL_34 : mL 34 = 4 := rfl
theorem mO_34 : mO 34 = 4 := rfl
theorem mK_34 : mK 34 = 0 := rfl
theorem mI_34 : mI 34 = false := rfl
theorem mB_35 : mB 35 = cX4_putBlank := rfl
theorem mL_35 : mL 35 = 4 := rfl
theorem mO_35 : mO 35 = 4 := rfl
theorem mK_35 : mK 35 = 5 := rfl
theorem mI_35 : mI 35 = false := rfl
theorem mB_36 : mB 36 = cX4_doWay := rfl
theorem mL_36 : mL 36 = 3 := rfl
theorem mO_36 : mO 36 = 4 := rfl
theorem mK_36 : mK 36 = 5 := rfl
theorem mI_36 : mI 36 = false := rfl
theorem mB_37 : mB 37 = cX4_turnWhole := rfl
theorem mL_37 : mL 37 = 4 := rfl
theorem mO_37 : mO 37 = 4 := rfl
theorem mK_37 : mK 37 = 5 := rfl
theorem mI_37 : mI 37 = false := rfl
theorem mB_38 : mB 38 = cX4_firstOtherwise := rfl
theorem mL_38 : mL 38 = 3 := rfl
theorem mO_38 : mO 38 = 4 := rfl
theorem mK_38 : mK 38 = 0 := rfl
theorem mI_38 : mI 38 = false := rfl
theorem mB_39 : mB 39 = cX5_init := rfl
theorem mL_39 : mL 39 = 1 := rfl
theorem mO_39 : mO 39 = 5 := rfl
theorem mK_39 : mK 39 = 5 := rfl
theorem mI_39 : mI 39 = true := rfl
theorem mB_40 : mB 40 = cX5_fault := rfl
theorem mL_40 : mL 40 = 1 := rfl
theorem mO_40 : mO 40 = 5 := rfl
theorem mK_40 : mK 40 = 0 := rfl
theorem mI_40 : mI 40 = false := rfl
theorem mB_41 : mB 41 = cX5_made := rfl
theorem mL_41 : mL 41 = 1 := rfl
theorem mO_41 : mO 41 = 5 := rfl
theorem mK_41 : mK 41 = 6 := rfl
theorem mI_41 : mI 41 = false := rfl
theorem mB_42 : mB 42 = cX5_clauses := rfl
theorem mL_42 : mL 42 = 2 := rfl
theorem mO_42 : mO 42 = 5 := rfl
theorem mK_42 : mK 42 = 1 := rfl
theorem mI_42 : mI 42 = false := rfl
theorem mB_43 : mB 43 = cX5_clause := rfl
theorem mL_43 : mL 43 = 3 := rfl
theorem mO_43 : mO 43 = 5 := rfl
theorem mK_43 : mK 43 = 1 := rfl
theorem mI_43 : mI 43 = false := rfl
theorem mB_44 : mB 44 = cX5_bound := rfl
theorem mL_44 : mL 44 = 3 := rfl
theorem mO_44 : mO 44 = 5 := rfl
theorem mK_44 : mK 44 = 1 := rfl
theorem mI_44 : mI 44 = false := rfl
theorem mB_45 : mB 45 = cX5_anyOf := rfl
theorem mL_45 : mL 45 = 2 := rfl
theorem mO_45 : mO 45 = 5 := rfl
theorem mK_45 : mK 45 = 1 := rfl
theorem mI_45 : mI 45 = false := rfl
theorem mB_46 : mB 46 = cX5_allOf := rfl
theorem mL_46 : mL 46 = 2 := rfl
theorem mO_46 : mO 46 = 5 := rfl
theorem mK_46 : mK 46 = 1 := rfl
theorem mI_46 : mI 46 = false := rfl
theorem mB_47 : mB 47 = cX5_one := rfl
theorem mL_47 : mL 47 = 3 := rfl
theorem mO_47 : mO 47 = 5 := rfl
theorem mK_47 : mK 47 = 1 := rfl
theorem mI_47 : mI 47 = false := rfl
theorem mB_48 : mB 48 = cX5_test := rfl
theorem mL_48 : mL 48 = 5 := rfl
theorem mO_48 : mO 48 = 5 := rfl
theorem mK_48 : mK 48 = 1 := rfl
theorem mI_48 : mI 48 = false := rfl
theorem mB_49 : mB 49 = cX5_word := rfl
theorem mL_49 : mL 49 = 4 := rfl
theorem mO_49 : mO 49 = 5 := rfl
theorem mK_49 : mK 49 = 0 := rfl
theorem mI_49 : mI 49 = false := rfl
theorem mB_50 : mB 50 = cX5_number := rfl
theorem mL_50 : mL 50 = 4 := rfl
theorem mO_50 : mO 50 = 5 := rfl
theorem mK_50 : mK 50 = 0 := rfl
theorem mI_50 : mI 50 = false := rfl
theorem mB_51 : mB 51 = cX5_sign := rfl
theorem mL_51 : mL 51 = 1 := rfl
theorem mO_51 : mO 51 = 5 := rfl
theorem mK_51 : mK 51 = 0 := rfl
theorem mI_51 : mI 51 = false := rfl
theorem mB_52 : mB 52 = cX6_init := rfl
theorem mL_52 : mL 52 = 2 := rfl
theorem mO_52 : mO 52 = 6 := rfl
theorem mK_52 : mK 52 = 5 := rfl
theorem mI_52 : mI 52 = true := rfl
theorem mB_53 : mB 53 = cX6_copyFrom := rfl
theorem mL_53 : mL 53 = 3 := rfl
theorem mO_53 : mO 53 = 6 := rfl
theorem mK_53 : mK 53 = 5 := rfl
theorem mI_53 : mI 53 = false := rfl
theorem mB_54 : mB 54 = cX7_init := rfl
theorem mL_54 : mL 54 = 1 := rfl
theorem mO_54 : mO 54 = 7 := rfl
theorem mK_54 : mK 54 = 5 := rfl
theorem mI_54 : mI 54 = true := rfl
theorem mB_55 : mB 55 = cX7_add := rfl
theorem mL_55 : mL 55 = 2 := rfl
theorem mO_55 : mO 55 = 7 := rfl
theorem mK_55 : mK 55 = 5 := rfl
theorem mI_55 : mI 55 = false := rfl
theorem mB_56 : mB 56 = cX8_init := rfl
theorem mL_56 : mL 56 = 1 := rfl
theorem mO_56 : mO 56 = 8 := rfl
theorem mK_56 : mK 56 = 5 := rfl
theorem mI_56 : mI 56 = true := rfl
theorem mB_57 : mB 57 = cX8_isRow := rfl
theorem mL_57 : mL 57 = 1 := rfl
theorem mO_57 : mO 57 = 8 := rfl
theorem mK_57 : mK 57 = 1 := rfl
theorem mI_57 : mI 57 = false := rfl
theorem mB_58 : mB 58 = cX8_has := rfl
theorem mL_58 : mL 58 = 2 := rfl
theorem mO_58 : mO 58 = 8 := rfl
theorem mK_58 : mK 58 = 1 := rfl
theorem mI_58 : mI 58 = false := rfl
theorem mB_59 : mB 59 = cX8_begin := rfl
theorem mL_59 : mL 59 = 3 := rfl
theorem mO_59 : mO 59 = 8 := rfl
theorem mK_59 : mK 59 = 5 := rfl
theorem mI_59 : mI 59 = false := rfl
theorem mB_60 : mB 60 = cX8_asItem := rfl
theorem mL_60 : mL 60 = 3 := rfl
theorem mO_60 : mO 60 = 8 := rfl
theorem mK_60 : mK 60 = 4 := rfl
theorem mI_60 : mI 60 = false := rfl
theorem mB_61 : mB 61 = cX9_init := rfl
theorem mL_61 : mL 61 = 1 := rfl
theorem mO_61 : mO 61 = 9 := rfl
theorem mK_61 : mK 61 = 5 := rfl
theorem mI_61 : mI 61 = true := rfl
theorem mB_62 : mB 62 = cX9_begin := rfl
theorem mL_62 : mL 62 = 3 := rfl
theorem mO_62 : mO 62 = 9 := rfl
theorem mK_62 : mK 62 = 5 := rfl
theorem mI_62 : mI 62 = false := rfl
theorem mB_63 : mB 63 = cX9_copyFrom := rfl
theorem mL_63 : mL 63 = 2 := rfl
theorem mO_63 : mO 63 = 9 := rfl
theorem mK_63 : mK 63 = 5 := rfl
theorem mI_63 : mI 63 = false := rfl
theorem mB_64 : mB 64 = cX10_init := rfl
theorem mL_64 : mL 64 = 2 := rfl
theorem mO_64 : mO 64 = 10 := rfl
theorem mK_64 : mK 64 = 5 := rfl
theorem mI_64 : mI 64 = true := rfl
theorem mB_65 : mB 65 = cX10_isWithin := rfl
theorem mL_65 : mL 65 = 3 := rfl
theorem mO_65 : mO 65 = 10 := rfl
theorem mK_65 : mK 65 = 1 := rfl
theorem mI_65 : mI 65 = false := rfl
theorem mB_66 : mB 66 = cX10_isTray := rfl
theorem mL_66 : mL 66 = 2 := rfl
theorem mO_66 : mO 66 = 10 := rfl
theorem mK_66 : mK 66 = 1 := rfl
theorem mI_66 : mI 66 = false := rfl
theorem mB_67 : mB 67 = cX10_isJob := rfl
theorem mL_67 : mL 67 = 2 := rfl
theorem mO_67 : mO 67 = 10 := rfl
theorem mK_67 : mK 67 = 1 := rfl
theorem mI_67 : mI 67 = false := rfl
theorem mB_68 : mB 68 = cX10_isSheet := rfl
theorem mL_68 : mL 68 = 2 := rfl
theorem mO_68 : mO 68 = 10 := rfl
theorem mK_68 : mK 68 = 1 := rfl
theorem mI_68 : mI 68 = false := rfl
theorem mB_69 : mB 69 = cX10_isTape := rfl
theorem mL_69 : mL 69 = 1 := rfl
theorem mO_69 : mO 69 = 10 := rfl
theorem mK_69 : mK 69 = 1 := rfl
theorem mI_69 : mI 69 = false := rfl
theorem mB_70 : mB 70 = cX10_isWay := rfl
theorem mL_70 : mL 70 = 1 := rfl
theorem mO_70 : mO 70 = 10 := rfl
theorem mK_70 : mK 70 = 1 := rfl
theorem mI_70 : mI 70 = false := rfl
theorem mB_71 : mB 71 = cX10_isEither := rfl
theorem mL_71 : mL 71 = 1 := rfl
theorem mO_71 : mO 71 = 10 := rfl
theorem mK_71 : mK 71 = 1 := rfl
theorem mI_71 : mI 71 = false := rfl
theorem mB_72 : mB 72 = cX10_isSide := rfl
theorem mL_72 : mL 72 = 3 := rfl
theorem mO_72 : mO 72 = 10 := rfl
theorem mK_72 : mK 72 = 1 := rfl
theorem mI_72 : mI 72 = false := rfl
theorem mB_73 : mB 73 = cX10_tray := rfl
theorem mL_73 : mL 73 = 3 := rfl
theorem mO_73 : mO 73 = 10 := rfl
theorem mK_73 : mK 73 = 0 := rfl
theorem mI_73 : mI 73 = false := rfl
theorem mB_74 : mB 74 = cX10_of := rfl
theorem mL_74 : mL 74 = 3 := rfl
theorem mO_74 : mO 74 = 10 := rfl
theorem mK_74 : mK 74 = 0 := rfl
theorem mI_74 : mI 74 = false := rfl
theorem mB_75 : mB 75 = cX10_row := rfl
theorem mL_75 : mL 75 = 5 := rfl
theorem mO_75 : mO 75 = 10 := rfl
theorem mK_75 : mK 75 = 0 := rfl
theorem mI_75 : mI 75 = false := rfl
theorem mB_76 : mB 76 = cX10_feed := rfl
theorem mL_76 : mL 76 = 2 := rfl
theorem mO_76 : mO 76 = 10 := rfl
theorem mK_76 : mK 76 = 0 := rfl
theorem mI_76 : mI 76 = false := rfl
theorem mB_77 : mB 77 = cX10_job := rfl
theorem mL_77 : mL 77 = 2 := rfl
theorem mO_77 : mO 77 = 10 := rfl
theorem mK_77 : mK 77 = 0 := rfl
theorem mI_77 : mI 77 = false := rfl
theorem mB_78 : mB 78 = cX10_load := rfl
theorem mL_78 : mL 78 = 2 := rfl
theorem mO_78 : mO 78 = 10 := rfl
theorem mK_78 : mK 78 = 0 := rfl
theorem mI_78 : mI 78 = false := rfl
theorem mB_79 : mB 79 = cX10_empty := rfl
theorem mL_79 : mL 79 = 2 := rfl
theorem mO_79 : mO 79 = 10 := rfl
theorem mK_79 : mK 79 = 0 := rfl
theorem mI_79 : mI 79 = false := rfl
theorem mB_80 : mB 80 = cX10_turn := rfl
theorem mL_80 : mL 80 = 2 := rfl
theorem mO_80 : mO 80 = 10 := rfl
theorem mK_80 : mK 80 = 0 := rfl
theorem mI_80 : mI 80 = false := rfl
theorem mB_81 : mB 81 = cX10_sheet := rfl
theorem mL_81 : mL 81 = 3 := rfl
theorem mO_81 : mO 81 = 10 := rfl
theorem mK_81 : mK 81 = 0 := rfl
theorem mI_81 : mI 81 = false := rfl
theorem mB_82 : mB 82 = cX10_told := rfl
theorem mL_82 : mL 82 = 2 := rfl
theorem mO_82 : mO 82 = 10 := rfl
theorem mK_82 : mK 82 = 0 := rfl
theorem mI_82 : mI 82 = false := rfl
theorem mB_83 : mB 83 = cX10_jobs := rfl
theorem mL_83 : mL 83 = 3 := rfl
theorem mO_83 : mO 83 = 10 := rfl
theorem mK_83 : mK 83 = 0 := rfl
theorem mI_83 : mI 83 = false := rfl
theorem mB_84 : mB 84 = cX10_run := rfl
theorem mL_84 : mL 84 = 4 := rfl
theorem mO_84 : mO 84 = 10 := rfl
theorem mK_84 : mK 84 = 0 := rfl
theorem mI_84 : mI 84 = false := rfl
theorem mB_85 : mB 85 = cX10_tryRun := rfl
theorem mL_85 : mL 85 = 4 := rfl
theorem mO_85 : mO 85 = 10 := rfl
theorem mK_85 : mK 85 = 5 := rfl
theorem mI_85 : mI 85 = false := rfl
theorem mB_86 : mB 86 = cX10_rightsAfter := rfl
theorem mL_86 : mL 86 = 3 := rfl
theorem mO_86 : mO 86 = 10 := rfl
theorem mK_86 : mK 86 = 0 := rfl
theorem mI_86 : mI 86 = false := rfl
theorem mB_87 : mB 87 = cX10_rightsBehind := rfl
theorem mL_87 : mL 87 = 4 := rfl
theorem mO_87 : mO 87 = 10 := rfl
theorem mK_87 : mK 87 = 0 := rfl
theorem mI_87 : mI 87 = false := rfl
theorem mB_88 : mB 88 = cX10_after := rfl
theorem mL_88 : mL 88 = 4 := rfl
theorem mO_88 : mO 88 = 10 := rfl
theorem mK_88 : mK 88 = 0 := rfl
theorem mI_88 : mI 88 = false := rfl
theorem mB_89 : mB 89 = cX10_best := rfl
theorem mL_89 : mL 89 = 6 := rfl
theorem mO_89 : mO 89 = 10 := rfl
theorem mK_89 : mK 89 = 0 := rfl
theorem mI_89 : mI 89 = false := rfl
theorem mB_90 : mB 90 = cX10_uses := rfl
theorem mL_90 : mL 90 = 3 := rfl
theorem mO_90 : mO 90 = 10 := rfl
theorem mK_90 : mK 90 = 0 := rfl
theorem mI_90 : mI 90 = false := rfl
theorem mB_91 : mB 91 = cX10_way := rfl
theorem mL_91 : mL 91 = 10 := rfl
theorem mO_91 : mO 91 = 10 := rfl
theorem mK_91 : mK 91 = 0 := rfl
theorem mI_91 : mI 91 = false := rfl
theorem mB_92 : mB 92 = cX10_twice := rfl
theorem mL_92 : mL 92 = 10 := rfl
theorem mO_92 : mO 92 = 10 := rfl
theorem mK_92 : mK 92 = 0 := rfl
theorem mI_92 : mI 92 = false := rfl
theorem mB_93 : mB 93 = cX10_find := rfl
theorem mL_93 : mL 93 = 2 := rfl
theorem mO_93 : mO 93 = 10 := rfl
theorem mK_93 : mK 93 = 0 := rfl
theorem mI_93 : mI 93 = false := rfl
theorem mB_94 : mB 94 = cX10_see := rfl
theorem mL_94 : mL 94 = 4 := rfl
theorem mO_94 : mO 94 = 10 := rfl
theorem mK_94 : mK 94 = 0 := rfl
theorem mI_94 : mI 94 = false := rfl
theorem mB_95 : mB 95 = cX10_note := rfl
theorem mL_95 : mL 95 = 4 := rfl
theorem mO_95 : mO 95 = 10 := rfl
theorem mK_95 : mK 95 = 0 := rfl
theorem mI_95 : mI 95 = false := rfl
theorem mB_96 : mB 96 = cX10_isSeenAfter := rfl
theorem mL_96 : mL 96 = 4 := rfl
theorem mO_96 : mO 96 = 10 := rfl
theorem mK_96 : mK 96 = 1 := rfl
theorem mI_96 : mI 96 = false := rfl
theorem mB_97 : mB 97 = cX10_which := rfl
theorem mL_97 : mL 97 = 4 := rfl
theorem mO_97 : mO 97 = 10 := rfl
theorem mK_97 : mK 97 = 0 := rfl
theorem mI_97 : mI 97 = false := rfl
theorem mB_98 : mB 98 = cX10_can := rfl
theorem mL_98 : mL 98 = 7 := rfl
theorem mO_98 : mO 98 = 10 := rfl
theorem mK_98 : mK 98 = 0 := rfl
theorem mI_98 : mI 98 = false := rfl
theorem mB_99 : mB 99 = cX10_odds := rfl
theorem mL_99 : mL 99 = 6 := rfl
theorem mO_99 : mO 99 = 10 := rfl
theorem mK_99 : mK 99 = 4 := rfl
theorem mI_99 : mI 99 = false := rfl
theorem mB_100 : mB 100 = cX10_mean := rfl
theorem mL_100 : mL 100 = 5 := rfl
theorem mO_100 : mO 100 = 10 := rfl
theorem mK_100 : mK 100 = 4 := rfl
theorem mI_100 : mI 100 = false := rfl
theorem mB_101 : mB 101 = cX10_partInLowest := rfl
theorem mL_101 : mL 101 = 5 := rfl
theorem mO_101 : mO 101 = 10 := rfl
theorem mK_101 : mK 101 = 4 := rfl
theorem mI_101 : mI 101 = false := rfl
theorem mB_102 : mB 102 = cX10_plan := rfl
theorem mL_102 : mL 102 = 4 := rfl
theorem mO_102 : mO 102 = 10 := rfl
theorem mK_102 : mK 102 = 0 := rfl
theorem mI_102 : mI 102 = false := rfl
theorem mB_103 : mB 103 = cX10_done := rfl
theorem mL_103 : mL 103 = 3 := rfl
theorem mO_103 : mO 103 = 10 := rfl
theorem mK_103 : mK 103 = 0 := rfl
theorem mI_103 : mI 103 = false := rfl
theorem mB_104 : mB 104 = cX10_doPlanned := rfl
theorem mL_104 : mL 104 = 4 := rfl
theorem mO_104 : mO 104 = 10 := rfl
theorem mK_104 : mK 104 = 5 := rfl
theorem mI_104 : mI 104 = false := rfl
theorem mB_105 : mB 105 = cX10_book := rfl
theorem mL_105 : mL 105 = 4 := rfl
theorem mO_105 : mO 105 = 10 := rfl
theorem mK_105 : mK 105 = 0 := rfl
theorem mI_105 : mI 105 = false := rfl
theorem mB_106 : mB 106 = cX10_looked := rfl
theorem mL_106 : mL 106 = 1 := rfl
theorem mO_106 : mO 106 = 10 := rfl
theorem mK_106 : mK 106 = 0 := rfl
theorem mI_106 : mI 106 = false := rfl
theorem mB_107 : mB 107 = cX10_judge := rfl
theorem mL_107 : mL 107 = 5 := rfl
theorem mO_107 : mO 107 = 10 := rfl
theorem mK_107 : mK 107 = 0 := rfl
theorem mI_107 : mI 107 = false := rfl
theorem mB_108 : mB 108 = cX10_image := rfl
theorem mL_108 : mL 108 = 1 := rfl
theorem mO_108 : mO 108 = 10 := rfl
theorem mK_108 : mK 108 = 0 := rfl
theorem mI_108 : mI 108 = false := rfl
theorem mB_109 : mB 109 = cX10_undo := rfl
theorem mL_109 : mL 109 = 1 := rfl
theorem mO_109 : mO 109 = 10 := rfl
theorem mK_109 : mK 109 = 0 := rfl
theorem mI_109 : mI 109 = false := rfl
theorem mB_110 : mB 110 = cX10_act := rfl
theorem mL_110 : mL 110 = 4 := rfl
theorem mO_110 : mO 110 = 10 := rfl
theorem mK_110 : mK 110 = 0 := rfl
theorem mI_110 : mI 110 = false := rfl
theorem mB_111 : mB 111 = cX10_trace := rfl
theorem mL_111 : mL 111 = 2 := rfl
theorem mO_111 : mO 111 = 10 := rfl
theorem mK_111 : mK 111 = 0 := rfl
theorem mI_111 : mI 111 = false := rfl
theorem mB_112 : mB 112 = cX10_taken := rfl
theorem mL_112 : mL 112 = 4 := rfl
theorem mO_112 : mO 112 = 10 := rfl
theorem mK_112 : mK 112 = 0 := rfl
theorem mI_112 : mI 112 = false := rfl
theorem mB_113 : mB 113 = cX10_isKindOrUnder := rfl
theorem mL_113 : mL 113 = 4 := rfl
theorem mO_113 : mO 113 = 10 := rfl
theorem mK_113 : mK 113 = 1 := rfl
theorem mI_113 : mI 113 = false := rfl
theorem mB_114 : mB 114 = cX10_count := rfl
theorem mL_114 : mL 114 = 2 := rfl
theorem mO_114 : mO 114 = 10 := rfl
theorem mK_114 : mK 114 = 0 := rfl
theorem mI_114 : mI 114 = false := rfl
theorem mB_115 : mB 115 = cX10_tape := rfl
theorem mL_115 : mL 115 = 4 := rfl
theorem mO_115 : mO 115 = 10 := rfl
theorem mK_115 : mK 115 = 0 := rfl
theorem mI_115 : mI 115 = false := rfl
theorem mB_116 : mB 116 = cX10_item := rfl
theorem mL_116 : mL 116 = 6 := rfl
theorem mO_116 : mO 116 = 10 := rfl
theorem mK_116 : mK 116 = 0 := rfl
theorem mI_116 : mI 116 = false := rfl
theorem mB_117 : mB 117 = cX10_read := rfl
theorem mL_117 : mL 117 = 3 := rfl
theorem mO_117 : mO 117 = 10 := rfl
theorem mK_117 : mK 117 = 4 := rfl
theorem mI_117 : mI 117 = false := rfl
theorem mB_118 : mB 118 = cX10_shift := rfl
theorem mL_118 : mL 118 = 8 := rfl
theorem mO_118 : mO 118 = 10 := rfl
theorem mK_118 : mK 118 = 0 := rfl
theorem mI_118 : mI 118 = false := rfl
theorem mB_119 : mB 119 = cX11_init := rfl
theorem mL_119 : mL 119 = 1 := rfl
theorem mO_119 : mO 119 = 11 := rfl
theorem mK_119 : mK 119 = 5 := rfl
theorem mI_119 : mI 119 = true := rfl
theorem mB_120 : mB 120 = cX11_in := rfl
theorem mL_120 : mL 120 = 4 := rfl
theorem mO_120 : mO 120 = 11 := rfl
theorem mK_120 : mK 120 = 1 := rfl
theorem mI_120 : mI 120 = false := rfl
theorem mB_121 : mB 121 = cX11_isTray := rfl
theorem mL_121 : mL 121 = 2 := rfl
theorem mO_121 : mO 121 = 11 := rfl
theorem mK_121 : mK 121 = 1 := rfl
theorem mI_121 : mI 121 = false := rfl
theorem mB_122 : mB 122 = cX11_tray := rfl
theorem mL_122 : mL 122 = 4 := rfl
theorem mO_122 : mO 122 = 11 := rfl
theorem mK_122 : mK 122 = 0 := rfl
theorem mI_122 : mI 122 = false := rfl
theorem mB_123 : mB 123 = cX11_of := rfl
theorem mL_123 : mL 123 = 3 := rfl
theorem mO_123 : mO 123 = 11 := rfl
theorem mK_123 : mK 123 = 0 := rfl
theorem mI_123 : mI 123 = false := rfl
theorem mB_124 : mB 124 = cX11_row := rfl
theorem mL_124 : mL 124 = 5 := rfl
theorem mO_124 : mO 124 = 11 := rfl
theorem mK_124 : mK 124 = 0 := rfl
theorem mI_124 : mI 124 = false := rfl
theorem mB_125 : mB 125 = cX11_feed := rfl
theorem mL_125 : mL 125 = 2 := rfl
theorem mO_125 : mO 125 = 11 := rfl
theorem mK_125 : mK 125 = 0 := rfl
theorem mI_125 : mI 125 = false := rfl
theorem mB_126 : mB 126 = cX11_next := rfl
theorem mL_126 : mL 126 = 1 := rfl
theorem mO_126 : mO 126 = 11 := rfl
theorem mK_126 : mK 126 = 0 := rfl
theorem mI_126 : mI 126 = false := rfl
theorem mB_127 : mB 127 = cX11_second := rfl
theorem mL_127 : mL 127 = 1 := rfl
theorem mO_127 : mO 127 = 11 := rfl
theorem mK_127 : mK 127 = 0 := rfl
theorem mI_127 : mI 127 = false := rfl
theorem mB_128 : mB 128 = cX11_takes := rfl
theorem mL_128 : mL 128 = 2 := rfl
theorem mO_128 : mO 128 = 11 := rfl
theorem mK_128 : mK 128 = 1 := rfl
theorem mI_128 : mI 128 = false := rfl
theorem mB_129 : mB 129 = cX11_takesWord := rfl
theorem mL_129 : mL 129 = 4 := rfl
theorem mO_129 : mO 129 = 11 := rfl
theorem mK_129 : mK 129 = 1 := rfl
theorem mI_129 : mI 129 = false := rfl
theorem mB_130 : mB 130 = cX11_isDigit := rfl
theorem mL_130 : mL 130 = 1 := rfl
theorem mO_130 : mO 130 = 11 := rfl
theorem mK_130 : mK 130 = 1 := rfl
theorem mI_130 : mI 130 = false := rfl
theorem mB_131 : mB 131 = cX11_takesNumber := rfl
theorem mL_131 : mL 131 = 2 := rfl
theorem mO_131 : mO 131 = 11 := rfl
theorem mK_131 : mK 131 = 1 := rfl
theorem mI_131 : mI 131 = false := rfl
theorem mB_132 : mB 132 = cX11_emits := rfl
theorem mL_132 : mL 132 = 2 := rfl
theorem mO_132 : mO 132 = 11 := rfl
theorem mK_132 : mK 132 = 5 := rfl
theorem mI_132 : mI 132 = false := rfl
theorem mB_133 : mB 133 = cX11_whole := rfl
theorem mL_133 : mL 133 = 1 := rfl
theorem mO_133 : mO 133 = 11 := rfl
theorem mK_133 : mK 133 = 5 := rfl
theorem mI_133 : mI 133 = false := rfl
theorem mB_134 : mB 134 = cX11_settle := rfl
theorem mL_134 : mL 134 = 2 := rfl
theorem mO_134 : mO 134 = 11 := rfl
theorem mK_134 : mK 134 = 5 := rfl
theorem mI_134 : mI 134 = false := rfl
theorem mB_135 : mB 135 = cX11_place := rfl
theorem mL_135 : mL 135 = 2 := rfl
theorem mO_135 : mO 135 = 11 := rfl
theorem mK_135 : mK 135 = 0 := rfl
theorem mI_135 : mI 135 = false := rfl
theorem mB_136 : mB 136 = cX11_takesTest := rfl
theorem mL_136 : mL 136 = 3 := rfl
theorem mO_136 : mO 136 = 11 := rfl
theorem mK_136 : mK 136 = 1 := rfl
theorem mI_136 : mI 136 = false := rfl
theorem mB_137 : mB 137 = cX11_takesE := rfl
theorem mL_137 : mL 137 = 4 := rfl
theorem mO_137 : mO 137 = 11 := rfl
theorem mK_137 : mK 137 = 1 := rfl
theorem mI_137 : mI 137 = false := rfl
theorem mB_138 : mB 138 = cX11_takesHead := rfl
theorem mL_138 : mL 138 = 2 := rfl
theorem mO_138 : mO 138 = 11 := rfl
theorem mK_138 : mK 138 = 1 := rfl
theorem mI_138 : mI 138 = false := rfl
theorem mB_139 : mB 139 = cX11_takesClause := rfl
theorem mL_139 : mL 139 = 2 := rfl
theorem mO_139 : mO 139 = 11 := rfl
theorem mK_139 : mK 139 = 1 := rfl
theorem mI_139 : mI 139 = false := rfl
theorem mB_140 : mB 140 = cX11_goesText := rfl
theorem mL_140 : mL 140 = 3 := rfl
theorem mO_140 : mO 140 = 11 := rfl
theorem mK_140 : mK 140 = 1 := rfl
theorem mI_140 : mI 140 = false := rfl
theorem mB_141 : mB 141 = cX11_job := rfl
theorem mL_141 : mL 141 = 2 := rfl
theorem mO_141 : mO 141 = 11 := rfl
theorem mK_141 : mK 141 = 0 := rfl
theorem mI_141 : mI 141 = false := rfl
theorem mB_142 : mB 142 = cX11_isJob := rfl
theorem mL_142 : mL 142 = 2 := rfl
theorem mO_142 : mO 142 = 11 := rfl
theorem mK_142 : mK 142 = 1 := rfl
theorem mI_142 : mI 142 = false := rfl
theorem mB_143 : mB 143 = cX11_lastOf := rfl
theorem mL_143 : mL 143 = 6 := rfl
theorem mO_143 : mO 143 = 11 := rfl
theorem mK_143 : mK 143 = 0 := rfl
theorem mI_143 : mI 143 = false := rfl
theorem mB_144 : mB 144 = cX11_first := rfl
theorem mL_144 : mL 144 = 3 := rfl
theorem mO_144 : mO 144 = 11 := rfl
theorem mK_144 : mK 144 = 0 := rfl
theorem mI_144 : mI 144 = false := rfl
theorem mB_145 : mB 145 = cX11_last := rfl
theorem mL_145 : mL 145 = 3 := rfl
theorem mO_145 : mO 145 = 11 := rfl
theorem mK_145 : mK 145 = 0 := rfl
theorem mI_145 : mI 145 = false := rfl
theorem mB_146 : mB 146 = cX11_jobs := rfl
theorem mL_146 : mL 146 = 3 := rfl
theorem mO_146 : mO 146 = 11 := rfl
theorem mK_146 : mK 146 = 0 := rfl
theorem mI_146 : mI 146 = false := rfl
theorem mB_147 : mB 147 = cX11_factOf := rfl
theorem mL_147 : mL 147 = 5 := rfl
theorem mO_147 : mO 147 = 11 := rfl
theorem mK_147 : mK 147 = 0 := rfl
theorem mI_147 : mI 147 = false := rfl
theorem mB_148 : mB 148 = cX11_holds := rfl
theorem mL_148 : mL 148 = 10 := rfl
theorem mO_148 : mO 148 = 11 := rfl
theorem mK_148 : mK 148 = 1 := rfl
theorem mI_148 : mI 148 = false := rfl
theorem mB_149 : mB 149 = cX11_anyHolds := rfl
theorem mL_149 : mL 149 = 7 := rfl
theorem mO_149 : mO 149 = 11 := rfl
theorem mK_149 : mK 149 = 1 := rfl
theorem mI_149 : mI 149 = false := rfl
theorem mB_150 : mB 150 = cX11_over := rfl
theorem mL_150 : mL 150 = 4 := rfl
theorem mO_150 : mO 150 = 11 := rfl
theorem mK_150 : mK 150 = 5 := rfl
theorem mI_150 : mI 150 = false := rfl
theorem mB_151 : mB 151 = cX11_about := rfl
theorem mL_151 : mL 151 = 2 := rfl
theorem mO_151 : mO 151 = 11 := rfl
theorem mK_151 : mK 151 = 5 := rfl
theorem mI_151 : mI 151 = false := rfl
theorem mB_152 : mB 152 = cX11_loads := rfl
theorem mL_152 : mL 152 = 3 := rfl
theorem mO_152 : mO 152 = 11 := rfl
theorem mK_152 : mK 152 = 5 := rfl
theorem mI_152 : mI 152 = false := rfl
theorem mB_153 : mB 153 = cX11_load := rfl
theorem mL_153 : mL 153 = 2 := rfl
theorem mO_153 : mO 153 = 11 := rfl
theorem mK_153 : mK 153 = 0 := rfl
theorem mI_153 : mI 153 = false := rfl
theorem mB_154 : mB 154 = cX11_empty := rfl
theorem mL_154 : mL 154 = 2 := rfl
theorem mO_154 : mO 154 = 11 := rfl
theorem mK_154 : mK 154 = 0 := rfl
theorem mI_154 : mI 154 = false := rfl
theorem mB_155 : mB 155 = cX11_turnsOver := rfl
theorem mL_155 : mL 155 = 6 := rfl
theorem mO_155 : mO 155 = 11 := rfl
theorem mK_155 : mK 155 = 5 := rfl
theorem mI_155 : mI 155 = false := rfl
theorem mB_156 : mB 156 = cX11_goWay := rfl
theorem mL_156 : mL 156 = 3 := rfl
theorem mO_156 : mO 156 = 11 := rfl
theorem mK_156 : mK 156 = 5 := rfl
theorem mI_156 : mI 156 = false := rfl
theorem mB_157 : mB 157 = cX11_isRight := rfl
theorem mL_157 : mL 157 = 2 := rfl
theorem mO_157 : mO 157 = 11 := rfl
theorem mK_157 : mK 157 = 1 := rfl
theorem mI_157 : mI 157 = false := rfl
theorem mB_158 : mB 158 = cX11_right := rfl
theorem mL_158 : mL 158 = 3 := rfl
theorem mO_158 : mO 158 = 11 := rfl
theorem mK_158 : mK 158 = 0 := rfl
theorem mI_158 : mI 158 = false := rfl
theorem mB_159 : mB 159 = cX11_sidesWith := rfl
theorem mL_159 : mL 159 = 4 := rfl
theorem mO_159 : mO 159 = 11 := rfl
theorem mK_159 : mK 159 = 0 := rfl
theorem mI_159 : mI 159 = false := rfl
theorem mB_160 : mB 160 = cX11_turn := rfl
theorem mL_160 : mL 160 = 2 := rfl
theorem mO_160 : mO 160 = 11 := rfl
theorem mK_160 : mK 160 = 0 := rfl
theorem mI_160 : mI 160 = false := rfl
theorem mB_161 : mB 161 = cX11_sheet := rfl
theorem mL_161 : mL 161 = 3 := rfl
theorem mO_161 : mO 161 = 11 := rfl
theorem mK_161 : mK 161 = 0 := rfl
theorem mI_161 : mI 161 = false := rfl
theorem mB_162 : mB 162 = cX11_missing := rfl
theorem mL_162 : mL 162 = 3 := rfl
theorem mO_162 : mO 162 = 11 := rfl
theorem mK_162 : mK 162 = 0 := rfl
theorem mI_162 : mI 162 = false := rfl
theorem mB_163 : mB 163 = cX11_told := rfl
theorem mL_163 : mL 163 = 2 := rfl
theorem mO_163 : mO 163 = 11 := rfl
theorem mK_163 : mK 163 = 0 := rfl
theorem mI_163 : mI 163 = false := rfl
theorem mB_164 : mB 164 = cX11_prints := rfl
theorem mL_164 : mL 164 = 5 := rfl
theorem mO_164 : mO 164 = 11 := rfl
theorem mK_164 : mK 164 = 5 := rfl
theorem mI_164 : mI 164 = false := rfl
theorem mB_165 : mB 165 = cX11_putsOut := rfl
theorem mL_165 : mL 165 = 4 := rfl
theorem mO_165 : mO 165 = 11 := rfl
theorem mK_165 : mK 165 = 5 := rfl
theorem mI_165 : mI 165 = false := rfl
theorem mB_166 : mB 166 = cX11_goesOn := rfl
theorem mL_166 : mL 166 = 5 := rfl
theorem mO_166 : mO 166 = 11 := rfl
theorem mK_166 : mK 166 = 0 := rfl
theorem mI_166 : mI 166 = false := rfl
theorem mB_167 : mB 167 = cX11_told1 := rfl
theorem mL_167 : mL 167 = 4 := rfl
theorem mO_167 : mO 167 = 11 := rfl
theorem mK_167 : mK 167 = 0 := rfl
theorem mI_167 : mI 167 = false := rfl
theorem mB_168 : mB 168 = cX11_goRun := rfl
theorem mL_168 : mL 168 = 9 := rfl
theorem mO_168 : mO 168 = 11 := rfl
theorem mK_168 : mK 168 = 5 := rfl
theorem mI_168 : mI 168 = false := rfl
theorem mB_169 : mB 169 = cX11_run := rfl
theorem mL_169 : mL 169 = 3 := rfl
theorem mO_169 : mO 169 = 11 := rfl
theorem mK_169 : mK 169 = 0 := rfl
theorem mI_169 : mI 169 = false := rfl
theorem mB_170 : mB 170 = cX11_save := rfl
theorem mL_170 : mL 170 = 2 := rfl
theorem mO_170 : mO 170 = 11 := rfl
theorem mK_170 : mK 170 = 5 := rfl
theorem mI_170 : mI 170 = false := rfl
theorem mB_171 : mB 171 = cX11_putBack := rfl
theorem mL_171 : mL 171 = 2 := rfl
theorem mO_171 : mO 171 = 11 := rfl
theorem mK_171 : mK 171 = 5 := rfl
theorem mI_171 : mI 171 = false := rfl
theorem mB_172 : mB 172 = cX11_after := rfl
theorem mL_172 : mL 172 = 5 := rfl
theorem mO_172 : mO 172 = 11 := rfl
theorem mK_172 : mK 172 = 0 := rfl
theorem mI_172 : mI 172 = false := rfl
theorem mB_173 : mB 173 = cX11_rightAfter := rfl
theorem mL_173 : mL 173 = 3 := rfl
theorem mO_173 : mO 173 = 11 := rfl
theorem mK_173 : mK 173 = 0 := rfl
theorem mI_173 : mI 173 = false := rfl
theorem mB_174 : mB 174 = cX11_best := rfl
theorem mL_174 : mL 174 = 6 := rfl
theorem mO_174 : mO 174 = 11 := rfl
theorem mK_174 : mK 174 = 0 := rfl
theorem mI_174 : mI 174 = false := rfl
theorem mB_175 : mB 175 = cX11_uses := rfl
theorem mL_175 : mL 175 = 4 := rfl
theorem mO_175 : mO 175 = 11 := rfl
theorem mK_175 : mK 175 = 0 := rfl
theorem mI_175 : mI 175 = false := rfl
theorem mB_176 : mB 176 = cX11_rightTwice := rfl
theorem mL_176 : mL 176 = 7 := rfl
theorem mO_176 : mO 176 = 11 := rfl
theorem mK_176 : mK 176 = 0 := rfl
theorem mI_176 : mI 176 = false := rfl
theorem mB_177 : mB 177 = cX11_way := rfl
theorem mL_177 : mL 177 = 10 := rfl
theorem mO_177 : mO 177 = 11 := rfl
theorem mK_177 : mK 177 = 0 := rfl
theorem mI_177 : mI 177 = false := rfl
theorem mB_178 : mB 178 = cX11_twice := rfl
theorem mL_178 : mL 178 = 10 := rfl
theorem mO_178 : mO 178 = 11 := rfl
theorem mK_178 : mK 178 = 0 := rfl
theorem mI_178 : mI 178 = false := rfl
theorem mB_179 : mB 179 = cX11_find := rfl
theorem mL_179 : mL 179 = 3 := rfl
theorem mO_179 : mO 179 = 11 := rfl
theorem mK_179 : mK 179 = 0 := rfl
theorem mI_179 : mI 179 = false := rfl
theorem mB_180 : mB 180 = cX11_isOn := rfl
theorem mL_180 : mL 180 = 4 := rfl
theorem mO_180 : mO 180 = 11 := rfl
theorem mK_180 : mK 180 = 1 := rfl
theorem mI_180 : mI 180 = false := rfl
theorem mB_181 : mB 181 = cX11_see := rfl
theorem mL_181 : mL 181 = 4 := rfl
theorem mO_181 : mO 181 = 11 := rfl
theorem mK_181 : mK 181 = 0 := rfl
theorem mI_181 : mI 181 = false := rfl
theorem mB_182 : mB 182 = cX11_on := rfl
theorem mL_182 : mL 182 = 2 := rfl
theorem mO_182 : mO 182 = 11 := rfl
theorem mK_182 : mK 182 = 0 := rfl
theorem mI_182 : mI 182 = false := rfl
theorem mB_183 : mB 183 = cX11_isSeenAfter := rfl
theorem mL_183 : mL 183 = 5 := rfl
theorem mO_183 : mO 183 = 11 := rfl
theorem mK_183 : mK 183 = 1 := rfl
theorem mI_183 : mI 183 = false := rfl
theorem mB_184 : mB 184 = cX11_which := rfl
theorem mL_184 : mL 184 = 4 := rfl
theorem mO_184 : mO 184 = 11 := rfl
theorem mK_184 : mK 184 = 0 := rfl
theorem mI_184 : mI 184 = false := rfl
theorem mB_185 : mB 185 = cX11_can := rfl
theorem mL_185 : mL 185 = 8 := rfl
theorem mO_185 : mO 185 = 11 := rfl
theorem mK_185 : mK 185 = 0 := rfl
theorem mI_185 : mI 185 = false := rfl
theorem mB_186 : mB 186 = cX11_divisor := rfl
theorem mL_186 : mL 186 = 6 := rfl
theorem mO_186 : mO 186 = 11 := rfl
theorem mK_186 : mK 186 = 0 := rfl
theorem mI_186 : mI 186 = false := rfl
theorem mB_187 : mB 187 = cX11_lowest := rfl
theorem mL_187 : mL 187 = 5 := rfl
theorem mO_187 : mO 187 = 11 := rfl
theorem mK_187 : mK 187 = 4 := rfl
theorem mI_187 : mI 187 = false := rfl
theorem mB_188 : mB 188 = cX11_odds := rfl
theorem mL_188 : mL 188 = 6 := rfl
theorem mO_188 : mO 188 = 11 := rfl
theorem mK_188 : mK 188 = 4 := rfl
theorem mI_188 : mI 188 = false := rfl
theorem mB_189 : mB 189 = cX11_mean := rfl
theorem mL_189 : mL 189 = 5 := rfl
theorem mO_189 : mO 189 = 11 := rfl
theorem mK_189 : mK 189 = 4 := rfl
theorem mI_189 : mI 189 = false := rfl
theorem mB_190 : mB 190 = cX11_plan := rfl
theorem mL_190 : mL 190 = 4 := rfl
theorem mO_190 : mO 190 = 11 := rfl
theorem mK_190 : mK 190 = 0 := rfl
theorem mI_190 : mI 190 = false := rfl
theorem mB_191 : mB 191 = cX11_goPlan := rfl
theorem mL_191 : mL 191 = 2 := rfl
theorem mO_191 : mO 191 = 11 := rfl
theorem mK_191 : mK 191 = 5 := rfl
theorem mI_191 : mI 191 = false := rfl
theorem mB_192 : mB 192 = cX11_done := rfl
theorem mL_192 : mL 192 = 3 := rfl
theorem mO_192 : mO 192 = 11 := rfl
theorem mK_192 : mK 192 = 0 := rfl
theorem mI_192 : mI 192 = false := rfl
theorem mB_193 : mB 193 = cX11_book := rfl
theorem mL_193 : mL 193 = 4 := rfl
theorem mO_193 : mO 193 = 11 := rfl
theorem mK_193 : mK 193 = 0 := rfl
theorem mI_193 : mI 193 = false := rfl
theorem mB_194 : mB 194 = cX11_looked := rfl
theorem mL_194 : mL 194 = 2 := rfl
theorem mO_194 : mO 194 = 11 := rfl
theorem mK_194 : mK 194 = 0 := rfl
theorem mI_194 : mI 194 = false := rfl
theorem mB_195 : mB 195 = cX11_judge := rfl
theorem mL_195 : mL 195 = 4 := rfl
theorem mO_195 : mO 195 = 11 := rfl
theorem mK_195 : mK 195 = 0 := rfl
theorem mI_195 : mI 195 = false := rfl
theorem mB_196 : mB 196 = cX11_image := rfl
theorem mL_196 : mL 196 = 2 := rfl
theorem mO_196 : mO 196 = 11 := rfl
theorem mK_196 : mK 196 = 0 := rfl
theorem mI_196 : mI 196 = false := rfl
theorem mB_197 : mB 197 = cX11_undo := rfl
theorem mL_197 : mL 197 = 2 := rfl
theorem mO_197 : mO 197 = 11 := rfl
theorem mK_197 : mK 197 = 0 := rfl
theorem mI_197 : mI 197 = false := rfl
theorem mB_198 : mB 198 = cX11_body := rfl
theorem mL_198 : mL 198 = 2 := rfl
theorem mO_198 : mO 198 = 11 := rfl
theorem mK_198 : mK 198 = 5 := rfl
theorem mI_198 : mI 198 = false := rfl
theorem mB_199 : mB 199 = cX11_trayFeeds := rfl
theorem mL_199 : mL 199 = 3 := rfl
theorem mO_199 : mO 199 = 11 := rfl
theorem mK_199 : mK 199 = 0 := rfl
theorem mI_199 : mI 199 = false := rfl
theorem mB_200 : mB 200 = cX11_feedsAct := rfl
theorem mL_200 : mL 200 = 3 := rfl
theorem mO_200 : mO 200 = 11 := rfl
theorem mK_200 : mK 200 = 0 := rfl
theorem mI_200 : mI 200 = false := rfl
theorem mB_201 : mB 201 = cX11_trayPrints := rfl
theorem mL_201 : mL 201 = 3 := rfl
theorem mO_201 : mO 201 = 11 := rfl
theorem mK_201 : mK 201 = 0 := rfl
theorem mI_201 : mI 201 = false := rfl
theorem mB_202 : mB 202 = cX11_flippingPrints := rfl
theorem mL_202 : mL 202 = 3 := rfl
theorem mO_202 : mO 202 = 11 := rfl
theorem mK_202 : mK 202 = 0 := rfl
theorem mI_202 : mI 202 = false := rfl
theorem mB_203 : mB 203 = cX11_printsAct := rfl
theorem mL_203 : mL 203 = 4 := rfl
theorem mO_203 : mO 203 = 11 := rfl
theorem mK_203 : mK 203 = 0 := rfl
theorem mI_203 : mI 203 = false := rfl
theorem mB_204 : mB 204 = cX11_trayTells := rfl
theorem mL_204 : mL 204 = 3 := rfl
theorem mO_204 : mO 204 = 11 := rfl
theorem mK_204 : mK 204 = 0 := rfl
theorem mI_204 : mI 204 = false := rfl
theorem mB_205 : mB 205 = cX11_tellsAct := rfl
theorem mL_205 : mL 205 = 4 := rfl
theorem mO_205 : mO 205 = 11 := rfl
theorem mK_205 : mK 205 = 0 := rfl
theorem mI_205 : mI 205 = false := rfl
theorem mB_206 : mB 206 = cX11_act := rfl
theorem mL_206 : mL 206 = 4 := rfl
theorem mO_206 : mO 206 = 11 := rfl
theorem mK_206 : mK 206 = 0 := rfl
theorem mI_206 : mI 206 = false := rfl
theorem mB_207 : mB 207 = cX11_trace := rfl
theorem mL_207 : mL 207 = 2 := rfl
theorem mO_207 : mO 207 = 11 := rfl
theorem mK_207 : mK 207 = 0 := rfl
theorem mI_207 : mI 207 = false := rfl
theorem mB_208 : mB 208 = cX11_taken := rfl
theorem mL_208 : mL 208 = 4 := rfl
theorem mO_208 : mO 208 = 11 := rfl
theorem mK_208 : mK 208 = 0 := rfl
theorem mI_208 : mI 208 = false := rfl
theorem mB_209 : mB 209 = cX11_count := rfl
theorem mL_209 : mL 209 = 2 := rfl
theorem mO_209 : mO 209 = 11 := rfl
theorem mK_209 : mK 209 = 0 := rfl
theorem mI_209 : mI 209 = false := rfl
theorem mB_210 : mB 210 = cX11_isTape := rfl
theorem mL_210 : mL 210 = 2 := rfl
theorem mO_210 : mO 210 = 11 := rfl
theorem mK_210 : mK 210 = 1 := rfl
theorem mI_210 : mI 210 = false := rfl
theorem mB_211 : mB 211 = cX11_tape := rfl
theorem mL_211 : mL 211 = 5 := rfl
theorem mO_211 : mO 211 = 11 := rfl
theorem mK_211 : mK 211 = 0 := rfl
theorem mI_211 : mI 211 = false := rfl
theorem mB_212 : mB 212 = cX11_narrow := rfl
theorem mL_212 : mL 212 = 4 := rfl
theorem mO_212 : mO 212 = 11 := rfl
theorem mK_212 : mK 212 = 4 := rfl
theorem mI_212 : mI 212 = false := rfl
theorem mB_213 : mB 213 = cX11_item := rfl
theorem mL_213 : mL 213 = 5 := rfl
theorem mO_213 : mO 213 = 11 := rfl
theorem mK_213 : mK 213 = 0 := rfl
theorem mI_213 : mI 213 = false := rfl
theorem mB_214 : mB 214 = cX11_read := rfl
theorem mL_214 : mL 214 = 3 := rfl
theorem mO_214 : mO 214 = 11 := rfl
theorem mK_214 : mK 214 = 4 := rfl
theorem mI_214 : mI 214 = false := rfl
theorem mB_215 : mB 215 = cX11_shift := rfl
theorem mL_215 : mL 215 = 7 := rfl
theorem mO_215 : mO 215 = 11 := rfl
theorem mK_215 : mK 215 = 0 := rfl
theorem mI_215 : mI 215 = false := rfl
theorem mB_216 : mB 216 = cJ0_charAt_5068e := rfl
theorem mL_216 : mL 216 = 2 := rfl
theorem mO_216 : mO 216 = 12 := rfl
theorem mK_216 : mK 216 = 3 := rfl
theorem mI_216 : mI 216 = false := rfl
theorem mB_217 : mB 217 = cJ0_indexOf_0f7a4 := rfl
theorem mL_217 : mL 217 = 2 := rfl
theorem mO_217 : mO 217 = 12 := rfl
theorem mK_217 : mK 217 = 0 := rfl
theorem mI_217 : mI 217 = false := rfl
theorem mB_218 : mB 218 = cJ0_indexOf_7cf53 := rfl
theorem mL_218 : mL 218 = 3 := rfl
theorem mO_218 : mO 218 = 12 := rfl
theorem mK_218 : mK 218 = 0 := rfl
theorem mI_218 : mI 218 = false := rfl
theorem mB_219 : mB 219 = cJ0_length_8abf5 := rfl
theorem mL_219 : mL 219 = 1 := rfl
theorem mO_219 : mO 219 = 12 := rfl
theorem mK_219 : mK 219 = 0 := rfl
theorem mI_219 : mI 219 = false := rfl
theorem mB_220 : mB 220 = cJ0_coder_7d493 := rfl
theorem mL_220 : mL 220 = 1 := rfl
theorem mO_220 : mO 220 = 12 := rfl
theorem mK_220 : mK 220 = 2 := rfl
theorem mI_220 : mI 220 = false := rfl
theorem mB_221 : mB 221 = cJ0_isLatin1_aae02 := rfl
theorem mL_221 : mL 221 = 1 := rfl
theorem mO_221 : mO 221 = 12 := rfl
theorem mK_221 : mK 221 = 1 := rfl
theorem mI_221 : mI 221 = false := rfl
theorem mB_222 : mB 222 = cJ0_checkIndex_df160 := rfl
theorem mL_222 : mL 222 = 2 := rfl
theorem mO_222 : mO 222 = 12 := rfl
theorem mK_222 : mK 222 = 5 := rfl
theorem mI_222 : mI 222 = false := rfl
theorem mB_223 : mB 223 = cJ1_charAt_3b067 := rfl
theorem mL_223 : mL 223 = 2 := rfl
theorem mO_223 : mO 223 = 13 := rfl
theorem mK_223 : mK 223 = 3 := rfl
theorem mI_223 : mI 223 = false := rfl
theorem mB_224 : mB 224 = cJ1_canEncode_9a6ad := rfl
theorem mL_224 : mL 224 = 1 := rfl
theorem mO_224 : mO 224 = 13 := rfl
theorem mK_224 : mK 224 = 1 := rfl
theorem mI_224 : mI 224 = false := rfl
theorem mB_225 : mB 225 = cJ1_indexOf_4cfef := rfl
theorem mL_225 : mL 225 = 4 := rfl
theorem mO_225 : mO 225 = 13 := rfl
theorem mK_225 : mK 225 = 0 := rfl
theorem mI_225 : mI 225 = false := rfl
theorem mB_226 : mB 226 = cJ1_indexOfChar_4cfef := rfl
theorem mL_226 : mL 226 = 6 := rfl
theorem mO_226 : mO 226 = 13 := rfl
theorem mK_226 : mK 226 = 0 := rfl
theorem mI_226 : mI 226 = false := rfl
theorem mB_227 : mB 227 = cJ7_fill_53178 := rfl
theorem mL_227 : mL 227 = 4 := rfl
theorem mO_227 : mO 227 = 15 := rfl
theorem mK_227 : mK 227 = 5 := rfl
theorem mI_227 : mI 227 = false := rfl
theorem mB_228 : mB 228 = cJ7_fill_d0a16 := rfl
theorem mL_228 : mL 228 = 5 := rfl
theorem mO_228 : mO 228 = 15 := rfl
theorem mK_228 : mK 228 = 5 := rfl
theorem mI_228 : mI 228 = false := rfl
theorem mB_229 : mB 229 = cJ7_copyOf_59c91 := rfl
theorem mL_229 : mL 229 = 3 := rfl
theorem mO_229 : mO 229 = 15 := rfl
theorem mK_229 : mK 229 = 6 := rfl
theorem mI_229 : mI 229 = false := rfl
theorem mB_230 : mB 230 = cJ3_checkIndex_8e157 := rfl
theorem mL_230 : mL 230 = 3 := rfl
theorem mO_230 : mO 230 = 16 := rfl
theorem mK_230 : mK 230 = 0 := rfl
theorem mI_230 : mI 230 = false := rfl
theorem mB_231 : mB 231 = object_method_1_code := rfl
theorem mL_231 : mL 231 = 1 := rfl
theorem mO_231 : mO 231 = 18 := rfl
theorem mK_231 : mK 231 = 5 := rfl
theorem mI_231 : mI 231 = true := rfl
theorem mB_232 : mB 232 = code := rfl
theorem mL_232 : mL 232 = 4 := rfl
theorem mO_232 : mO 232 = 17 := rfl
theorem mK_232 : mK 232 = 1 := rfl
theorem mI_232 : mI 232 = false := rfl
def q_cn : List String := [RX0, RX1, RX2, RX3, RX4, RX5, RX6, RX7, RX8, RX9, RX10, RX11, RJ0, RJ1, RJ9, RJ7, RJ3, RL, "java/lang/Object"]
def cN (c : Nat) : String := q_cn.getD c ""
def q_fl : List (Nat × (Nat × (Nat × (Nat × Nat)))) := [(0, 9, 0, 0, 1208), (0, 15, 0, 1, 1209), (0, 19, 0, 2, 1211), (0, 22, 9, 0, 1088), (0, 27, 0, 3, 1212), (0, 28, 9, 1, 1091), (0, 31, 0, 4, 1213), (1, 9, 1, 0, 1188), (1, 15, 1, 1, 1189), (1, 19, 1, 2, 1191), (1, 22, 2, 0, 3014), (1, 27, 9, 0, 1087), (1, 32, 4, 1, 1044), (1, 41, 2, 1, 3017), (1, 44, 4, 0, 1042), (1, 51, 2, 3, 3021), (1, 58, 9, 3, 1096), (2, 9, 2, 0, 3013), (2, 15, 2, 1, 3016), (2, 18, 2, 2, 3019), (2, 22, 2, 3, 3020), (3, 7, 3, 0, 1060), (3, 13, 3, 1, 1063), (3, 16, 3, 2, 1066), (3, 19, 3, 3, 1069), (4, 9, 4, 0, 1041), (4, 21, 4, 1, 1043), (4, 55, 3, 3, 1070), (4, 58, 3, 0, 1061), (4, 61, 3, 1, 1064), (4, 64, 3, 2, 1067), (5, 9, 5, 0, 1153), (5, 18, 5, 5, 1160), (5, 22, 5, 6, 1161), (5, 25, 5, 7, 1162), (5, 28, 5, 2, 1157), (5, 34, 5, 3, 1158), (5, 37, 5, 4, 1159), (5, 40, 7, 0, 1145), (5, 43, 7, 1, 1147), (5, 59, 5, 1, 1155), (6, 12, 6, 0, 1107), (6, 20, 6, 1, 1109), (6, 29, 6, 3, 1113), (6, 33, 6, 4, 1115), (6, 36, 6, 5, 1117), (6, 47, 6, 2, 1111), (7, 9, 7, 0, 1144), (7, 15, 7, 1, 1146), (8, 9, 8, 0, 1232), (8, 15, 8, 2, 1236), (8, 19, 8, 1, 1234), (9, 9, 9, 3, 1095), (9, 15, 9, 0, 1086), (9, 19, 9, 1, 1090), (9, 22, 9, 2, 1093), (10, 12, 10, 0, 2006), (10, 18, 10, 1, 2007), (10, 24, 10, 3, 2009), (10, 30, 10, 4, 2010), (10, 37, 10, 6, 2012), (10, 44, 10, 7, 2013), (10, 48, 10, 8, 2014), (10, 54, 10, 9, 2015), (10, 60, 10, 10, 2016), (10, 65, 6, 2, 1112), (10, 73, 10, 5, 2011), (10, 76, 6, 0, 1108), (10, 79, 4, 1, 1045), (10, 86, 6, 1, 1110), (10, 99, 9, 0, 1089), (10, 102, 9, 1, 1092), (10, 105, 9, 2, 1094), (10, 108, 9, 3, 1097), (10, 112, 5, 1, 1156), (10, 113, 5, 0, 1154), (10, 165, 2, 0, 3015), (10, 168, 2, 1, 3018), (10, 175, 1, 2, 1192), (10, 189, 1, 1, 1190), (10, 204, 6, 3, 1114), (10, 212, 3, 3, 1071), (10, 237, 6, 4, 1116), (10, 240, 3, 0, 1062), (10, 243, 3, 1, 1065), (10, 246, 3, 2, 1068), (10, 252, 6, 5, 1118), (10, 261, 8, 0, 1233), (10, 264, 8, 1, 1235), (10, 267, 8, 2, 1237), (10, 274, 10, 2, 2008), (10, 294, 0, 1, 1210), (11, 7, 11, 0, 4156), (11, 13, 11, 1, 4157), (11, 17, 11, 2, 4158), (11, 20, 11, 3, 4159), (11, 23, 11, 4, 4160), (11, 26, 11, 5, 4161), (11, 29, 11, 6, 4162), (11, 32, 11, 7, 4163), (11, 35, 11, 8, 4164), (11, 38, 11, 9, 4165), (11, 41, 11, 10, 4166), (11, 44, 11, 11, 4167), (11, 47, 11, 12, 4168), (11, 50, 11, 13, 4169), (11, 53, 11, 14, 4170), (11, 56, 11, 15, 4171), (11, 59, 11, 16, 4172), (11, 62, 11, 17, 4173), (11, 65, 11, 18, 4174), (11, 68, 11, 19, 4175), (11, 71, 11, 20, 4176), (11, 74, 11, 21, 4177), (11, 78, 11, 22, 4178), (11, 81, 11, 23, 4179), (11, 84, 11, 24, 4180), (11, 87, 11, 25, 4181), (11, 90, 11, 26, 4182), (11, 93, 11, 27, 4183), (11, 96, 11, 28, 4184), (11, 99, 11, 29, 4185), (11, 102, 11, 30, 4186), (11, 105, 11, 31, 4187), (11, 108, 11, 32, 4188), (11, 111, 11, 33, 4189), (11, 114, 11, 34, 4190), (11, 117, 11, 35, 4191), (11, 120, 11, 36, 4192), (11, 123, 11, 37, 4193), (11, 126, 11, 38, 4194), (11, 129, 11, 39, 4195), (11, 132, 11, 40, 4196), (11, 135, 11, 41, 4197), (11, 138, 11, 42, 4198), (11, 141, 11, 43, 4199), (11, 144, 11, 44, 4200), (11, 148, 11, 45, 4201), (11, 151, 11, 46, 4202), (11, 154, 11, 47, 4203), (11, 157, 11, 48, 4204), (11, 160, 11, 49, 4205), (11, 163, 11, 50, 4206), (11, 166, 11, 51, 4207), (11, 169, 11, 52, 4208), (11, 172, 11, 53, 4209), (11, 175, 11, 54, 4210), (11, 178, 11, 55, 4211), (11, 181, 11, 56, 4212), (11, 184, 11, 57, 4213), (11, 187, 11, 58, 4214), (11, 190, 11, 59, 4215), (11, 193, 11, 60, 4216), (11, 196, 11, 61, 4217), (11, 199, 11, 62, 4218), (11, 202, 11, 63, 4219), (11, 205, 11, 64, 4220), (11, 208, 11, 65, 4221), (11, 211, 11, 66, 4222), (11, 214, 11, 67, 4223), (11, 218, 11, 68, 4224)]
def q_iv : List (Nat × (Nat × (Nat × (Nat × (Nat × (Nat × (Nat × Nat))))))) := [(0, 32, 0, 5, 3, 0, 4, 4081), (0, 36, 0, 6, 3, 0, 4, 4089), (0, 39, 0, 7, 3, 0, 4, 4093), (0, 42, 0, 4, 2, 0, 3, 4085), (1, 37, 0, 15, 4, 2, 6, 3133), (1, 47, 1, 10, 3, 1, 3, 3146), (1, 54, 1, 16, 5, 2, 10, 3149), (1, 67, 1, 11, 3, 1, 4, 3151), (1, 71, 1, 12, 2, 1, 2, 3154), (1, 74, 0, 13, 2, 1, 5, 3159), (1, 78, 1, 25, 1, 4, 1, 3157), (1, 82, 1, 26, 1, 4, 1, 3158), (2, 25, 1, 16, 5, 2, 10, 3137), (2, 29, 1, 17, 5, 2, 5, 3140), (2, 33, 1, 18, 2, 2, 3, 3143), (3, 23, 0, 20, 0, 3, 1, 3227), (4, 26, 0, 27, 2, 4, 3, 3079), (4, 30, 0, 30, 1, 4, 2, 3075), (4, 34, 0, 28, 2, 4, 3, 3108), (4, 37, 0, 32, 1, 4, 4, 3113), (4, 46, 0, 37, 0, 4, 4, 3060), (4, 49, 1, 26, 1, 4, 1, 3067), (4, 52, 1, 25, 1, 4, 1, 3064), (5, 17, 3, 54, 0, 7, 1, 1140), (5, 46, 1, 229, 2, 15, 3, 2235), (5, 52, 2, 14, 4, 2, 5, 3009), (5, 55, 0, 43, 0, 5, 3, 2078), (5, 60, 0, 51, 0, 5, 1, 2130), (5, 64, 0, 49, 0, 5, 4, 2082), (5, 67, 0, 44, 1, 5, 3, 2134), (5, 71, 0, 45, 1, 5, 2, 2145), (5, 74, 0, 55, 1, 7, 2, 2225), (5, 78, 0, 50, 0, 5, 4, 2138), (5, 90, 0, 46, 1, 5, 2, 2149), (5, 93, 0, 47, 1, 5, 3, 2153), (5, 96, 0, 48, 1, 5, 5, 2157), (5, 101, 0, 217, 1, 12, 2, 2162), (5, 111, 0, 216, 1, 12, 2, 2087), (6, 11, 3, 23, 0, 4, 1, 1037), (6, 26, 2, 19, 1, 3, 2, 1056), (6, 39, 3, 61, 0, 9, 1, 1082), (6, 40, 0, 24, 1, 4, 2, 4055), (6, 44, 0, 63, 1, 9, 2, 4056), (6, 51, 0, 22, 1, 3, 3, 4061), (8, 22, 1, 228, 2, 15, 5, 4126), (9, 25, 1, 227, 2, 15, 4, 2051), (10, 11, 2, 52, 0, 6, 2, 1031), (10, 23, 3, 39, 0, 5, 1, 1134), (10, 36, 3, 8, 0, 1, 1, 1184), (10, 43, 3, 23, 0, 4, 1, 1201), (10, 53, 3, 0, 0, 0, 1, 1204), (10, 64, 3, 56, 0, 8, 1, 1228), (10, 69, 1, 65, 3, 10, 3, 2044), (10, 82, 1, 71, 1, 10, 1, 3122), (10, 90, 0, 62, 2, 9, 3, 2047), (10, 96, 0, 66, 1, 10, 2, 2058), (10, 116, 0, 42, 0, 5, 2, 2074), (10, 120, 0, 41, 0, 5, 1, 2229), (10, 124, 0, 40, 0, 5, 1, 3032), (10, 128, 0, 35, 1, 4, 4, 3040), (10, 132, 1, 70, 1, 10, 1, 3053), (10, 135, 0, 36, 1, 4, 3, 3056), (10, 138, 0, 31, 0, 4, 3, 3071), (10, 141, 0, 68, 1, 10, 2, 3087), (10, 144, 0, 28, 2, 4, 3, 3091), (10, 148, 0, 29, 2, 4, 3, 3095), (10, 152, 0, 30, 1, 4, 2, 3099), (10, 155, 0, 32, 1, 4, 4, 3104), (10, 159, 0, 33, 0, 4, 3, 3109), (10, 162, 0, 67, 1, 10, 2, 3118), (10, 171, 0, 9, 4, 1, 11, 3129), (10, 178, 0, 24, 1, 4, 2, 3171), (10, 182, 0, 85, 3, 10, 4, 3167), (10, 186, 0, 86, 2, 10, 3, 3180), (10, 192, 0, 87, 3, 10, 4, 3192), (10, 201, 0, 34, 1, 4, 4, 3205), (10, 208, 1, 95, 4, 10, 4, 3213), (10, 215, 1, 72, 3, 10, 3, 3216), (10, 218, 0, 20, 0, 3, 1, 3219), (10, 221, 0, 21, 3, 3, 4, 3223), (10, 224, 0, 38, 1, 4, 3, 3236), (10, 228, 0, 96, 3, 10, 4, 3232), (10, 233, 1, 101, 3, 10, 5, 4009), (10, 249, 0, 104, 3, 10, 4, 4024), (10, 255, 1, 69, 1, 10, 1, 4040), (10, 258, 0, 57, 0, 8, 1, 4043), (10, 271, 0, 53, 1, 6, 3, 4051), (10, 278, 0, 1, 0, 0, 1, 4073), (10, 281, 0, 2, 4, 0, 5, 4077), (10, 285, 0, 3, 1, 0, 2, 4101), (10, 288, 1, 113, 2, 10, 4, 4109), (10, 295, 0, 59, 2, 8, 3, 4122), (10, 296, 0, 58, 1, 8, 2, 4133), (10, 299, 0, 60, 1, 8, 3, 4137), (11, 221, 0, 120, 3, 11, 4, 5129), (11, 225, 0, 121, 1, 11, 2, 5137), (11, 229, 0, 126, 0, 11, 1, 5165), (11, 233, 0, 128, 1, 11, 2, 5173), (11, 236, 0, 130, 0, 11, 1, 5197), (11, 240, 0, 132, 1, 11, 2, 5201), (11, 244, 0, 135, 1, 11, 2, 5189), (11, 248, 0, 131, 0, 11, 2, 5193), (11, 251, 0, 133, 0, 11, 1, 5205), (11, 254, 0, 136, 0, 11, 3, 5185), (11, 257, 0, 134, 1, 11, 2, 5209), (11, 260, 0, 129, 2, 11, 4, 5169), (11, 264, 0, 127, 0, 11, 1, 5177), (11, 267, 0, 138, 1, 11, 2, 5161), (11, 270, 0, 137, 1, 11, 4, 5181), (11, 273, 0, 139, 1, 11, 2, 5157), (11, 276, 0, 140, 1, 11, 3, 5153), (11, 279, 0, 143, 3, 11, 6, 5225), (11, 283, 0, 142, 1, 11, 2, 5217), (11, 286, 0, 144, 1, 11, 3, 5221), (11, 289, 0, 145, 1, 11, 3, 5229), (11, 292, 0, 147, 4, 11, 5, 6069), (11, 296, 0, 148, 4, 11, 10, 6065), (11, 300, 0, 152, 1, 11, 3, 5237), (11, 303, 0, 150, 1, 11, 4, 6017), (11, 306, 0, 155, 0, 11, 6, 6013), (11, 309, 0, 151, 1, 11, 2, 6021), (11, 312, 0, 157, 1, 11, 2, 6029), (11, 315, 0, 156, 1, 11, 3, 6009), (11, 318, 0, 158, 0, 11, 3, 6025), (11, 321, 0, 159, 1, 11, 4, 6041), (11, 324, 0, 162, 0, 11, 3, 6045), (11, 327, 0, 149, 5, 11, 7, 6061), (11, 331, 0, 166, 3, 11, 5, 6057), (11, 334, 0, 167, 2, 11, 4, 6073), (11, 338, 0, 164, 3, 11, 5, 6077), (11, 342, 0, 165, 2, 11, 4, 6081), (11, 346, 0, 168, 2, 11, 9, 6053), (11, 349, 0, 170, 0, 11, 2, 6089), (11, 352, 0, 171, 0, 11, 2, 6093), (11, 355, 0, 172, 3, 11, 5, 6105), (11, 358, 0, 173, 2, 11, 3, 6101), (11, 361, 0, 176, 5, 11, 7, 6114), (11, 365, 0, 180, 3, 11, 4, 6130), (11, 368, 0, 182, 1, 11, 2, 6142), (11, 371, 0, 183, 2, 11, 5, 6138), (11, 374, 0, 186, 2, 11, 6, 6159), (11, 379, 0, 187, 3, 11, 5, 6155), (11, 383, 0, 191, 1, 11, 2, 6175), (11, 386, 0, 210, 1, 11, 2, 6191), (11, 389, 0, 198, 1, 11, 2, 6211), (11, 392, 0, 199, 2, 11, 3, 6215), (11, 395, 0, 200, 2, 11, 3, 6207), (11, 398, 0, 201, 2, 11, 3, 6227), (11, 401, 0, 202, 2, 11, 3, 6223), (11, 404, 0, 203, 2, 11, 4, 6219), (11, 407, 0, 204, 2, 11, 3, 6235), (11, 410, 0, 205, 2, 11, 4, 6231), (11, 413, 0, 212, 2, 11, 4, 7019), (12, 335, 0, 220, 0, 12, 1, 2174), (12, 492, 0, 221, 0, 12, 1, 2091), (12, 495, 1, 223, 2, 13, 2, 2097), (12, 505, 0, 219, 0, 12, 1, 2170), (12, 633, 0, 218, 2, 12, 3, 2166), (12, 637, 1, 225, 4, 13, 4, 2178), (12, 1059, 1, 230, 3, 16, 3, 2105), (13, 9, 1, 222, 2, 12, 2, 2100), (13, 88, 1, 224, 1, 13, 1, 2181), (13, 95, 1, 226, 4, 13, 6, 2186), (17, 9, 2, 64, 0, 10, 2, 1023), (17, 12, 2, 119, 0, 11, 1, 4152), (17, 13, 0, 73, 2, 10, 3, 2040), (17, 17, 0, 122, 2, 11, 4, 5125), (17, 18, 0, 74, 2, 10, 3, 2054), (17, 21, 0, 123, 2, 11, 3, 5133), (17, 22, 0, 75, 3, 10, 5, 2062), (17, 26, 0, 124, 3, 11, 5, 5141), (17, 27, 0, 76, 1, 10, 2, 2066), (17, 31, 0, 125, 1, 11, 2, 5145), (17, 32, 0, 77, 0, 10, 2, 2070), (17, 36, 0, 141, 0, 11, 2, 5149), (17, 37, 0, 78, 1, 10, 2, 3036), (17, 40, 0, 153, 1, 11, 2, 5233), (17, 41, 0, 79, 0, 10, 2, 3045), (17, 44, 0, 154, 0, 11, 2, 6001), (17, 45, 0, 80, 1, 10, 2, 3049), (17, 48, 0, 160, 1, 11, 2, 6005), (17, 49, 0, 81, 2, 10, 3, 3083), (17, 52, 0, 161, 2, 11, 3, 6033), (17, 53, 0, 82, 1, 10, 2, 3100), (17, 56, 0, 163, 1, 11, 2, 6037), (17, 57, 0, 83, 2, 10, 3, 3114), (17, 60, 0, 146, 2, 11, 3, 5213), (17, 61, 0, 84, 2, 10, 4, 3125), (17, 64, 0, 169, 2, 11, 3, 6049), (17, 65, 0, 88, 3, 10, 4, 3163), (17, 68, 0, 172, 3, 11, 5, 6085), (17, 69, 0, 89, 1, 10, 6, 3176), (17, 72, 0, 174, 1, 11, 6, 6097), (17, 73, 0, 90, 2, 10, 3, 3184), (17, 76, 0, 175, 2, 11, 4, 6106), (17, 77, 0, 91, 5, 10, 10, 3188), (17, 81, 0, 177, 5, 11, 10, 6110), (17, 82, 0, 92, 3, 10, 10, 3196), (17, 85, 0, 178, 3, 11, 10, 6118), (17, 86, 0, 93, 1, 10, 2, 3201), (17, 89, 0, 179, 1, 11, 3, 6122), (17, 90, 0, 94, 3, 10, 4, 3209), (17, 93, 0, 181, 3, 11, 4, 6126), (17, 94, 0, 97, 1, 10, 4, 3228), (17, 97, 0, 184, 1, 11, 4, 6134), (17, 98, 0, 98, 3, 10, 7, 4000), (17, 101, 0, 185, 3, 11, 8, 6146), (17, 102, 0, 99, 3, 10, 6, 4004), (17, 106, 0, 188, 3, 11, 6, 6150), (17, 107, 0, 100, 2, 10, 5, 4012), (17, 111, 0, 189, 2, 11, 5, 6163), (17, 112, 0, 102, 3, 10, 4, 4016), (17, 115, 0, 190, 3, 11, 4, 6167), (17, 116, 0, 103, 1, 10, 3, 4020), (17, 119, 0, 192, 1, 11, 3, 6171), (17, 120, 0, 105, 3, 10, 4, 4028), (17, 123, 0, 193, 3, 11, 4, 6179), (17, 124, 0, 106, 0, 10, 1, 4032), (17, 127, 0, 194, 0, 11, 2, 6183), (17, 128, 0, 107, 2, 10, 5, 4036), (17, 131, 0, 195, 2, 11, 4, 6187), (17, 132, 0, 108, 0, 10, 1, 4047), (17, 135, 0, 196, 0, 11, 2, 6195), (17, 136, 0, 109, 0, 10, 1, 4065), (17, 139, 0, 197, 0, 11, 2, 6199), (17, 140, 0, 110, 3, 10, 4, 4069), (17, 143, 0, 206, 3, 11, 4, 6203), (17, 144, 0, 111, 1, 10, 2, 4097), (17, 147, 0, 207, 1, 11, 2, 6239), (17, 148, 0, 112, 2, 10, 4, 4105), (17, 151, 0, 208, 2, 11, 4, 7003), (17, 152, 0, 114, 1, 10, 2, 4114), (17, 155, 0, 209, 1, 11, 2, 7007), (17, 156, 0, 115, 3, 10, 4, 4118), (17, 159, 0, 211, 3, 11, 5, 7011), (17, 162, 0, 116, 3, 10, 6, 4129), (17, 166, 0, 213, 3, 11, 5, 7015), (17, 167, 0, 117, 2, 10, 3, 4141), (17, 170, 0, 214, 2, 11, 3, 7023), (17, 171, 0, 118, 5, 10, 8, 4145), (17, 174, 0, 215, 5, 11, 7, 7027)]
def q_sp : List (Nat × (Nat × (Nat × Nat))) := [(0, 3, 5, 1207), (1, 3, 5, 1187), (1, 61, 8, 3150), (2, 3, 5, 3012), (3, 1, 5, 1059), (4, 3, 5, 1040), (4, 15, 6, 3175), (4, 41, 8, 3044), (5, 3, 5, 1137), (5, 81, 7, 2127), (5, 87, 8, 2142), (6, 3, 5, 1034), (7, 3, 5, 1143), (8, 3, 5, 1231), (9, 3, 5, 1085), (9, 31, 6, 4060), (10, 3, 5, 1026), (10, 196, 7, 3200), (10, 303, 6, 4149), (11, 1, 5, 4155), (13, 38, 8, 2185), (13, 92, 7, 2184), (15, 150, 6, 3006), (15, 304, 8, 3005)]
def q_nw : List (Nat × (Nat × (Nat × Nat))) := [(5, 15, 7, 1138), (5, 32, 2, 2233), (6, 9, 4, 1035), (6, 18, 9, 1052), (6, 24, 3, 1054), (10, 9, 6, 1029), (10, 21, 5, 1132), (10, 34, 1, 1182), (10, 41, 4, 1200), (10, 51, 0, 1202), (10, 58, 8, 1225), (17, 7, 10, 1021), (17, 10, 11, 4150)]
def q_an : List (Nat × (Nat × (Nat × Nat))) := [(6, 18, 4, 1052), (10, 28, 6, 1180), (10, 58, 5, 1225)]
def q_lc : List (Nat × (Nat × (Nat × (Int × Nat)))) := [(4, 25, 0, 32896, 3070), (5, 109, 1, -10, 2086), (5, 99, 1, -11, 2161), (5, 107, 1, -12, 2224)]
def q_l2 : List (Nat × (Nat × (Int × Nat))) := [(10, 231, -9223372036854775808, 4008), (11, 377, -9223372036854775808, 6154), (17, 160, 4294967295, 7031)]
def q_gs : List (Nat × (Nat × (Nat × Nat))) := [(12, 38, 1, 2095), (12, 1053, 2, 2103), (10, 291, 0, 4112)]
def q_sf : List (Nat × (Nat × (Nat × Nat))) := [(12, 15, 1, 7032), (12, 9, 0, 7033)]
def q_bs : List (Nat × Nat) := [(0, 10), (0, 6), (0, 4), (1, 12), (4, 5), (0, 3), (1, 5), (1, 5), (1, 5), (0, 3), (1, 6), (1, 6), (1, 6), (0, 3), (1, 8), (1, 8), (1, 8), (0, 9), (1, 4), (0, 9), (1, 4), (0, 9), (1, 4), (0, 9), (1, 4), (0, 9), (1, 4), (0, 6), (0, 4), (1, 12), (4, 5), (0, 3), (1, 5), (1, 5), (1, 5), (0, 3), (1, 6), (1, 6), (1, 6), (0, 3), (1, 8), (1, 8), (1, 8), (0, 9), (1, 4), (0, 9), (1, 4), (0, 9), (1, 4), (0, 9), (1, 4), (0, 9), (1, 4), (0, 5), (1, 100), (0, 7), (1, 100), (0, 7), (1, 100), (6, 6), (0, 1), (1, 12), (0, 4), (1, 12), (0, 4), (1, 12), (0, 0), (1, 20), (5, 6), (0, 8), (3, 60), (0, 8), (3, 60), (0, 8), (3, 60), (0, 8), (3, 60), (0, 8), (3, 60), (0, 8), (3, 60), (0, 11), (1, 5), (1, 5), (1, 5), (1, 20), (1, 100), (1, 6), (1, 60), (1, 60), (1, 60), (1, 60), (1, 600), (1, 101), (1, 16), (2, 100), (1, 24), (1, 24), (1, 24), (2, 24), (2, 24), (2, 24), (1, 24), (2, 24), (1, 5), (1, 5), (1, 6), (1, 6), (1, 6), (1, 8), (1, 8), (1, 24), (1, 5), (1, 5), (1, 5), (1, 20), (1, 5), (1, 5), (1, 6), (1, 6), (1, 6), (1, 8), (1, 8), (2, 24), (1, 20), (1, 6), (1, 6), (3, 360), (3, 60)]
def q_st : List (Int × (Int × Int)) := [(0, 0, 1), (0, 1, 27), (0, 3, 53), (0, 4, 59), (0, 6, 60), (0, 7, 62), (0, 8, 64), (0, 9, 66), (0, 10, 68), (1, 0, 2), (1, 1, 4), (1, 3, 5), (1, 4, 9), (1, 5, 13), (2, 0, 3), (4, 0, 17), (4, 1, 19), (4, 2, 21), (4, 3, 23), (4, 4, 25), (5, 0, 6), (5, 1, 7), (5, 2, 8), (9, 0, 10), (9, 1, 11), (9, 2, 12), (13, 0, 14), (13, 1, 15), (13, 2, 16), (17, 3, 18), (19, 3, 20), (21, 3, 22), (23, 3, 24), (25, 3, 26), (27, 0, 28), (27, 1, 30), (27, 3, 31), (27, 4, 35), (27, 5, 39), (28, 0, 29), (30, 0, 43), (30, 1, 45), (30, 2, 47), (30, 3, 49), (30, 4, 51), (31, 0, 32), (31, 1, 33), (31, 2, 34), (35, 0, 36), (35, 1, 37), (35, 2, 38), (39, 0, 40), (39, 1, 41), (39, 2, 42), (43, 3, 44), (45, 3, 46), (47, 3, 48), (49, 3, 50), (51, 3, 52), (53, 0, 54), (53, 5, 55), (53, 6, 57), (55, 0, 56), (57, 0, 58), (60, 0, 61), (62, 0, 63), (64, 0, 65), (66, 0, 67), (68, 0, 69), (68, 1, 71), (68, 2, 73), (68, 3, 75), (68, 4, 77), (68, 5, 79), (69, 2, 70), (71, 2, 72), (73, 2, 74), (75, 2, 76), (77, 2, 78), (79, 2, 80), (81, 1, 82), (81, 2, 83), (81, 3, 84), (81, 4, 85), (81, 9, 86), (81, 10, 87), (81, 11, 88), (81, 12, 89), (81, 13, 90), (81, 14, 91), (81, 15, 92), (81, 16, 93), (81, 20, 94), (81, 21, 95), (81, 23, 96), (81, 24, 97), (81, 25, 98), (81, 26, 99), (81, 27, 100), (81, 28, 101), (81, 32, 102), (81, 33, 103), (81, 35, 104), (81, 36, 105), (81, 39, 106), (81, 40, 107), (81, 41, 108), (81, 42, 109), (81, 43, 110), (81, 50, 111), (81, 51, 112), (81, 52, 113), (81, 53, 114), (81, 54, 115), (81, 55, 116), (81, 56, 117), (81, 57, 118), (81, 58, 119), (81, 59, 120), (81, 60, 121), (81, 61, 122), (81, 62, 123), (81, 64, 124), (81, 65, 125), (81, 66, 126), (81, 67, 127), (81, 68, 128)]
def q_ft : List (List Nat) := [[2, 0, 0, 0, 0], [2, 0, 0], [0, 0, 2, 2], [2, 2, 2, 0], [2, 0], [2, 0, 0, 0, 0, 2, 2, 2], [2, 2, 0, 2, 2, 2], [2, 0], [0, 0, 2], [0, 0, 0, 2], [2, 2, 3, 2, 2, 0, 2, 2, 2, 2, 2], [0, 2, 2, 2, 2, 0, 0, 0, 0, 2, 2, 2, 2, 2, 2, 2, 2, 0, 0, 0, 2, 2, 0, 2, 2, 2, 2, 2, 2, 0, 0, 0, 2, 2, 0, 2, 2, 0, 0, 2, 2, 2, 2, 2, 3, 0, 0, 0, 0, 0, 2, 2, 2, 2, 2, 2, 2, 2, 2, 2, 2, 2, 2, 0, 2, 2, 2, 2, 2]]
def q_fn : List (List Bool) := [[true, false, false, false, false], [true, false, false], [true, true, true, true], [true, true, true, false], [true, false], [true, false, false, false, false, true, true, false], [true, true, false, true, true, true], [true, false], [false, false, true], [false, false, false, true], [true, true, false, true, true, false, true, true, true, true, true], [false, true, true, true, true, false, false, false, false, true, true, true, true, true, true, true, true, false, false, false, true, true, false, true, true, true, true, true, true, false, false, false, true, true, false, true, true, false, false, true, true, true, true, true, false, false, false, false, false, false, true, true, true, true, true, true, true, true, true, true, true, true, true, false, true, true, true, true, true]]
