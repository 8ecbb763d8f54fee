section
-- ===== PART A: goes FIRST, ahead of the names: the tables' words, and 'selects' of the private methods out of them =====
/-- a private method of a class that the tables say can be made, by its rows of tables_1 -/
def lw_okq (q : MethodName × Nat) : Prop := (q.1.cls ≠ "java/lang/invoke/MethodHandle" ∧ q.1.cls ≠ "java/lang/invoke/VarHandle") ∧ Cond.instantiable q.1.cls q.2 ∈ tables_1 ∧ Cond.privateMethod q.1 ∈ tables_1 ∧ Cond.instanceMethod q.1 ∈ tables_1
theorem lw_p0 : lw_okq (⟨"SureFunctions", "findWhatIsWrong", "()I"⟩, 10) := ⟨⟨by decide +kernel, by decide +kernel⟩, List.mem_of_getElem? (i := 19) (by decide +kernel), List.mem_of_getElem? (i := 312) (by decide +kernel), List.mem_of_getElem? (i := 313) (by decide +kernel)⟩
theorem lw_p1 : lw_okq (⟨"SureFunctions$Typing", "typesWithValues", "()I"⟩, 5) := ⟨⟨by decide +kernel, by decide +kernel⟩, List.mem_of_getElem? (i := 119) (by decide +kernel), List.mem_of_getElem? (i := 328) (by decide +kernel), List.mem_of_getElem? (i := 329) (by decide +kernel)⟩
theorem lw_p2 : lw_okq (⟨"SureFunctions$Typing", "isTyped", "(I)Z"⟩, 5) := ⟨⟨by decide +kernel, by decide +kernel⟩, List.mem_of_getElem? (i := 119) (by decide +kernel), List.mem_of_getElem? (i := 349) (by decide +kernel), List.mem_of_getElem? (i := 350) (by decide +kernel)⟩
theorem lw_p3 : lw_okq (⟨"SureFunctions$Typing", "isPatternOfType", "(II)Z"⟩, 5) := ⟨⟨by decide +kernel, by decide +kernel⟩, List.mem_of_getElem? (i := 119) (by decide +kernel), List.mem_of_getElem? (i := 369) (by decide +kernel), List.mem_of_getElem? (i := 370) (by decide +kernel)⟩
theorem lw_p4 : lw_okq (⟨"SureFunctions$Typing", "isOfType", "(II)Z"⟩, 5) := ⟨⟨by decide +kernel, by decide +kernel⟩, List.mem_of_getElem? (i := 119) (by decide +kernel), List.mem_of_getElem? (i := 393) (by decide +kernel), List.mem_of_getElem? (i := 394) (by decide +kernel)⟩
theorem lw_p5 : lw_okq (⟨"SureFunctions$Coverage", "readPatterns", "(I)V"⟩, 6) := ⟨⟨by decide +kernel, by decide +kernel⟩, List.mem_of_getElem? (i := 141) (by decide +kernel), List.mem_of_getElem? (i := 406) (by decide +kernel), List.mem_of_getElem? (i := 407) (by decide +kernel)⟩
theorem lw_p6 : lw_okq (⟨"SureFunctions$Coverage", "readPattern", "(II)V"⟩, 6) := ⟨⟨by decide +kernel, by decide +kernel⟩, List.mem_of_getElem? (i := 141) (by decide +kernel), List.mem_of_getElem? (i := 420) (by decide +kernel), List.mem_of_getElem? (i := 421) (by decide +kernel)⟩
theorem lw_p7 : lw_okq (⟨"SureFunctions$Coverage", "isCovered", "(II)Z"⟩, 6) := ⟨⟨by decide +kernel, by decide +kernel⟩, List.mem_of_getElem? (i := 141) (by decide +kernel), List.mem_of_getElem? (i := 428) (by decide +kernel), List.mem_of_getElem? (i := 429) (by decide +kernel)⟩
theorem lw_p8 : lw_okq (⟨"SureFunctions$Coverage", "compare", "(I)I"⟩, 6) := ⟨⟨by decide +kernel, by decide +kernel⟩, List.mem_of_getElem? (i := 141) (by decide +kernel), List.mem_of_getElem? (i := 432) (by decide +kernel), List.mem_of_getElem? (i := 433) (by decide +kernel)⟩
theorem lw_p9 : lw_okq (⟨"SureFunctions$Coverage", "isCoveredWhenSplit", "(IIII)Z"⟩, 6) := ⟨⟨by decide +kernel, by decide +kernel⟩, List.mem_of_getElem? (i := 141) (by decide +kernel), List.mem_of_getElem? (i := 439) (by decide +kernel), List.mem_of_getElem? (i := 440) (by decide +kernel)⟩
theorem lw_p10 : lw_okq (⟨"SureFunctions$Coverage", "slotType", "(II)I"⟩, 6) := ⟨⟨by decide +kernel, by decide +kernel⟩, List.mem_of_getElem? (i := 141) (by decide +kernel), List.mem_of_getElem? (i := 443) (by decide +kernel), List.mem_of_getElem? (i := 444) (by decide +kernel)⟩
theorem lw_p11 : lw_okq (⟨"SureFunctions$Coverage", "constructorThatNoneNames", "(III)I"⟩, 6) := ⟨⟨by decide +kernel, by decide +kernel⟩, List.mem_of_getElem? (i := 141) (by decide +kernel), List.mem_of_getElem? (i := 448) (by decide +kernel), List.mem_of_getElem? (i := 449) (by decide +kernel)⟩
theorem lw_p12 : lw_okq (⟨"SureFunctions$Coverage", "isNamed", "(III)Z"⟩, 6) := ⟨⟨by decide +kernel, by decide +kernel⟩, List.mem_of_getElem? (i := 141) (by decide +kernel), List.mem_of_getElem? (i := 453) (by decide +kernel), List.mem_of_getElem? (i := 454) (by decide +kernel)⟩
theorem lw_p13 : lw_okq (⟨"SureFunctions$Ending", "collectCalls", "(I)V"⟩, 9) := ⟨⟨by decide +kernel, by decide +kernel⟩, List.mem_of_getElem? (i := 166) (by decide +kernel), List.mem_of_getElem? (i := 462) (by decide +kernel), List.mem_of_getElem? (i := 463) (by decide +kernel)⟩
theorem lw_p14 : lw_okq (⟨"SureFunctions$Ending", "collectCallsIn", "(I)V"⟩, 9) := ⟨⟨by decide +kernel, by decide +kernel⟩, List.mem_of_getElem? (i := 166) (by decide +kernel), List.mem_of_getElem? (i := 467) (by decide +kernel), List.mem_of_getElem? (i := 468) (by decide +kernel)⟩
theorem lw_p15 : lw_okq (⟨"SureFunctions$Ending", "graphOf", "(II)I"⟩, 9) := ⟨⟨by decide +kernel, by decide +kernel⟩, List.mem_of_getElem? (i := 166) (by decide +kernel), List.mem_of_getElem? (i := 477) (by decide +kernel), List.mem_of_getElem? (i := 478) (by decide +kernel)⟩
def lw_privs_1 : List (MethodName × Nat) := [(⟨"SureFunctions", "findWhatIsWrong", "()I"⟩, 10), (⟨"SureFunctions$Typing", "typesWithValues", "()I"⟩, 5), (⟨"SureFunctions$Typing", "isTyped", "(I)Z"⟩, 5), (⟨"SureFunctions$Typing", "isPatternOfType", "(II)Z"⟩, 5), (⟨"SureFunctions$Typing", "isOfType", "(II)Z"⟩, 5), (⟨"SureFunctions$Coverage", "readPatterns", "(I)V"⟩, 6), (⟨"SureFunctions$Coverage", "readPattern", "(II)V"⟩, 6), (⟨"SureFunctions$Coverage", "isCovered", "(II)Z"⟩, 6), (⟨"SureFunctions$Coverage", "compare", "(I)I"⟩, 6), (⟨"SureFunctions$Coverage", "isCoveredWhenSplit", "(IIII)Z"⟩, 6), (⟨"SureFunctions$Coverage", "slotType", "(II)I"⟩, 6), (⟨"SureFunctions$Coverage", "constructorThatNoneNames", "(III)I"⟩, 6), (⟨"SureFunctions$Coverage", "isNamed", "(III)Z"⟩, 6), (⟨"SureFunctions$Ending", "collectCalls", "(I)V"⟩, 9), (⟨"SureFunctions$Ending", "collectCallsIn", "(I)V"⟩, 9), (⟨"SureFunctions$Ending", "graphOf", "(II)I"⟩, 9)]
theorem lw_r1 : ∀ q ∈ lw_privs_1, lw_okq q := List.forall_mem_cons.mpr ⟨lw_p0, List.forall_mem_cons.mpr ⟨lw_p1, List.forall_mem_cons.mpr ⟨lw_p2, List.forall_mem_cons.mpr ⟨lw_p3, List.forall_mem_cons.mpr ⟨lw_p4, List.forall_mem_cons.mpr ⟨lw_p5, List.forall_mem_cons.mpr ⟨lw_p6, List.forall_mem_cons.mpr ⟨lw_p7, List.forall_mem_cons.mpr ⟨lw_p8, List.forall_mem_cons.mpr ⟨lw_p9, List.forall_mem_cons.mpr ⟨lw_p10, List.forall_mem_cons.mpr ⟨lw_p11, List.forall_mem_cons.mpr ⟨lw_p12, List.forall_mem_cons.mpr ⟨lw_p13, List.forall_mem_cons.mpr ⟨lw_p14, List.forall_mem_cons.mpr ⟨lw_p15, fun _ h => absurd h List.not_mem_nil⟩⟩⟩⟩⟩⟩⟩⟩⟩⟩⟩⟩⟩⟩⟩⟩
theorem lw_p16 : lw_okq (⟨"SureFunctions$Ending", "isSame", "(II)Z"⟩, 9) := ⟨⟨by decide +kernel, by decide +kernel⟩, List.mem_of_getElem? (i := 166) (by decide +kernel), List.mem_of_getElem? (i := 488) (by decide +kernel), List.mem_of_getElem? (i := 489) (by decide +kernel)⟩
theorem lw_p17 : lw_okq (⟨"SureFunctions$Ending", "isInside", "(II)Z"⟩, 9) := ⟨⟨by decide +kernel, by decide +kernel⟩, List.mem_of_getElem? (i := 166) (by decide +kernel), List.mem_of_getElem? (i := 495) (by decide +kernel), List.mem_of_getElem? (i := 496) (by decide +kernel)⟩
theorem lw_p18 : lw_okq (⟨"SureFunctions$Ending", "addGraph", "(I)V"⟩, 9) := ⟨⟨by decide +kernel, by decide +kernel⟩, List.mem_of_getElem? (i := 166) (by decide +kernel), List.mem_of_getElem? (i := 502) (by decide +kernel), List.mem_of_getElem? (i := 503) (by decide +kernel)⟩
theorem lw_p19 : lw_okq (⟨"SureFunctions$Ending", "addCompositions", "(I)V"⟩, 9) := ⟨⟨by decide +kernel, by decide +kernel⟩, List.mem_of_getElem? (i := 166) (by decide +kernel), List.mem_of_getElem? (i := 507) (by decide +kernel), List.mem_of_getElem? (i := 508) (by decide +kernel)⟩
theorem lw_p20 : lw_okq (⟨"java/lang/Throwable", "fillInStackTrace", "(I)Ljava/lang/Throwable;"⟩, 6) := ⟨⟨by decide +kernel, by decide +kernel⟩, List.mem_of_getElem? (i := 623) (by decide +kernel), List.mem_of_getElem? (i := 621) (by decide +kernel), List.mem_of_getElem? (i := 622) (by decide +kernel)⟩
theorem lw_p21 : lw_okq (⟨"SureFunctions$Terms", "join", "(IIII)I"⟩, 10) := ⟨⟨by decide +kernel, by decide +kernel⟩, List.mem_of_getElem? (i := 50) (by decide +kernel), List.mem_of_getElem? (i := 730) (by decide +kernel), List.mem_of_getElem? (i := 731) (by decide +kernel)⟩
theorem lw_p22 : lw_okq (⟨"SureFunctions", "areArguments", "(IIII)Z"⟩, 10) := ⟨⟨by decide +kernel, by decide +kernel⟩, List.mem_of_getElem? (i := 19) (by decide +kernel), List.mem_of_getElem? (i := 809) (by decide +kernel), List.mem_of_getElem? (i := 810) (by decide +kernel)⟩
theorem lw_p23 : lw_okq (⟨"SureFunctions$Machine", "hold", "(I)V"⟩, 15) := ⟨⟨by decide +kernel, by decide +kernel⟩, List.mem_of_getElem? (i := 200) (by decide +kernel), List.mem_of_getElem? (i := 826) (by decide +kernel), List.mem_of_getElem? (i := 827) (by decide +kernel)⟩
theorem lw_p24 : lw_okq (⟨"SureFunctions$Machine", "step", "(I)V"⟩, 15) := ⟨⟨by decide +kernel, by decide +kernel⟩, List.mem_of_getElem? (i := 200) (by decide +kernel), List.mem_of_getElem? (i := 830) (by decide +kernel), List.mem_of_getElem? (i := 831) (by decide +kernel)⟩
theorem lw_p25 : lw_okq (⟨"SureFunctions$Machine", "matchesAll", "(III)Z"⟩, 15) := ⟨⟨by decide +kernel, by decide +kernel⟩, List.mem_of_getElem? (i := 200) (by decide +kernel), List.mem_of_getElem? (i := 836) (by decide +kernel), List.mem_of_getElem? (i := 837) (by decide +kernel)⟩
theorem lw_p26 : lw_okq (⟨"SureFunctions$Machine", "matches", "(III)Z"⟩, 15) := ⟨⟨by decide +kernel, by decide +kernel⟩, List.mem_of_getElem? (i := 200) (by decide +kernel), List.mem_of_getElem? (i := 841) (by decide +kernel), List.mem_of_getElem? (i := 842) (by decide +kernel)⟩
theorem lw_p27 : lw_okq (⟨"SureFunctions$Machine", "open", "(II)V"⟩, 15) := ⟨⟨by decide +kernel, by decide +kernel⟩, List.mem_of_getElem? (i := 200) (by decide +kernel), List.mem_of_getElem? (i := 860) (by decide +kernel), List.mem_of_getElem? (i := 861) (by decide +kernel)⟩
theorem lw_p28 : lw_okq (⟨"SureFunctions$Machine", "turn", "()V"⟩, 15) := ⟨⟨by decide +kernel, by decide +kernel⟩, List.mem_of_getElem? (i := 200) (by decide +kernel), List.mem_of_getElem? (i := 864) (by decide +kernel), List.mem_of_getElem? (i := 865) (by decide +kernel)⟩
theorem lw_p29 : lw_okq (⟨"SureFunctions$Machine", "build", "(II)V"⟩, 15) := ⟨⟨by decide +kernel, by decide +kernel⟩, List.mem_of_getElem? (i := 200) (by decide +kernel), List.mem_of_getElem? (i := 869) (by decide +kernel), List.mem_of_getElem? (i := 870) (by decide +kernel)⟩
theorem lw_p30 : lw_okq (⟨"SureFunctions$Machine", "writeAnswer", "(I)V"⟩, 15) := ⟨⟨by decide +kernel, by decide +kernel⟩, List.mem_of_getElem? (i := 200) (by decide +kernel), List.mem_of_getElem? (i := 891) (by decide +kernel), List.mem_of_getElem? (i := 892) (by decide +kernel)⟩
theorem lw_p31 : lw_okq (⟨"SureFunctionsModel", "build", "(IIIII)I"⟩, 45) := ⟨⟨by decide +kernel, by decide +kernel⟩, List.mem_of_getElem? (i := 932) (by decide +kernel), List.mem_of_getElem? (i := 1103) (by decide +kernel), List.mem_of_getElem? (i := 1104) (by decide +kernel)⟩
def lw_privs_2 : List (MethodName × Nat) := [(⟨"SureFunctions$Ending", "isSame", "(II)Z"⟩, 9), (⟨"SureFunctions$Ending", "isInside", "(II)Z"⟩, 9), (⟨"SureFunctions$Ending", "addGraph", "(I)V"⟩, 9), (⟨"SureFunctions$Ending", "addCompositions", "(I)V"⟩, 9), (⟨"java/lang/Throwable", "fillInStackTrace", "(I)Ljava/lang/Throwable;"⟩, 6), (⟨"SureFunctions$Terms", "join", "(IIII)I"⟩, 10), (⟨"SureFunctions", "areArguments", "(IIII)Z"⟩, 10), (⟨"SureFunctions$Machine", "hold", "(I)V"⟩, 15), (⟨"SureFunctions$Machine", "step", "(I)V"⟩, 15), (⟨"SureFunctions$Machine", "matchesAll", "(III)Z"⟩, 15), (⟨"SureFunctions$Machine", "matches", "(III)Z"⟩, 15), (⟨"SureFunctions$Machine", "open", "(II)V"⟩, 15), (⟨"SureFunctions$Machine", "turn", "()V"⟩, 15), (⟨"SureFunctions$Machine", "build", "(II)V"⟩, 15), (⟨"SureFunctions$Machine", "writeAnswer", "(I)V"⟩, 15), (⟨"SureFunctionsModel", "build", "(IIIII)I"⟩, 45)]
theorem lw_r2 : ∀ q ∈ lw_privs_2, lw_okq q := List.forall_mem_cons.mpr ⟨lw_p16, List.forall_mem_cons.mpr ⟨lw_p17, List.forall_mem_cons.mpr ⟨lw_p18, List.forall_mem_cons.mpr ⟨lw_p19, List.forall_mem_cons.mpr ⟨lw_p20, List.forall_mem_cons.mpr ⟨lw_p21, List.forall_mem_cons.mpr ⟨lw_p22, List.forall_mem_cons.mpr ⟨lw_p23, List.forall_mem_cons.mpr ⟨lw_p24, List.forall_mem_cons.mpr ⟨lw_p25, List.forall_mem_cons.mpr ⟨lw_p26, List.forall_mem_cons.mpr ⟨lw_p27, List.forall_mem_cons.mpr ⟨lw_p28, List.forall_mem_cons.mpr ⟨lw_p29, List.forall_mem_cons.mpr ⟨lw_p30, List.forall_mem_cons.mpr ⟨lw_p31, fun _ h => absurd h List.not_mem_nil⟩⟩⟩⟩⟩⟩⟩⟩⟩⟩⟩⟩⟩⟩⟩⟩
theorem lw_p32 : lw_okq (⟨"SureFunctionsModel", "isTerm", "(I)Z"⟩, 45) := ⟨⟨by decide +kernel, by decide +kernel⟩, List.mem_of_getElem? (i := 932) (by decide +kernel), List.mem_of_getElem? (i := 1107) (by decide +kernel), List.mem_of_getElem? (i := 1108) (by decide +kernel)⟩
theorem lw_p33 : lw_okq (⟨"SureFunctionsModel", "isClause", "(IIIII)Z"⟩, 45) := ⟨⟨by decide +kernel, by decide +kernel⟩, List.mem_of_getElem? (i := 932) (by decide +kernel), List.mem_of_getElem? (i := 1119) (by decide +kernel), List.mem_of_getElem? (i := 1120) (by decide +kernel)⟩
theorem lw_p34 : lw_okq (⟨"SureFunctionsModel", "isPattern", "(I)Z"⟩, 45) := ⟨⟨by decide +kernel, by decide +kernel⟩, List.mem_of_getElem? (i := 932) (by decide +kernel), List.mem_of_getElem? (i := 1123) (by decide +kernel), List.mem_of_getElem? (i := 1124) (by decide +kernel)⟩
theorem lw_p35 : lw_okq (⟨"SureFunctionsModel", "push", "(II)V"⟩, 45) := ⟨⟨by decide +kernel, by decide +kernel⟩, List.mem_of_getElem? (i := 932) (by decide +kernel), List.mem_of_getElem? (i := 1127) (by decide +kernel), List.mem_of_getElem? (i := 1128) (by decide +kernel)⟩
theorem lw_p36 : lw_okq (⟨"SureFunctionsModel", "pushBelow", "(I)V"⟩, 45) := ⟨⟨by decide +kernel, by decide +kernel⟩, List.mem_of_getElem? (i := 932) (by decide +kernel), List.mem_of_getElem? (i := 1131) (by decide +kernel), List.mem_of_getElem? (i := 1132) (by decide +kernel)⟩
theorem lw_p37 : lw_okq (⟨"SureFunctionsModel", "places", "(I)I"⟩, 45) := ⟨⟨by decide +kernel, by decide +kernel⟩, List.mem_of_getElem? (i := 932) (by decide +kernel), List.mem_of_getElem? (i := 1135) (by decide +kernel), List.mem_of_getElem? (i := 1136) (by decide +kernel)⟩
theorem lw_p38 : lw_okq (⟨"SureFunctionsModel", "isBody", "(I)Z"⟩, 45) := ⟨⟨by decide +kernel, by decide +kernel⟩, List.mem_of_getElem? (i := 932) (by decide +kernel), List.mem_of_getElem? (i := 1139) (by decide +kernel), List.mem_of_getElem? (i := 1140) (by decide +kernel)⟩
theorem lw_p39 : lw_okq (⟨"SureFunctionsModel", "allInhabited", "()Z"⟩, 45) := ⟨⟨by decide +kernel, by decide +kernel⟩, List.mem_of_getElem? (i := 932) (by decide +kernel), List.mem_of_getElem? (i := 1147) (by decide +kernel), List.mem_of_getElem? (i := 1148) (by decide +kernel)⟩
theorem lw_p40 : lw_okq (⟨"SureFunctionsModel", "allTyped", "()Z"⟩, 45) := ⟨⟨by decide +kernel, by decide +kernel⟩, List.mem_of_getElem? (i := 932) (by decide +kernel), List.mem_of_getElem? (i := 1151) (by decide +kernel), List.mem_of_getElem? (i := 1152) (by decide +kernel)⟩
theorem lw_p41 : lw_okq (⟨"SureFunctionsModel", "isTyped", "(IIZ)Z"⟩, 45) := ⟨⟨by decide +kernel, by decide +kernel⟩, List.mem_of_getElem? (i := 932) (by decide +kernel), List.mem_of_getElem? (i := 1155) (by decide +kernel), List.mem_of_getElem? (i := 1156) (by decide +kernel)⟩
theorem lw_p42 : lw_okq (⟨"SureFunctionsModel", "isCovered", "(I)Z"⟩, 45) := ⟨⟨by decide +kernel, by decide +kernel⟩, List.mem_of_getElem? (i := 932) (by decide +kernel), List.mem_of_getElem? (i := 1159) (by decide +kernel), List.mem_of_getElem? (i := 1160) (by decide +kernel)⟩
theorem lw_p43 : lw_okq (⟨"SureFunctionsModel", "stands", "(II)I"⟩, 45) := ⟨⟨by decide +kernel, by decide +kernel⟩, List.mem_of_getElem? (i := 932) (by decide +kernel), List.mem_of_getElem? (i := 1163) (by decide +kernel), List.mem_of_getElem? (i := 1164) (by decide +kernel)⟩
theorem lw_p44 : lw_okq (⟨"SureFunctionsModel", "wants", "(II)I"⟩, 45) := ⟨⟨by decide +kernel, by decide +kernel⟩, List.mem_of_getElem? (i := 932) (by decide +kernel), List.mem_of_getElem? (i := 1167) (by decide +kernel), List.mem_of_getElem? (i := 1168) (by decide +kernel)⟩
theorem lw_p45 : lw_okq (⟨"SureFunctionsModel", "splitAt", "(III)I"⟩, 45) := ⟨⟨by decide +kernel, by decide +kernel⟩, List.mem_of_getElem? (i := 932) (by decide +kernel), List.mem_of_getElem? (i := 1171) (by decide +kernel), List.mem_of_getElem? (i := 1172) (by decide +kernel)⟩
theorem lw_p46 : lw_okq (⟨"SureFunctionsModel", "typeAt", "(III)I"⟩, 45) := ⟨⟨by decide +kernel, by decide +kernel⟩, List.mem_of_getElem? (i := 932) (by decide +kernel), List.mem_of_getElem? (i := 1175) (by decide +kernel), List.mem_of_getElem? (i := 1176) (by decide +kernel)⟩
theorem lw_p47 : lw_okq (⟨"SureFunctionsModel", "isEnding", "()Z"⟩, 45) := ⟨⟨by decide +kernel, by decide +kernel⟩, List.mem_of_getElem? (i := 932) (by decide +kernel), List.mem_of_getElem? (i := 1179) (by decide +kernel), List.mem_of_getElem? (i := 1180) (by decide +kernel)⟩
def lw_privs_3 : List (MethodName × Nat) := [(⟨"SureFunctionsModel", "isTerm", "(I)Z"⟩, 45), (⟨"SureFunctionsModel", "isClause", "(IIIII)Z"⟩, 45), (⟨"SureFunctionsModel", "isPattern", "(I)Z"⟩, 45), (⟨"SureFunctionsModel", "push", "(II)V"⟩, 45), (⟨"SureFunctionsModel", "pushBelow", "(I)V"⟩, 45), (⟨"SureFunctionsModel", "places", "(I)I"⟩, 45), (⟨"SureFunctionsModel", "isBody", "(I)Z"⟩, 45), (⟨"SureFunctionsModel", "allInhabited", "()Z"⟩, 45), (⟨"SureFunctionsModel", "allTyped", "()Z"⟩, 45), (⟨"SureFunctionsModel", "isTyped", "(IIZ)Z"⟩, 45), (⟨"SureFunctionsModel", "isCovered", "(I)Z"⟩, 45), (⟨"SureFunctionsModel", "stands", "(II)I"⟩, 45), (⟨"SureFunctionsModel", "wants", "(II)I"⟩, 45), (⟨"SureFunctionsModel", "splitAt", "(III)I"⟩, 45), (⟨"SureFunctionsModel", "typeAt", "(III)I"⟩, 45), (⟨"SureFunctionsModel", "isEnding", "()Z"⟩, 45)]
theorem lw_r3 : ∀ q ∈ lw_privs_3, lw_okq q := List.forall_mem_cons.mpr ⟨lw_p32, List.forall_mem_cons.mpr ⟨lw_p33, List.forall_mem_cons.mpr ⟨lw_p34, List.forall_mem_cons.mpr ⟨lw_p35, List.forall_mem_cons.mpr ⟨lw_p36, List.forall_mem_cons.mpr ⟨lw_p37, List.forall_mem_cons.mpr ⟨lw_p38, List.forall_mem_cons.mpr ⟨lw_p39, List.forall_mem_cons.mpr ⟨lw_p40, List.forall_mem_cons.mpr ⟨lw_p41, List.forall_mem_cons.mpr ⟨lw_p42, List.forall_mem_cons.mpr ⟨lw_p43, List.forall_mem_cons.mpr ⟨lw_p44, List.forall_mem_cons.mpr ⟨lw_p45, List.forall_mem_cons.mpr ⟨lw_p46, List.forall_mem_cons.mpr ⟨lw_p47, fun _ h => absurd h List.not_mem_nil⟩⟩⟩⟩⟩⟩⟩⟩⟩⟩⟩⟩⟩⟩⟩⟩
theorem lw_p48 : lw_okq (⟨"SureFunctionsModel", "callGraphs", "()V"⟩, 45) := ⟨⟨by decide +kernel, by decide +kernel⟩, List.mem_of_getElem? (i := 932) (by decide +kernel), List.mem_of_getElem? (i := 1183) (by decide +kernel), List.mem_of_getElem? (i := 1184) (by decide +kernel)⟩
theorem lw_p49 : lw_okq (⟨"SureFunctionsModel", "callOf", "(II)I"⟩, 45) := ⟨⟨by decide +kernel, by decide +kernel⟩, List.mem_of_getElem? (i := 932) (by decide +kernel), List.mem_of_getElem? (i := 1187) (by decide +kernel), List.mem_of_getElem? (i := 1188) (by decide +kernel)⟩
theorem lw_p50 : lw_okq (⟨"SureFunctionsModel", "arcOf", "(IIII)I"⟩, 45) := ⟨⟨by decide +kernel, by decide +kernel⟩, List.mem_of_getElem? (i := 932) (by decide +kernel), List.mem_of_getElem? (i := 1191) (by decide +kernel), List.mem_of_getElem? (i := 1192) (by decide +kernel)⟩
theorem lw_p51 : lw_okq (⟨"SureFunctionsModel", "inside", "(II)I"⟩, 45) := ⟨⟨by decide +kernel, by decide +kernel⟩, List.mem_of_getElem? (i := 932) (by decide +kernel), List.mem_of_getElem? (i := 1195) (by decide +kernel), List.mem_of_getElem? (i := 1196) (by decide +kernel)⟩
theorem lw_p52 : lw_okq (⟨"SureFunctionsModel", "alike", "(II)Z"⟩, 45) := ⟨⟨by decide +kernel, by decide +kernel⟩, List.mem_of_getElem? (i := 932) (by decide +kernel), List.mem_of_getElem? (i := 1199) (by decide +kernel), List.mem_of_getElem? (i := 1200) (by decide +kernel)⟩
theorem lw_p53 : lw_okq (⟨"SureFunctionsModel", "addGraph", "(III)V"⟩, 45) := ⟨⟨by decide +kernel, by decide +kernel⟩, List.mem_of_getElem? (i := 932) (by decide +kernel), List.mem_of_getElem? (i := 1203) (by decide +kernel), List.mem_of_getElem? (i := 1204) (by decide +kernel)⟩
theorem lw_p54 : lw_okq (⟨"SureFunctionsModel", "isClosed", "(I)Z"⟩, 45) := ⟨⟨by decide +kernel, by decide +kernel⟩, List.mem_of_getElem? (i := 932) (by decide +kernel), List.mem_of_getElem? (i := 1225) (by decide +kernel), List.mem_of_getElem? (i := 1226) (by decide +kernel)⟩
theorem lw_p55 : lw_okq (⟨"SureFunctionsModel", "give", "(I)V"⟩, 45) := ⟨⟨by decide +kernel, by decide +kernel⟩, List.mem_of_getElem? (i := 932) (by decide +kernel), List.mem_of_getElem? (i := 1234) (by decide +kernel), List.mem_of_getElem? (i := 1235) (by decide +kernel)⟩
theorem lw_p56 : lw_okq (⟨"SureFunctionsModel", "doLater", "(II)V"⟩, 45) := ⟨⟨by decide +kernel, by decide +kernel⟩, List.mem_of_getElem? (i := 932) (by decide +kernel), List.mem_of_getElem? (i := 1238) (by decide +kernel), List.mem_of_getElem? (i := 1239) (by decide +kernel)⟩
theorem lw_p57 : lw_okq (⟨"SureFunctionsModel", "evaluate", "(II)V"⟩, 45) := ⟨⟨by decide +kernel, by decide +kernel⟩, List.mem_of_getElem? (i := 932) (by decide +kernel), List.mem_of_getElem? (i := 1242) (by decide +kernel), List.mem_of_getElem? (i := 1243) (by decide +kernel)⟩
theorem lw_p58 : lw_okq (⟨"SureFunctionsModel", "hold", "(I)V"⟩, 45) := ⟨⟨by decide +kernel, by decide +kernel⟩, List.mem_of_getElem? (i := 932) (by decide +kernel), List.mem_of_getElem? (i := 1246) (by decide +kernel), List.mem_of_getElem? (i := 1247) (by decide +kernel)⟩
theorem lw_p59 : lw_okq (⟨"SureFunctionsModel", "finished", "()Z"⟩, 45) := ⟨⟨by decide +kernel, by decide +kernel⟩, List.mem_of_getElem? (i := 932) (by decide +kernel), List.mem_of_getElem? (i := 1250) (by decide +kernel), List.mem_of_getElem? (i := 1251) (by decide +kernel)⟩
theorem lw_p60 : lw_okq (⟨"SureFunctionsModel", "enter", "(I)Z"⟩, 45) := ⟨⟨by decide +kernel, by decide +kernel⟩, List.mem_of_getElem? (i := 932) (by decide +kernel), List.mem_of_getElem? (i := 1254) (by decide +kernel), List.mem_of_getElem? (i := 1255) (by decide +kernel)⟩
theorem lw_p61 : lw_okq (⟨"SureFunctionsModel", "matches", "(III)Z"⟩, 45) := ⟨⟨by decide +kernel, by decide +kernel⟩, List.mem_of_getElem? (i := 932) (by decide +kernel), List.mem_of_getElem? (i := 1258) (by decide +kernel), List.mem_of_getElem? (i := 1259) (by decide +kernel)⟩
theorem lw_p62 : lw_okq (⟨"SureFunctionsModel", "write", "(I)V"⟩, 45) := ⟨⟨by decide +kernel, by decide +kernel⟩, List.mem_of_getElem? (i := 932) (by decide +kernel), List.mem_of_getElem? (i := 1262) (by decide +kernel), List.mem_of_getElem? (i := 1263) (by decide +kernel)⟩
def lw_privs_4 : List (MethodName × Nat) := [(⟨"SureFunctionsModel", "callGraphs", "()V"⟩, 45), (⟨"SureFunctionsModel", "callOf", "(II)I"⟩, 45), (⟨"SureFunctionsModel", "arcOf", "(IIII)I"⟩, 45), (⟨"SureFunctionsModel", "inside", "(II)I"⟩, 45), (⟨"SureFunctionsModel", "alike", "(II)Z"⟩, 45), (⟨"SureFunctionsModel", "addGraph", "(III)V"⟩, 45), (⟨"SureFunctionsModel", "isClosed", "(I)Z"⟩, 45), (⟨"SureFunctionsModel", "give", "(I)V"⟩, 45), (⟨"SureFunctionsModel", "doLater", "(II)V"⟩, 45), (⟨"SureFunctionsModel", "evaluate", "(II)V"⟩, 45), (⟨"SureFunctionsModel", "hold", "(I)V"⟩, 45), (⟨"SureFunctionsModel", "finished", "()Z"⟩, 45), (⟨"SureFunctionsModel", "enter", "(I)Z"⟩, 45), (⟨"SureFunctionsModel", "matches", "(III)Z"⟩, 45), (⟨"SureFunctionsModel", "write", "(I)V"⟩, 45)]
theorem lw_r4 : ∀ q ∈ lw_privs_4, lw_okq q := List.forall_mem_cons.mpr ⟨lw_p48, List.forall_mem_cons.mpr ⟨lw_p49, List.forall_mem_cons.mpr ⟨lw_p50, List.forall_mem_cons.mpr ⟨lw_p51, List.forall_mem_cons.mpr ⟨lw_p52, List.forall_mem_cons.mpr ⟨lw_p53, List.forall_mem_cons.mpr ⟨lw_p54, List.forall_mem_cons.mpr ⟨lw_p55, List.forall_mem_cons.mpr ⟨lw_p56, List.forall_mem_cons.mpr ⟨lw_p57, List.forall_mem_cons.mpr ⟨lw_p58, List.forall_mem_cons.mpr ⟨lw_p59, List.forall_mem_cons.mpr ⟨lw_p60, List.forall_mem_cons.mpr ⟨lw_p61, List.forall_mem_cons.mpr ⟨lw_p62, fun _ h => absurd h List.not_mem_nil⟩⟩⟩⟩⟩⟩⟩⟩⟩⟩⟩⟩⟩⟩⟩
def lw_privs : List (MethodName × Nat) := lw_privs_1 ++ (lw_privs_2 ++ (lw_privs_3 ++ (lw_privs_4)))
def lw_tbl : List Cond := k2_sels lw_privs ++ tables_1
theorem lw_privs_ok : ∀ q ∈ lw_privs, lw_okq q := by
  show ∀ q ∈ lw_privs_1 ++ (lw_privs_2 ++ (lw_privs_3 ++ (lw_privs_4))), lw_okq q
  exact List.forall_mem_append.mpr ⟨lw_r1, List.forall_mem_append.mpr ⟨lw_r2, List.forall_mem_append.mpr ⟨lw_r3, lw_r4⟩⟩⟩
end
section
/-! names: classes, fields, methods, words (written by a program out of the claim's tables) -/
/-- the words that keep over calls -/
def gw : List Cond := lw_tbl.filter goodWord
theorem gw_of {w : Cond} (h : w ∈ tables_1) (hg : goodWord w = true) : w ∈ gw := List.mem_filter.mpr ⟨List.mem_append_right _ h, hg⟩
theorem gw_sel {q : MethodName × Nat} (h : q ∈ lw_privs) (hg : goodWord (Cond.selects q.1.cls q.1 q.1) = true) : Cond.selects q.1.cls q.1 q.1 ∈ gw := List.mem_filter.mpr ⟨List.mem_append_left _ (List.mem_map.mpr ⟨q, h, rfl⟩), hg⟩
def R_Fu : String := "SureFunctions"
def R_Sg : String := "SureFunctions$Signatures"
def R_Te : String := "SureFunctions$Terms"
def R_Cl : String := "SureFunctions$Clauses"
def R_Ty : String := "SureFunctions$Typing"
def R_Co : String := "SureFunctions$Coverage"
def R_En : String := "SureFunctions$Ending"
def R_Va : String := "SureFunctions$Values"
def R_Ma : String := "SureFunctions$Machine"
def R_Mo : String := "SureFunctionsModel"
def R_La : String := "SureFunctionsLaw"
def R_Jm : String := "java/lang/Math"
def T_Fu : u_T := fun k => match k with
  | 0 => ("SureFunctions", "constructors", "LSureFunctions$Signatures;", true)
  | 1 => ("SureFunctions", "functions", "LSureFunctions$Signatures;", true)
  | 2 => ("SureFunctions", "terms", "LSureFunctions$Terms;", true)
  | 3 => ("SureFunctions", "clauses", "LSureFunctions$Clauses;", true)
  | 4 => ("SureFunctions", "typing", "LSureFunctions$Typing;", true)
  | 5 => ("SureFunctions", "coverage", "LSureFunctions$Coverage;", true)
  | 6 => ("SureFunctions", "ending", "LSureFunctions$Ending;", true)
  | 7 => ("SureFunctions", "machine", "LSureFunctions$Machine;", true)
  | 8 => ("SureFunctions", "verdict", "I", false)
  | _ => ("SureFunctions", "graphsOfLatestCheck", "I", false)
def t_Fu : Nat → FieldType := fun k => match k with
  | 0 => .object "SureFunctions$Signatures"
  | 1 => .object "SureFunctions$Signatures"
  | 2 => .object "SureFunctions$Terms"
  | 3 => .object "SureFunctions$Clauses"
  | 4 => .object "SureFunctions$Typing"
  | 5 => .object "SureFunctions$Coverage"
  | 6 => .object "SureFunctions$Ending"
  | 7 => .object "SureFunctions$Machine"
  | 8 => .int
  | _ => .int
theorem n_Fu : ∀ a, a < 10 → ∀ b, b < 10 → a ≠ b → (T_Fu a).2.1 ≠ (T_Fu b).2.1 := by decide +kernel
theorem t_Fu_ok : ∀ k, k < 10 → parseFieldDescriptor (T_Fu k).2.2.1 = some (t_Fu k) := by decide +kernel
def T_Sg : u_T := fun k => match k with
  | 0 => ("SureFunctions$Signatures", "most", "I", true)
  | 1 => ("SureFunctions$Signatures", "type", "[I", true)
  | 2 => ("SureFunctions$Signatures", "width", "[I", true)
  | 3 => ("SureFunctions$Signatures", "placeType", "[I", true)
  | _ => ("SureFunctions$Signatures", "many", "I", false)
def t_Sg : Nat → FieldType := fun k => match k with
  | 0 => .int
  | 1 => .array .int
  | 2 => .array .int
  | 3 => .array .int
  | _ => .int
theorem n_Sg : ∀ a, a < 5 → ∀ b, b < 5 → a ≠ b → (T_Sg a).2.1 ≠ (T_Sg b).2.1 := by decide +kernel
theorem t_Sg_ok : ∀ k, k < 5 → parseFieldDescriptor (T_Sg k).2.2.1 = some (t_Sg k) := by decide +kernel
def T_Te : u_T := fun k => match k with
  | 0 => ("SureFunctions$Terms", "kind", "[I", true)
  | 1 => ("SureFunctions$Terms", "head", "[I", true)
  | 2 => ("SureFunctions$Terms", "width", "[I", true)
  | 3 => ("SureFunctions$Terms", "part", "[I", true)
  | 4 => ("SureFunctions$Terms", "height", "[I", true)
  | 5 => ("SureFunctions$Terms", "size", "[I", true)
  | 6 => ("SureFunctions$Terms", "variables", "[I", true)
  | 7 => ("SureFunctions$Terms", "hasCall", "[Z", true)
  | 8 => ("SureFunctions$Terms", "hasVariableTwice", "[Z", true)
  | _ => ("SureFunctions$Terms", "many", "I", false)
def t_Te : Nat → FieldType := fun k => match k with
  | 0 => .array .int
  | 1 => .array .int
  | 2 => .array .int
  | 3 => .array .int
  | 4 => .array .int
  | 5 => .array .int
  | 6 => .array .int
  | 7 => .array .boolean
  | 8 => .array .boolean
  | _ => .int
theorem n_Te : ∀ a, a < 10 → ∀ b, b < 10 → a ≠ b → (T_Te a).2.1 ≠ (T_Te b).2.1 := by decide +kernel
theorem t_Te_ok : ∀ k, k < 10 → parseFieldDescriptor (T_Te k).2.2.1 = some (t_Te k) := by decide +kernel
def T_Cl : u_T := fun k => match k with
  | 0 => ("SureFunctions$Clauses", "functions", "LSureFunctions$Signatures;", true)
  | 1 => ("SureFunctions$Clauses", "terms", "LSureFunctions$Terms;", true)
  | 2 => ("SureFunctions$Clauses", "owner", "[I", true)
  | 3 => ("SureFunctions$Clauses", "pattern", "[I", true)
  | 4 => ("SureFunctions$Clauses", "body", "[I", true)
  | 5 => ("SureFunctions$Clauses", "ofFunction", "[I", true)
  | 6 => ("SureFunctions$Clauses", "manyOfFunction", "[I", true)
  | _ => ("SureFunctions$Clauses", "many", "I", false)
def t_Cl : Nat → FieldType := fun k => match k with
  | 0 => .object "SureFunctions$Signatures"
  | 1 => .object "SureFunctions$Terms"
  | 2 => .array .int
  | 3 => .array .int
  | 4 => .array .int
  | 5 => .array .int
  | 6 => .array .int
  | _ => .int
theorem n_Cl : ∀ a, a < 8 → ∀ b, b < 8 → a ≠ b → (T_Cl a).2.1 ≠ (T_Cl b).2.1 := by decide +kernel
theorem t_Cl_ok : ∀ k, k < 8 → parseFieldDescriptor (T_Cl k).2.2.1 = some (t_Cl k) := by decide +kernel
def T_Ty : u_T := fun k => match k with
  | 0 => ("SureFunctions$Typing", "constructors", "LSureFunctions$Signatures;", true)
  | 1 => ("SureFunctions$Typing", "functions", "LSureFunctions$Signatures;", true)
  | 2 => ("SureFunctions$Typing", "terms", "LSureFunctions$Terms;", true)
  | 3 => ("SureFunctions$Typing", "clauses", "LSureFunctions$Clauses;", true)
  | _ => ("SureFunctions$Typing", "variableType", "[I", true)
def t_Ty : Nat → FieldType := fun k => match k with
  | 0 => .object "SureFunctions$Signatures"
  | 1 => .object "SureFunctions$Signatures"
  | 2 => .object "SureFunctions$Terms"
  | 3 => .object "SureFunctions$Clauses"
  | _ => .array .int
theorem n_Ty : ∀ a, a < 5 → ∀ b, b < 5 → a ≠ b → (T_Ty a).2.1 ≠ (T_Ty b).2.1 := by decide +kernel
theorem t_Ty_ok : ∀ k, k < 5 → parseFieldDescriptor (T_Ty k).2.2.1 = some (t_Ty k) := by decide +kernel
def T_Co : u_T := fun k => match k with
  | 0 => ("SureFunctions$Coverage", "constructors", "LSureFunctions$Signatures;", true)
  | 1 => ("SureFunctions$Coverage", "functions", "LSureFunctions$Signatures;", true)
  | 2 => ("SureFunctions$Coverage", "terms", "LSureFunctions$Terms;", true)
  | 3 => ("SureFunctions$Coverage", "clauses", "LSureFunctions$Clauses;", true)
  | 4 => ("SureFunctions$Coverage", "wanted", "[I", true)
  | _ => ("SureFunctions$Coverage", "filled", "[I", true)
def t_Co : Nat → FieldType := fun k => match k with
  | 0 => .object "SureFunctions$Signatures"
  | 1 => .object "SureFunctions$Signatures"
  | 2 => .object "SureFunctions$Terms"
  | 3 => .object "SureFunctions$Clauses"
  | 4 => .array .int
  | _ => .array .int
theorem n_Co : ∀ a, a < 6 → ∀ b, b < 6 → a ≠ b → (T_Co a).2.1 ≠ (T_Co b).2.1 := by decide +kernel
theorem t_Co_ok : ∀ k, k < 6 → parseFieldDescriptor (T_Co k).2.2.1 = some (t_Co k) := by decide +kernel
def T_En : u_T := fun k => match k with
  | 0 => ("SureFunctions$Ending", "functions", "LSureFunctions$Signatures;", true)
  | 1 => ("SureFunctions$Ending", "terms", "LSureFunctions$Terms;", true)
  | 2 => ("SureFunctions$Ending", "clauses", "LSureFunctions$Clauses;", true)
  | 3 => ("SureFunctions$Ending", "calls", "[I", true)
  | 4 => ("SureFunctions$Ending", "manyCalls", "I", false)
  | 5 => ("SureFunctions$Ending", "graph", "[I", true)
  | 6 => ("SureFunctions$Ending", "manyGraphs", "I", false)
  | 7 => ("SureFunctions$Ending", "tooMany", "Z", false)
  | _ => ("SureFunctions$Ending", "table", "[I", true)
def t_En : Nat → FieldType := fun k => match k with
  | 0 => .object "SureFunctions$Signatures"
  | 1 => .object "SureFunctions$Terms"
  | 2 => .object "SureFunctions$Clauses"
  | 3 => .array .int
  | 4 => .int
  | 5 => .array .int
  | 6 => .int
  | 7 => .boolean
  | _ => .array .int
theorem n_En : ∀ a, a < 9 → ∀ b, b < 9 → a ≠ b → (T_En a).2.1 ≠ (T_En b).2.1 := by decide +kernel
theorem t_En_ok : ∀ k, k < 9 → parseFieldDescriptor (T_En k).2.2.1 = some (t_En k) := by decide +kernel
def T_Va : u_T := fun k => match k with
  | 0 => ("SureFunctions$Values", "constructors", "LSureFunctions$Signatures;", true)
  | 1 => ("SureFunctions$Values", "terms", "LSureFunctions$Terms;", true)
  | 2 => ("SureFunctions$Values", "maker", "[I", true)
  | 3 => ("SureFunctions$Values", "part", "[I", true)
  | 4 => ("SureFunctions$Values", "size", "[I", true)
  | _ => ("SureFunctions$Values", "many", "I", false)
def t_Va : Nat → FieldType := fun k => match k with
  | 0 => .object "SureFunctions$Signatures"
  | 1 => .object "SureFunctions$Terms"
  | 2 => .array .int
  | 3 => .array .int
  | 4 => .array .int
  | _ => .int
theorem n_Va : ∀ a, a < 6 → ∀ b, b < 6 → a ≠ b → (T_Va a).2.1 ≠ (T_Va b).2.1 := by decide +kernel
theorem t_Va_ok : ∀ k, k < 6 → parseFieldDescriptor (T_Va k).2.2.1 = some (t_Va k) := by decide +kernel
def T_Ma : u_T := fun k => match k with
  | 0 => ("SureFunctions$Machine", "functions", "LSureFunctions$Signatures;", true)
  | 1 => ("SureFunctions$Machine", "terms", "LSureFunctions$Terms;", true)
  | 2 => ("SureFunctions$Machine", "clauses", "LSureFunctions$Clauses;", true)
  | 3 => ("SureFunctions$Machine", "values", "LSureFunctions$Values;", true)
  | 4 => ("SureFunctions$Machine", "frameTerm", "[I", true)
  | 5 => ("SureFunctions$Machine", "frameRoom", "[I", true)
  | 6 => ("SureFunctions$Machine", "frameDone", "[I", true)
  | 7 => ("SureFunctions$Machine", "frames", "I", false)
  | 8 => ("SureFunctions$Machine", "held", "[I", true)
  | 9 => ("SureFunctions$Machine", "manyHeld", "I", false)
  | 10 => ("SureFunctions$Machine", "bound", "[I", true)
  | 11 => ("SureFunctions$Machine", "steps", "I", false)
  | 12 => ("SureFunctions$Machine", "ended", "Z", false)
  | 13 => ("SureFunctions$Machine", "answer", "[I", true)
  | _ => ("SureFunctions$Machine", "answerSize", "I", false)
def t_Ma : Nat → FieldType := fun k => match k with
  | 0 => .object "SureFunctions$Signatures"
  | 1 => .object "SureFunctions$Terms"
  | 2 => .object "SureFunctions$Clauses"
  | 3 => .object "SureFunctions$Values"
  | 4 => .array .int
  | 5 => .array .int
  | 6 => .array .int
  | 7 => .int
  | 8 => .array .int
  | 9 => .int
  | 10 => .array .int
  | 11 => .int
  | 12 => .boolean
  | 13 => .array .int
  | _ => .int
theorem n_Ma : ∀ a, a < 15 → ∀ b, b < 15 → a ≠ b → (T_Ma a).2.1 ≠ (T_Ma b).2.1 := by decide +kernel
theorem t_Ma_ok : ∀ k, k < 15 → parseFieldDescriptor (T_Ma k).2.2.1 = some (t_Ma k) := by decide +kernel
def T_Mo : u_T := fun k => match k with
  | 0 => ("SureFunctionsModel", "constructors", "I", false)
  | 1 => ("SureFunctionsModel", "makes", "[I", true)
  | 2 => ("SureFunctionsModel", "parts", "[I", true)
  | 3 => ("SureFunctionsModel", "partType", "[I", true)
  | 4 => ("SureFunctionsModel", "functions", "I", false)
  | 5 => ("SureFunctionsModel", "answers", "[I", true)
  | 6 => ("SureFunctionsModel", "arguments", "[I", true)
  | 7 => ("SureFunctionsModel", "argumentType", "[I", true)
  | 8 => ("SureFunctionsModel", "terms", "I", false)
  | 9 => ("SureFunctionsModel", "head", "[I", true)
  | 10 => ("SureFunctionsModel", "below", "[I", true)
  | 11 => ("SureFunctionsModel", "height", "[I", true)
  | 12 => ("SureFunctionsModel", "size", "[I", true)
  | 13 => ("SureFunctionsModel", "clauses", "I", false)
  | 14 => ("SureFunctionsModel", "clauseOf", "[I", true)
  | 15 => ("SureFunctionsModel", "pattern", "[I", true)
  | 16 => ("SureFunctionsModel", "body", "[I", true)
  | 17 => ("SureFunctionsModel", "good", "Z", false)
  | 18 => ("SureFunctionsModel", "graphs", "I", false)
  | 19 => ("SureFunctionsModel", "graphFrom", "[I", true)
  | 20 => ("SureFunctionsModel", "graphTo", "[I", true)
  | 21 => ("SureFunctionsModel", "graphArcs", "[I", true)
  | 22 => ("SureFunctionsModel", "open", "I", false)
  | 23 => ("SureFunctionsModel", "first", "[I", true)
  | 24 => ("SureFunctionsModel", "second", "[I", true)
  | 25 => ("SureFunctionsModel", "seen", "[Z", true)
  | 26 => ("SureFunctionsModel", "typeOf", "[I", true)
  | 27 => ("SureFunctionsModel", "inhabited", "[Z", true)
  | 28 => ("SureFunctionsModel", "row", "[I", true)
  | 29 => ("SureFunctionsModel", "values", "I", false)
  | 30 => ("SureFunctionsModel", "made", "[I", true)
  | 31 => ("SureFunctionsModel", "child", "[I", true)
  | 32 => ("SureFunctionsModel", "weight", "[I", true)
  | 33 => ("SureFunctionsModel", "built", "I", false)
  | 34 => ("SureFunctionsModel", "steps", "I", false)
  | 35 => ("SureFunctionsModel", "todo", "I", false)
  | 36 => ("SureFunctionsModel", "todoTerm", "[I", true)
  | 37 => ("SureFunctionsModel", "todoFrame", "[I", true)
  | 38 => ("SureFunctionsModel", "held", "I", false)
  | 39 => ("SureFunctionsModel", "value", "[I", true)
  | 40 => ("SureFunctionsModel", "binding", "[I", true)
  | 41 => ("SureFunctionsModel", "given", "[I", true)
  | 42 => ("SureFunctionsModel", "answerSize", "I", false)
  | 43 => ("SureFunctionsModel", "answer", "[I", true)
  | _ => ("SureFunctionsModel", "thrown", "I", false)
def t_Mo : Nat → FieldType := fun k => match k with
  | 0 => .int
  | 1 => .array .int
  | 2 => .array .int
  | 3 => .array .int
  | 4 => .int
  | 5 => .array .int
  | 6 => .array .int
  | 7 => .array .int
  | 8 => .int
  | 9 => .array .int
  | 10 => .array .int
  | 11 => .array .int
  | 12 => .array .int
  | 13 => .int
  | 14 => .array .int
  | 15 => .array .int
  | 16 => .array .int
  | 17 => .boolean
  | 18 => .int
  | 19 => .array .int
  | 20 => .array .int
  | 21 => .array .int
  | 22 => .int
  | 23 => .array .int
  | 24 => .array .int
  | 25 => .array .boolean
  | 26 => .array .int
  | 27 => .array .boolean
  | 28 => .array .int
  | 29 => .int
  | 30 => .array .int
  | 31 => .array .int
  | 32 => .array .int
  | 33 => .int
  | 34 => .int
  | 35 => .int
  | 36 => .array .int
  | 37 => .array .int
  | 38 => .int
  | 39 => .array .int
  | 40 => .array .int
  | 41 => .array .int
  | 42 => .int
  | 43 => .array .int
  | _ => .int
theorem n_Mo : ∀ a, a < 45 → ∀ b, b < 45 → a ≠ b → (T_Mo a).2.1 ≠ (T_Mo b).2.1 := by decide +kernel
theorem t_Mo_ok : ∀ k, k < 45 → parseFieldDescriptor (T_Mo k).2.2.1 = some (t_Mo k) := by decide +kernel
abbrev vwCl : List vw_C := [(R_Fu, T_Fu, 10), (R_Sg, T_Sg, 5), (R_Te, T_Te, 10), (R_Cl, T_Cl, 8), (R_Ty, T_Ty, 5), (R_Co, T_Co, 6), (R_En, T_En, 9), (R_Va, T_Va, 6), (R_Ma, T_Ma, 15), (R_Mo, T_Mo, 45)]
abbrev b_Fu_init : ByteArray := prog_1_method_1_code
def y_Fu_init : MethodName := ⟨R_Fu, "<init>", "()V"⟩
abbrev b_Sg_init : ByteArray := prog_6_method_1_code
def y_Sg_init : MethodName := ⟨R_Sg, "<init>", "(I)V"⟩
abbrev b_Te_init : ByteArray := prog_7_method_1_code
def y_Te_init : MethodName := ⟨R_Te, "<init>", "()V"⟩
abbrev b_Cl_init : ByteArray := prog_2_method_1_code
def y_Cl_init : MethodName := ⟨R_Cl, "<init>", "(LSureFunctions$Signatures;LSureFunctions$Terms;)V"⟩
abbrev b_Ty_init : ByteArray := prog_8_method_1_code
def y_Ty_init : MethodName := ⟨R_Ty, "<init>", "(LSureFunctions$Signatures;LSureFunctions$Signatures;LSureFunctions$Terms;LSureFunctions$Clauses;)V"⟩
abbrev b_Co_init : ByteArray := prog_3_method_1_code
def y_Co_init : MethodName := ⟨R_Co, "<init>", "(LSureFunctions$Signatures;LSureFunctions$Signatures;LSureFunctions$Terms;LSureFunctions$Clauses;)V"⟩
abbrev b_En_init : ByteArray := prog_4_method_1_code
def y_En_init : MethodName := ⟨R_En, "<init>", "(LSureFunctions$Signatures;LSureFunctions$Terms;LSureFunctions$Clauses;)V"⟩
abbrev b_Ma_init : ByteArray := prog_5_method_1_code
def y_Ma_init : MethodName := ⟨R_Ma, "<init>", "(LSureFunctions$Signatures;LSureFunctions$Signatures;LSureFunctions$Terms;LSureFunctions$Clauses;)V"⟩
abbrev b_Va_init : ByteArray := prog_9_method_1_code
def y_Va_init : MethodName := ⟨R_Va, "<init>", "(LSureFunctions$Signatures;LSureFunctions$Terms;)V"⟩
abbrev b_Fu_check : ByteArray := prog_1_method_8_code
def y_Fu_check : MethodName := ⟨R_Fu, "check", "()I"⟩
abbrev b_Fu_findWhatIsWrong : ByteArray := prog_1_method_15_code
def y_Fu_findWhatIsWrong : MethodName := ⟨R_Fu, "findWhatIsWrong", "()I"⟩
abbrev b_Ty_allInhabited : ByteArray := prog_8_method_2_code
def y_Ty_allInhabited : MethodName := ⟨R_Ty, "allInhabited", "()Z"⟩
abbrev b_Sg_typesUsed : ByteArray := prog_6_method_9_code
def y_Sg_typesUsed : MethodName := ⟨R_Sg, "typesUsed", "()I"⟩
abbrev b_Sg_typesTaken : ByteArray := prog_6_method_10_code
def y_Sg_typesTaken : MethodName := ⟨R_Sg, "typesTaken", "(I)I"⟩
abbrev b_Ty_typesWithValues : ByteArray := prog_8_method_3_code
def y_Ty_typesWithValues : MethodName := ⟨R_Ty, "typesWithValues", "()I"⟩
abbrev b_Sg_howMany : ByteArray := prog_6_method_2_code
def y_Sg_howMany : MethodName := ⟨R_Sg, "howMany", "()I"⟩
abbrev b_Sg_type : ByteArray := prog_6_method_5_code
def y_Sg_type : MethodName := ⟨R_Sg, "type", "(I)I"⟩
abbrev b_Ty_allTyped : ByteArray := prog_8_method_4_code
def y_Ty_allTyped : MethodName := ⟨R_Ty, "allTyped", "()Z"⟩
abbrev b_Cl_howMany : ByteArray := prog_2_method_2_code
def y_Cl_howMany : MethodName := ⟨R_Cl, "howMany", "()I"⟩
abbrev b_Ty_isTyped : ByteArray := prog_8_method_5_code
def y_Ty_isTyped : MethodName := ⟨R_Ty, "isTyped", "(I)Z"⟩
abbrev b_Cl_owner : ByteArray := prog_2_method_5_code
def y_Cl_owner : MethodName := ⟨R_Cl, "owner", "(I)I"⟩
abbrev b_Sg_width : ByteArray := prog_6_method_6_code
def y_Sg_width : MethodName := ⟨R_Sg, "width", "(I)I"⟩
abbrev b_Cl_pattern : ByteArray := prog_2_method_6_code
def y_Cl_pattern : MethodName := ⟨R_Cl, "pattern", "(II)I"⟩
abbrev b_Sg_placeType : ByteArray := prog_6_method_7_code
def y_Sg_placeType : MethodName := ⟨R_Sg, "placeType", "(II)I"⟩
abbrev b_Ty_isPatternOfType : ByteArray := prog_8_method_6_code
def y_Ty_isPatternOfType : MethodName := ⟨R_Ty, "isPatternOfType", "(II)Z"⟩
abbrev b_Te_isVariable : ByteArray := prog_7_method_5_code
def y_Te_isVariable : MethodName := ⟨R_Te, "isVariable", "(I)Z"⟩
abbrev b_Te_head : ByteArray := prog_7_method_8_code
def y_Te_head : MethodName := ⟨R_Te, "head", "(I)I"⟩
abbrev b_Te_width : ByteArray := prog_7_method_9_code
def y_Te_width : MethodName := ⟨R_Te, "width", "(I)I"⟩
abbrev b_Te_part : ByteArray := prog_7_method_10_code
def y_Te_part : MethodName := ⟨R_Te, "part", "(II)I"⟩
abbrev b_Cl_body : ByteArray := prog_2_method_7_code
def y_Cl_body : MethodName := ⟨R_Cl, "body", "(I)I"⟩
abbrev b_Ty_isOfType : ByteArray := prog_8_method_8_code
def y_Ty_isOfType : MethodName := ⟨R_Ty, "isOfType", "(II)Z"⟩
abbrev b_Te_isMade : ByteArray := prog_7_method_6_code
def y_Te_isMade : MethodName := ⟨R_Te, "isMade", "(I)Z"⟩
abbrev b_Co_allCovered : ByteArray := prog_3_method_2_code
def y_Co_allCovered : MethodName := ⟨R_Co, "allCovered", "()Z"⟩
abbrev b_Co_readPatterns : ByteArray := prog_3_method_3_code
def y_Co_readPatterns : MethodName := ⟨R_Co, "readPatterns", "(I)V"⟩
abbrev b_Cl_howManyOf : ByteArray := prog_2_method_8_code
def y_Cl_howManyOf : MethodName := ⟨R_Cl, "howManyOf", "(I)I"⟩
abbrev b_Cl_ofFunction : ByteArray := prog_2_method_9_code
def y_Cl_ofFunction : MethodName := ⟨R_Cl, "ofFunction", "(II)I"⟩
abbrev b_Co_readPattern : ByteArray := prog_3_method_4_code
def y_Co_readPattern : MethodName := ⟨R_Co, "readPattern", "(II)V"⟩
abbrev b_Co_isCovered : ByteArray := prog_3_method_5_code
def y_Co_isCovered : MethodName := ⟨R_Co, "isCovered", "(II)Z"⟩
abbrev b_Co_compare : ByteArray := prog_3_method_8_code
def y_Co_compare : MethodName := ⟨R_Co, "compare", "(I)I"⟩
abbrev b_Jm_min : ByteArray := prog_16_method_69_code
def y_Jm_min : MethodName := ⟨R_Jm, "min", "(II)I"⟩
abbrev b_Co_isCoveredWhenSplit : ByteArray := prog_3_method_6_code
def y_Co_isCoveredWhenSplit : MethodName := ⟨R_Co, "isCoveredWhenSplit", "(IIII)Z"⟩
abbrev b_Co_slotType : ByteArray := prog_3_method_10_code
def y_Co_slotType : MethodName := ⟨R_Co, "slotType", "(II)I"⟩
abbrev b_Co_constructorThatNoneNames : ByteArray := prog_3_method_7_code
def y_Co_constructorThatNoneNames : MethodName := ⟨R_Co, "constructorThatNoneNames", "(III)I"⟩
abbrev b_Co_isNamed : ByteArray := prog_3_method_9_code
def y_Co_isNamed : MethodName := ⟨R_Co, "isNamed", "(III)Z"⟩
abbrev b_En_makeGraphs : ByteArray := prog_4_method_8_code
def y_En_makeGraphs : MethodName := ⟨R_En, "makeGraphs", "()I"⟩
abbrev b_En_collectCalls : ByteArray := prog_4_method_3_code
def y_En_collectCalls : MethodName := ⟨R_En, "collectCalls", "(I)V"⟩
abbrev b_En_collectCallsIn : ByteArray := prog_4_method_4_code
def y_En_collectCallsIn : MethodName := ⟨R_En, "collectCallsIn", "(I)V"⟩
abbrev b_Te_isCalled : ByteArray := prog_7_method_7_code
def y_Te_isCalled : MethodName := ⟨R_Te, "isCalled", "(I)Z"⟩
abbrev b_En_graphOf : ByteArray := prog_4_method_10_code
def y_En_graphOf : MethodName := ⟨R_En, "graphOf", "(II)I"⟩
abbrev b_En_arcBetween : ByteArray := prog_4_method_5_code
def y_En_arcBetween : MethodName := ⟨R_En, "arcBetween", "(II)I"⟩
abbrev b_En_isSame : ByteArray := prog_4_method_6_code
def y_En_isSame : MethodName := ⟨R_En, "isSame", "(II)Z"⟩
abbrev b_En_isInside : ByteArray := prog_4_method_7_code
def y_En_isInside : MethodName := ⟨R_En, "isInside", "(II)Z"⟩
abbrev b_En_code : ByteArray := prog_4_method_14_code
def y_En_code : MethodName := ⟨R_En, "code", "(IIII)I"⟩
abbrev b_En_addGraph : ByteArray := prog_4_method_11_code
def y_En_addGraph : MethodName := ⟨R_En, "addGraph", "(I)V"⟩
abbrev b_En_addCompositions : ByteArray := prog_4_method_9_code
def y_En_addCompositions : MethodName := ⟨R_En, "addCompositions", "(I)V"⟩
abbrev b_En_to : ByteArray := prog_4_method_17_code
def y_En_to : MethodName := ⟨R_En, "to", "(I)I"⟩
abbrev b_En_from : ByteArray := prog_4_method_18_code
def y_En_from : MethodName := ⟨R_En, "from", "(I)I"⟩
abbrev b_En_compose : ByteArray := prog_4_method_12_code
def y_En_compose : MethodName := ⟨R_En, "compose", "(II)I"⟩
abbrev b_En_arcs : ByteArray := prog_4_method_15_code
def y_En_arcs : MethodName := ⟨R_En, "arcs", "(I)I"⟩
abbrev b_En_strict : ByteArray := prog_4_method_16_code
def y_En_strict : MethodName := ⟨R_En, "strict", "(I)I"⟩
abbrev b_En_allEnd : ByteArray := prog_4_method_13_code
def y_En_allEnd : MethodName := ⟨R_En, "allEnd", "()Z"⟩
abbrev b_Fu_graphs : ByteArray := prog_1_method_9_code
def y_Fu_graphs : MethodName := ⟨R_Fu, "graphs", "()I"⟩
abbrev b_Fu_isValue : ByteArray := prog_1_method_11_code
def y_Fu_isValue : MethodName := ⟨R_Fu, "isValue", "(II)Z"⟩
abbrev b_Fu_isType : ByteArray := prog_1_method_17_code
def y_Fu_isType : MethodName := ⟨R_Fu, "isType", "(I)Z"⟩
abbrev b_Te_has : ByteArray := prog_7_method_4_code
def y_Te_has : MethodName := ⟨R_Te, "has", "(I)Z"⟩
abbrev b_Ty_isClosedOfType : ByteArray := prog_8_method_7_code
def y_Ty_isClosedOfType : MethodName := ⟨R_Ty, "isClosedOfType", "(II)Z"⟩
abbrev b_Te_isClosed : ByteArray := prog_7_method_14_code
def y_Te_isClosed : MethodName := ⟨R_Te, "isClosed", "(I)Z"⟩
abbrev b_Fu_count : ByteArray := prog_1_method_14_code
def y_Fu_count : MethodName := ⟨R_Fu, "count", "(I)I"⟩
abbrev b_Ma_steps : ByteArray := prog_5_method_2_code
def y_Ma_steps : MethodName := ⟨R_Ma, "steps", "()I"⟩
abbrev b_Te_howMany : ByteArray := prog_7_method_2_code
def y_Te_howMany : MethodName := ⟨R_Te, "howMany", "()I"⟩
abbrev b_La_constructor : ByteArray := method_3_code
def y_La_constructor : MethodName := ⟨R_La, "constructor", "(LSureFunctions;IIII[J)I"⟩
abbrev b_Fu_constructor : ByteArray := prog_1_method_2_code
def y_Fu_constructor : MethodName := ⟨R_Fu, "constructor", "(IIII)I"⟩
abbrev b_Fu_areTypes : ByteArray := prog_1_method_18_code
def y_Fu_areTypes : MethodName := ⟨R_Fu, "areTypes", "(IIII)Z"⟩
abbrev b_Fu_leadingPlaces : ByteArray := prog_1_method_19_code
def y_Fu_leadingPlaces : MethodName := ⟨R_Fu, "leadingPlaces", "(III)I"⟩
abbrev b_Fu_pick : ByteArray := prog_1_method_20_code
def y_Fu_pick : MethodName := ⟨R_Fu, "pick", "(IIII)I"⟩
abbrev b_Sg_isFull : ByteArray := prog_6_method_3_code
def y_Sg_isFull : MethodName := ⟨R_Sg, "isFull", "()Z"⟩
abbrev b_Sg_declare : ByteArray := prog_6_method_8_code
def y_Sg_declare : MethodName := ⟨R_Sg, "declare", "(IIII)I"⟩
abbrev b_La_function : ByteArray := method_4_code
def y_La_function : MethodName := ⟨R_La, "function", "(LSureFunctions;IIII[J)I"⟩
abbrev b_Fu_function : ByteArray := prog_1_method_3_code
def y_Fu_function : MethodName := ⟨R_Fu, "function", "(IIII)I"⟩
abbrev b_La_variable : ByteArray := method_5_code
def y_La_variable : MethodName := ⟨R_La, "variable", "(LSureFunctions;I[J)I"⟩
abbrev b_Fu_variable : ByteArray := prog_1_method_4_code
def y_Fu_variable : MethodName := ⟨R_Fu, "variable", "(I)I"⟩
abbrev b_Te_isFull : ByteArray := prog_7_method_3_code
def y_Te_isFull : MethodName := ⟨R_Te, "isFull", "()Z"⟩
abbrev b_Te_addVariable : ByteArray := prog_7_method_16_code
def y_Te_addVariable : MethodName := ⟨R_Te, "addVariable", "(I)I"⟩
abbrev b_La_make : ByteArray := method_6_code
def y_La_make : MethodName := ⟨R_La, "make", "(LSureFunctions;IIII[J)I"⟩
abbrev b_Fu_make : ByteArray := prog_1_method_5_code
def y_Fu_make : MethodName := ⟨R_Fu, "make", "(IIII)I"⟩
abbrev b_Sg_has : ByteArray := prog_6_method_4_code
def y_Sg_has : MethodName := ⟨R_Sg, "has", "(I)Z"⟩
abbrev b_Te_canJoin : ByteArray := prog_7_method_15_code
def y_Te_canJoin : MethodName := ⟨R_Te, "canJoin", "(IIII)Z"⟩
abbrev b_Jm_max : ByteArray := prog_16_method_65_code
def y_Jm_max : MethodName := ⟨R_Jm, "max", "(II)I"⟩
abbrev b_Te_addMade : ByteArray := prog_7_method_17_code
def y_Te_addMade : MethodName := ⟨R_Te, "addMade", "(IIIII)I"⟩
abbrev b_Te_join : ByteArray := prog_7_method_19_code
def y_Te_join : MethodName := ⟨R_Te, "join", "(IIII)I"⟩
abbrev b_La_call : ByteArray := method_7_code
def y_La_call : MethodName := ⟨R_La, "call", "(LSureFunctions;IIII[J)I"⟩
abbrev b_Fu_call : ByteArray := prog_1_method_6_code
def y_Fu_call : MethodName := ⟨R_Fu, "call", "(IIII)I"⟩
abbrev b_Te_addCalled : ByteArray := prog_7_method_18_code
def y_Te_addCalled : MethodName := ⟨R_Te, "addCalled", "(IIIII)I"⟩
abbrev b_La_clause : ByteArray := method_8_code
def y_La_clause : MethodName := ⟨R_La, "clause", "(LSureFunctions;IIIII[J)I"⟩
abbrev b_Fu_clause : ByteArray := prog_1_method_7_code
def y_Fu_clause : MethodName := ⟨R_Fu, "clause", "(IIIII)I"⟩
abbrev b_Cl_isWellFormed : ByteArray := prog_2_method_10_code
def y_Cl_isWellFormed : MethodName := ⟨R_Cl, "isWellFormed", "(IIIII)Z"⟩
abbrev b_Te_isPattern : ByteArray := prog_7_method_13_code
def y_Te_isPattern : MethodName := ⟨R_Te, "isPattern", "(I)Z"⟩
abbrev b_Te_variables : ByteArray := prog_7_method_12_code
def y_Te_variables : MethodName := ⟨R_Te, "variables", "(I)I"⟩
abbrev b_Cl_isFull : ByteArray := prog_2_method_3_code
def y_Cl_isFull : MethodName := ⟨R_Cl, "isFull", "(I)Z"⟩
abbrev b_Cl_add : ByteArray := prog_2_method_11_code
def y_Cl_add : MethodName := ⟨R_Cl, "add", "(IIIII)I"⟩
abbrev b_La_arc : ByteArray := method_9_code
def y_La_arc : MethodName := ⟨R_La, "arc", "(LSureFunctions;IIII[J)I"⟩
abbrev b_Fu_arc : ByteArray := prog_1_method_10_code
def y_Fu_arc : MethodName := ⟨R_Fu, "arc", "(IIII)I"⟩
abbrev b_Cl_has : ByteArray := prog_2_method_4_code
def y_Cl_has : MethodName := ⟨R_Cl, "has", "(I)Z"⟩
abbrev b_En_callInBody : ByteArray := prog_4_method_2_code
def y_En_callInBody : MethodName := ⟨R_En, "callInBody", "(II)I"⟩
abbrev b_La_run : ByteArray := method_10_code
def y_La_run : MethodName := ⟨R_La, "run", "(LSureFunctions;IIII[J)I"⟩
abbrev b_Fu_run : ByteArray := prog_1_method_12_code
def y_Fu_run : MethodName := ⟨R_Fu, "run", "(IIII)I"⟩
abbrev b_Fu_areArguments : ByteArray := prog_1_method_16_code
def y_Fu_areArguments : MethodName := ⟨R_Fu, "areArguments", "(IIII)Z"⟩
abbrev b_Ma_perform : ByteArray := prog_5_method_5_code
def y_Ma_perform : MethodName := ⟨R_Ma, "perform", "(IIII)I"⟩
abbrev b_Va_forgetMade : ByteArray := prog_9_method_2_code
def y_Va_forgetMade : MethodName := ⟨R_Va, "forgetMade", "()V"⟩
abbrev b_Ma_hold : ByteArray := prog_5_method_8_code
def y_Ma_hold : MethodName := ⟨R_Ma, "hold", "(I)V"⟩
abbrev b_Ma_step : ByteArray := prog_5_method_10_code
def y_Ma_step : MethodName := ⟨R_Ma, "step", "(I)V"⟩
abbrev b_Ma_matchesAll : ByteArray := prog_5_method_11_code
def y_Ma_matchesAll : MethodName := ⟨R_Ma, "matchesAll", "(III)Z"⟩
abbrev b_Ma_matches : ByteArray := prog_5_method_12_code
def y_Ma_matches : MethodName := ⟨R_Ma, "matches", "(III)Z"⟩
abbrev b_Va_maker : ByteArray := prog_9_method_4_code
def y_Va_maker : MethodName := ⟨R_Va, "maker", "(I)I"⟩
abbrev b_Va_part : ByteArray := prog_9_method_6_code
def y_Va_part : MethodName := ⟨R_Va, "part", "(II)I"⟩
abbrev b_Ma_open : ByteArray := prog_5_method_7_code
def y_Ma_open : MethodName := ⟨R_Ma, "open", "(II)V"⟩
abbrev b_Ma_turn : ByteArray := prog_5_method_6_code
def y_Ma_turn : MethodName := ⟨R_Ma, "turn", "()V"⟩
abbrev b_Ma_build : ByteArray := prog_5_method_9_code
def y_Ma_build : MethodName := ⟨R_Ma, "build", "(II)V"⟩
abbrev b_Va_isFull : ByteArray := prog_9_method_3_code
def y_Va_isFull : MethodName := ⟨R_Va, "isFull", "()Z"⟩
abbrev b_Va_add : ByteArray := prog_9_method_8_code
def y_Va_add : MethodName := ⟨R_Va, "add", "(I[II)I"⟩
abbrev b_Va_size : ByteArray := prog_9_method_7_code
def y_Va_size : MethodName := ⟨R_Va, "size", "(I)I"⟩
abbrev b_Te_size : ByteArray := prog_7_method_11_code
def y_Te_size : MethodName := ⟨R_Te, "size", "(I)I"⟩
abbrev b_Ma_writeAnswer : ByteArray := prog_5_method_13_code
def y_Ma_writeAnswer : MethodName := ⟨R_Ma, "writeAnswer", "(I)V"⟩
abbrev b_Va_width : ByteArray := prog_9_method_5_code
def y_Va_width : MethodName := ⟨R_Va, "width", "(I)I"⟩
abbrev b_La_answer : ByteArray := method_11_code
def y_La_answer : MethodName := ⟨R_La, "answer", "(LSureFunctions;I[J)I"⟩
abbrev b_Fu_answer : ByteArray := prog_1_method_13_code
def y_Fu_answer : MethodName := ⟨R_Fu, "answer", "(I)I"⟩
abbrev b_Ma_answerSize : ByteArray := prog_5_method_3_code
def y_Ma_answerSize : MethodName := ⟨R_Ma, "answerSize", "()I"⟩
abbrev b_Ma_answerAt : ByteArray := prog_5_method_4_code
def y_Ma_answerAt : MethodName := ⟨R_Ma, "answerAt", "(I)I"⟩
abbrev b_Mo_init : ByteArray := prog_11_method_1_code
def y_Mo_init : MethodName := ⟨R_Mo, "<init>", "()V"⟩
abbrev b_Mo_thrown : ByteArray := prog_11_method_2_code
def y_Mo_thrown : MethodName := ⟨R_Mo, "thrown", "()I"⟩
abbrev b_Mo_constructor : ByteArray := prog_11_method_6_code
def y_Mo_constructor : MethodName := ⟨R_Mo, "constructor", "(IIII)I"⟩
abbrev b_Mo_wrongTypes : ByteArray := prog_11_method_5_code
def y_Mo_wrongTypes : MethodName := ⟨R_Mo, "wrongTypes", "(IIII)Z"⟩
abbrev b_Mo_outside : ByteArray := prog_11_method_3_code
def y_Mo_outside : MethodName := ⟨R_Mo, "outside", "(II)Z"⟩
abbrev b_Mo_many : ByteArray := prog_11_method_4_code
def y_Mo_many : MethodName := ⟨R_Mo, "many", "(III)I"⟩
abbrev b_Mo_function : ByteArray := prog_11_method_7_code
def y_Mo_function : MethodName := ⟨R_Mo, "function", "(IIII)I"⟩
abbrev b_Mo_variable : ByteArray := prog_11_method_10_code
def y_Mo_variable : MethodName := ⟨R_Mo, "variable", "(I)I"⟩
abbrev b_Mo_make : ByteArray := prog_11_method_12_code
def y_Mo_make : MethodName := ⟨R_Mo, "make", "(IIII)I"⟩
abbrev b_Mo_build : ByteArray := prog_11_method_11_code
def y_Mo_build : MethodName := ⟨R_Mo, "build", "(IIIII)I"⟩
abbrev b_Mo_isTerm : ByteArray := prog_11_method_8_code
def y_Mo_isTerm : MethodName := ⟨R_Mo, "isTerm", "(I)Z"⟩
abbrev b_Mo_call : ByteArray := prog_11_method_13_code
def y_Mo_call : MethodName := ⟨R_Mo, "call", "(IIII)I"⟩
abbrev b_Mo_clause : ByteArray := prog_11_method_19_code
def y_Mo_clause : MethodName := ⟨R_Mo, "clause", "(IIIII)I"⟩
abbrev b_Mo_isClause : ByteArray := prog_11_method_18_code
def y_Mo_isClause : MethodName := ⟨R_Mo, "isClause", "(IIIII)Z"⟩
abbrev b_Mo_isPattern : ByteArray := prog_11_method_16_code
def y_Mo_isPattern : MethodName := ⟨R_Mo, "isPattern", "(I)Z"⟩
abbrev b_Mo_push : ByteArray := prog_11_method_14_code
def y_Mo_push : MethodName := ⟨R_Mo, "push", "(II)V"⟩
abbrev b_Mo_pushBelow : ByteArray := prog_11_method_15_code
def y_Mo_pushBelow : MethodName := ⟨R_Mo, "pushBelow", "(I)V"⟩
abbrev b_Mo_places : ByteArray := prog_11_method_9_code
def y_Mo_places : MethodName := ⟨R_Mo, "places", "(I)I"⟩
abbrev b_Mo_isBody : ByteArray := prog_11_method_17_code
def y_Mo_isBody : MethodName := ⟨R_Mo, "isBody", "(I)Z"⟩
abbrev b_Mo_check : ByteArray := prog_11_method_37_code
def y_Mo_check : MethodName := ⟨R_Mo, "check", "()I"⟩
abbrev b_Mo_allInhabited : ByteArray := prog_11_method_20_code
def y_Mo_allInhabited : MethodName := ⟨R_Mo, "allInhabited", "()Z"⟩
abbrev b_Mo_allTyped : ByteArray := prog_11_method_22_code
def y_Mo_allTyped : MethodName := ⟨R_Mo, "allTyped", "()Z"⟩
abbrev b_Mo_isTyped : ByteArray := prog_11_method_21_code
def y_Mo_isTyped : MethodName := ⟨R_Mo, "isTyped", "(IIZ)Z"⟩
abbrev b_Mo_isCovered : ByteArray := prog_11_method_26_code
def y_Mo_isCovered : MethodName := ⟨R_Mo, "isCovered", "(I)Z"⟩
abbrev b_Mo_stands : ByteArray := prog_11_method_24_code
def y_Mo_stands : MethodName := ⟨R_Mo, "stands", "(II)I"⟩
abbrev b_Mo_wants : ByteArray := prog_11_method_23_code
def y_Mo_wants : MethodName := ⟨R_Mo, "wants", "(II)I"⟩
abbrev b_Mo_splitAt : ByteArray := prog_11_method_27_code
def y_Mo_splitAt : MethodName := ⟨R_Mo, "splitAt", "(III)I"⟩
abbrev b_Mo_typeAt : ByteArray := prog_11_method_25_code
def y_Mo_typeAt : MethodName := ⟨R_Mo, "typeAt", "(III)I"⟩
abbrev b_Mo_isEnding : ByteArray := prog_11_method_36_code
def y_Mo_isEnding : MethodName := ⟨R_Mo, "isEnding", "()Z"⟩
abbrev b_Mo_callGraphs : ByteArray := prog_11_method_35_code
def y_Mo_callGraphs : MethodName := ⟨R_Mo, "callGraphs", "()V"⟩
abbrev b_Mo_callOf : ByteArray := prog_11_method_30_code
def y_Mo_callOf : MethodName := ⟨R_Mo, "callOf", "(II)I"⟩
abbrev b_Mo_arcOf : ByteArray := prog_11_method_31_code
def y_Mo_arcOf : MethodName := ⟨R_Mo, "arcOf", "(IIII)I"⟩
abbrev b_Mo_inside : ByteArray := prog_11_method_29_code
def y_Mo_inside : MethodName := ⟨R_Mo, "inside", "(II)I"⟩
abbrev b_Mo_alike : ByteArray := prog_11_method_28_code
def y_Mo_alike : MethodName := ⟨R_Mo, "alike", "(II)Z"⟩
abbrev b_Mo_addGraph : ByteArray := prog_11_method_32_code
def y_Mo_addGraph : MethodName := ⟨R_Mo, "addGraph", "(III)V"⟩
abbrev b_Mo_composed : ByteArray := prog_11_method_34_code
def y_Mo_composed : MethodName := ⟨R_Mo, "composed", "(II)I"⟩
abbrev b_Mo_arcAt : ByteArray := prog_11_method_33_code
def y_Mo_arcAt : MethodName := ⟨R_Mo, "arcAt", "(III)I"⟩
abbrev b_Mo_graphs : ByteArray := prog_11_method_38_code
def y_Mo_graphs : MethodName := ⟨R_Mo, "graphs", "()I"⟩
abbrev b_Mo_arc : ByteArray := prog_11_method_39_code
def y_Mo_arc : MethodName := ⟨R_Mo, "arc", "(IIII)I"⟩
abbrev b_Mo_isValue : ByteArray := prog_11_method_41_code
def y_Mo_isValue : MethodName := ⟨R_Mo, "isValue", "(II)Z"⟩
abbrev b_Mo_isClosed : ByteArray := prog_11_method_40_code
def y_Mo_isClosed : MethodName := ⟨R_Mo, "isClosed", "(I)Z"⟩
abbrev b_Mo_run : ByteArray := prog_11_method_50_code
def y_Mo_run : MethodName := ⟨R_Mo, "run", "(IIII)I"⟩
abbrev b_Mo_give : ByteArray := prog_11_method_48_code
def y_Mo_give : MethodName := ⟨R_Mo, "give", "(I)V"⟩
abbrev b_Mo_doLater : ByteArray := prog_11_method_42_code
def y_Mo_doLater : MethodName := ⟨R_Mo, "doLater", "(II)V"⟩
abbrev b_Mo_evaluate : ByteArray := prog_11_method_44_code
def y_Mo_evaluate : MethodName := ⟨R_Mo, "evaluate", "(II)V"⟩
abbrev b_Mo_hold : ByteArray := prog_11_method_43_code
def y_Mo_hold : MethodName := ⟨R_Mo, "hold", "(I)V"⟩
abbrev b_Mo_finished : ByteArray := prog_11_method_47_code
def y_Mo_finished : MethodName := ⟨R_Mo, "finished", "()Z"⟩
abbrev b_Mo_enter : ByteArray := prog_11_method_46_code
def y_Mo_enter : MethodName := ⟨R_Mo, "enter", "(I)Z"⟩
abbrev b_Mo_matches : ByteArray := prog_11_method_45_code
def y_Mo_matches : MethodName := ⟨R_Mo, "matches", "(III)Z"⟩
abbrev b_Mo_write : ByteArray := prog_11_method_49_code
def y_Mo_write : MethodName := ⟨R_Mo, "write", "(I)V"⟩
abbrev b_Mo_answer : ByteArray := prog_11_method_51_code
def y_Mo_answer : MethodName := ⟨R_Mo, "answer", "(I)I"⟩
abbrev b_Mo_count : ByteArray := prog_11_method_52_code
def y_Mo_count : MethodName := ⟨R_Mo, "count", "(I)I"⟩
def g_nest : List (String × Nat × MethodName × String) := [(R_Sg, 28, y_Fu_leadingPlaces, R_Fu), (R_Sg, 32, y_Fu_pick, R_Fu), (R_Te, 44, y_Fu_pick, R_Fu), (R_Cl, 39, y_Fu_pick, R_Fu), (R_Ma, 77, y_Fu_pick, R_Fu)]
theorem gm_0 : (Cond.initialized R_La : Cond) ∈ gw := gw_of (List.mem_append_left _ (List.mem_of_getElem? (i := 0) (by decide +kernel))) rfl
theorem gm_1 : (Cond.initialized R_Fu : Cond) ∈ gw := gw_of (List.mem_append_left _ (List.mem_of_getElem? (i := 1) (by decide +kernel))) rfl
theorem gm_2 : (Cond.initialized R_Sg : Cond) ∈ gw := gw_of (List.mem_append_left _ (List.mem_of_getElem? (i := 2) (by decide +kernel))) rfl
theorem gm_3 : (Cond.initialized R_Te : Cond) ∈ gw := gw_of (List.mem_append_left _ (List.mem_of_getElem? (i := 3) (by decide +kernel))) rfl
theorem gm_4 : (Cond.initialized R_Cl : Cond) ∈ gw := gw_of (List.mem_append_left _ (List.mem_of_getElem? (i := 4) (by decide +kernel))) rfl
theorem gm_5 : (Cond.initialized R_Ty : Cond) ∈ gw := gw_of (List.mem_append_left _ (List.mem_of_getElem? (i := 5) (by decide +kernel))) rfl
theorem gm_6 : (Cond.initialized R_Co : Cond) ∈ gw := gw_of (List.mem_append_left _ (List.mem_of_getElem? (i := 6) (by decide +kernel))) rfl
theorem gm_7 : (Cond.initialized R_En : Cond) ∈ gw := gw_of (List.mem_append_left _ (List.mem_of_getElem? (i := 7) (by decide +kernel))) rfl
theorem gm_8 : (Cond.initialized R_Ma : Cond) ∈ gw := gw_of (List.mem_append_left _ (List.mem_of_getElem? (i := 8) (by decide +kernel))) rfl
theorem gm_9 : (Cond.initialized R_Va : Cond) ∈ gw := gw_of (List.mem_append_left _ (List.mem_of_getElem? (i := 9) (by decide +kernel))) rfl
theorem gm_10 : (Cond.initialized R_Mo : Cond) ∈ gw := gw_of (List.mem_append_left _ (List.mem_of_getElem? (i := 10) (by decide +kernel))) rfl
theorem gm_11 : (Cond.initialized R_Jm : Cond) ∈ gw := gw_of (List.mem_append_left _ (List.mem_of_getElem? (i := 16) (by decide +kernel))) rfl
theorem gm_12 : (Cond.classLink R_La 8 R_Fu : Cond) ∈ gw := gw_of (List.mem_append_left _ (List.mem_of_getElem? (i := 18) (by decide +kernel))) rfl
theorem gm_13 : (Cond.instantiable R_Fu 10 : Cond) ∈ gw := gw_of (List.mem_append_left _ (List.mem_of_getElem? (i := 19) (by decide +kernel))) rfl
theorem gm_14 : (Cond.methodLink R_La 45 y_Fu_init : Cond) ∈ gw := gw_of (List.mem_append_left _ (List.mem_of_getElem? (i := 20) (by decide +kernel))) rfl
theorem gm_15 : (Cond.instanceMethod y_Fu_init : Cond) ∈ gw := gw_of (List.mem_append_left _ (List.mem_of_getElem? (i := 21) (by decide +kernel))) rfl
theorem gm_16 : (Cond.code y_Fu_init b_Fu_init 1 none : Cond) ∈ gw := gw_of (List.mem_append_left _ (List.mem_of_getElem? (i := 22) (by decide +kernel))) rfl
theorem gm_17 : (Cond.methodLink R_Fu 1 objectInit : Cond) ∈ gw := gw_of (List.mem_append_left _ (List.mem_of_getElem? (i := 23) (by decide +kernel))) rfl
theorem gm_18 : (Cond.instanceMethod objectInit : Cond) ∈ gw := gw_of (List.mem_append_left _ (List.mem_of_getElem? (i := 24) (by decide +kernel))) rfl
theorem gm_19 : (Cond.code objectInit ⟨#[0xb1]⟩ 1 none : Cond) ∈ gw := gw_of (List.mem_append_left _ (List.mem_of_getElem? (i := 25) (by decide +kernel))) rfl
theorem gm_20 : (Cond.classLink R_Fu 7 R_Sg : Cond) ∈ gw := gw_of (List.mem_append_left _ (List.mem_of_getElem? (i := 26) (by decide +kernel))) rfl
theorem gm_21 : (Cond.instantiable R_Sg 5 : Cond) ∈ gw := gw_of (List.mem_append_left _ (List.mem_of_getElem? (i := 27) (by decide +kernel))) rfl
theorem gm_22 : (Cond.methodLink R_Fu 11 y_Sg_init : Cond) ∈ gw := gw_of (List.mem_append_left _ (List.mem_of_getElem? (i := 28) (by decide +kernel))) rfl
theorem gm_23 : (Cond.instanceMethod y_Sg_init : Cond) ∈ gw := gw_of (List.mem_append_left _ (List.mem_of_getElem? (i := 29) (by decide +kernel))) rfl
theorem gm_24 : (Cond.code y_Sg_init b_Sg_init 2 none : Cond) ∈ gw := gw_of (List.mem_append_left _ (List.mem_of_getElem? (i := 30) (by decide +kernel))) rfl
theorem gm_25 : (Cond.methodLink R_Sg 3 objectInit : Cond) ∈ gw := gw_of (List.mem_append_left _ (List.mem_of_getElem? (i := 31) (by decide +kernel))) rfl
theorem gm_26 : (Cond.fieldLink R_Sg 9 "SureFunctions$Signatures" "most" "I" : Cond) ∈ gw := gw_of (List.mem_append_left _ (List.mem_of_getElem? (i := 32) (by decide +kernel))) rfl
theorem gm_27 : (Cond.fieldLink R_Sg 15 "SureFunctions$Signatures" "type" "[I" : Cond) ∈ gw := gw_of (List.mem_append_left _ (List.mem_of_getElem? (i := 33) (by decide +kernel))) rfl
theorem gm_28 : (Cond.fieldLink R_Sg 19 "SureFunctions$Signatures" "width" "[I" : Cond) ∈ gw := gw_of (List.mem_append_left _ (List.mem_of_getElem? (i := 34) (by decide +kernel))) rfl
theorem gm_29 : (Cond.fieldLink R_Sg 22 "SureFunctions$Signatures" "placeType" "[I" : Cond) ∈ gw := gw_of (List.mem_append_left _ (List.mem_of_getElem? (i := 35) (by decide +kernel))) rfl
theorem gm_30 : (Cond.fieldLink R_Sg 25 "SureFunctions$Signatures" "many" "I" : Cond) ∈ gw := gw_of (List.mem_append_left _ (List.mem_of_getElem? (i := 36) (by decide +kernel))) rfl
theorem gm_31 : (Cond.laysFinal R_Sg "SureFunctions$Signatures" "most" "I" : Cond) ∈ gw := gw_of (List.mem_append_left _ (List.mem_of_getElem? (i := 37) (by decide +kernel))) rfl
theorem gm_32 : (Cond.laysFinal R_Sg "SureFunctions$Signatures" "type" "[I" : Cond) ∈ gw := gw_of (List.mem_append_left _ (List.mem_of_getElem? (i := 39) (by decide +kernel))) rfl
theorem gm_33 : (Cond.laysFinal R_Sg "SureFunctions$Signatures" "width" "[I" : Cond) ∈ gw := gw_of (List.mem_append_left _ (List.mem_of_getElem? (i := 41) (by decide +kernel))) rfl
theorem gm_34 : (Cond.laysFinal R_Sg "SureFunctions$Signatures" "placeType" "[I" : Cond) ∈ gw := gw_of (List.mem_append_left _ (List.mem_of_getElem? (i := 43) (by decide +kernel))) rfl
theorem gm_35 : (Cond.lays R_Sg "SureFunctions$Signatures" "many" "I" : Cond) ∈ gw := gw_of (List.mem_append_left _ (List.mem_of_getElem? (i := 45) (by decide +kernel))) rfl
theorem gm_36 : (Cond.arrayClass .int : Cond) ∈ gw := gw_of (List.mem_append_left _ (List.mem_of_getElem? (i := 48) (by decide +kernel))) rfl
theorem gm_37 : (Cond.classLink R_Fu 21 R_Te : Cond) ∈ gw := gw_of (List.mem_append_left _ (List.mem_of_getElem? (i := 49) (by decide +kernel))) rfl
theorem gm_38 : (Cond.instantiable R_Te 10 : Cond) ∈ gw := gw_of (List.mem_append_left _ (List.mem_of_getElem? (i := 50) (by decide +kernel))) rfl
theorem gm_39 : (Cond.methodLink R_Fu 23 y_Te_init : Cond) ∈ gw := gw_of (List.mem_append_left _ (List.mem_of_getElem? (i := 51) (by decide +kernel))) rfl
theorem gm_40 : (Cond.instanceMethod y_Te_init : Cond) ∈ gw := gw_of (List.mem_append_left _ (List.mem_of_getElem? (i := 52) (by decide +kernel))) rfl
theorem gm_41 : (Cond.code y_Te_init b_Te_init 1 none : Cond) ∈ gw := gw_of (List.mem_append_left _ (List.mem_of_getElem? (i := 53) (by decide +kernel))) rfl
theorem gm_42 : (Cond.methodLink R_Te 3 objectInit : Cond) ∈ gw := gw_of (List.mem_append_left _ (List.mem_of_getElem? (i := 54) (by decide +kernel))) rfl
theorem gm_43 : (Cond.fieldLink R_Te 9 "SureFunctions$Terms" "kind" "[I" : Cond) ∈ gw := gw_of (List.mem_append_left _ (List.mem_of_getElem? (i := 55) (by decide +kernel))) rfl
theorem gm_44 : (Cond.fieldLink R_Te 15 "SureFunctions$Terms" "head" "[I" : Cond) ∈ gw := gw_of (List.mem_append_left _ (List.mem_of_getElem? (i := 56) (by decide +kernel))) rfl
theorem gm_45 : (Cond.fieldLink R_Te 18 "SureFunctions$Terms" "width" "[I" : Cond) ∈ gw := gw_of (List.mem_append_left _ (List.mem_of_getElem? (i := 57) (by decide +kernel))) rfl
theorem gm_46 : (Cond.fieldLink R_Te 21 "SureFunctions$Terms" "part" "[I" : Cond) ∈ gw := gw_of (List.mem_append_left _ (List.mem_of_getElem? (i := 58) (by decide +kernel))) rfl
theorem gm_47 : (Cond.fieldLink R_Te 24 "SureFunctions$Terms" "height" "[I" : Cond) ∈ gw := gw_of (List.mem_append_left _ (List.mem_of_getElem? (i := 59) (by decide +kernel))) rfl
theorem gm_48 : (Cond.fieldLink R_Te 27 "SureFunctions$Terms" "size" "[I" : Cond) ∈ gw := gw_of (List.mem_append_left _ (List.mem_of_getElem? (i := 60) (by decide +kernel))) rfl
theorem gm_49 : (Cond.fieldLink R_Te 30 "SureFunctions$Terms" "variables" "[I" : Cond) ∈ gw := gw_of (List.mem_append_left _ (List.mem_of_getElem? (i := 61) (by decide +kernel))) rfl
theorem gm_50 : (Cond.fieldLink R_Te 33 "SureFunctions$Terms" "hasCall" "[Z" : Cond) ∈ gw := gw_of (List.mem_append_left _ (List.mem_of_getElem? (i := 62) (by decide +kernel))) rfl
theorem gm_51 : (Cond.fieldLink R_Te 37 "SureFunctions$Terms" "hasVariableTwice" "[Z" : Cond) ∈ gw := gw_of (List.mem_append_left _ (List.mem_of_getElem? (i := 63) (by decide +kernel))) rfl
theorem gm_52 : (Cond.fieldLink R_Te 40 "SureFunctions$Terms" "many" "I" : Cond) ∈ gw := gw_of (List.mem_append_left _ (List.mem_of_getElem? (i := 64) (by decide +kernel))) rfl
theorem gm_53 : (Cond.laysFinal R_Te "SureFunctions$Terms" "kind" "[I" : Cond) ∈ gw := gw_of (List.mem_append_left _ (List.mem_of_getElem? (i := 65) (by decide +kernel))) rfl
theorem gm_54 : (Cond.laysFinal R_Te "SureFunctions$Terms" "head" "[I" : Cond) ∈ gw := gw_of (List.mem_append_left _ (List.mem_of_getElem? (i := 67) (by decide +kernel))) rfl
theorem gm_55 : (Cond.laysFinal R_Te "SureFunctions$Terms" "width" "[I" : Cond) ∈ gw := gw_of (List.mem_append_left _ (List.mem_of_getElem? (i := 69) (by decide +kernel))) rfl
theorem gm_56 : (Cond.laysFinal R_Te "SureFunctions$Terms" "part" "[I" : Cond) ∈ gw := gw_of (List.mem_append_left _ (List.mem_of_getElem? (i := 71) (by decide +kernel))) rfl
theorem gm_57 : (Cond.laysFinal R_Te "SureFunctions$Terms" "height" "[I" : Cond) ∈ gw := gw_of (List.mem_append_left _ (List.mem_of_getElem? (i := 73) (by decide +kernel))) rfl
theorem gm_58 : (Cond.laysFinal R_Te "SureFunctions$Terms" "size" "[I" : Cond) ∈ gw := gw_of (List.mem_append_left _ (List.mem_of_getElem? (i := 75) (by decide +kernel))) rfl
theorem gm_59 : (Cond.laysFinal R_Te "SureFunctions$Terms" "variables" "[I" : Cond) ∈ gw := gw_of (List.mem_append_left _ (List.mem_of_getElem? (i := 77) (by decide +kernel))) rfl
theorem gm_60 : (Cond.laysFinal R_Te "SureFunctions$Terms" "hasCall" "[Z" : Cond) ∈ gw := gw_of (List.mem_append_left _ (List.mem_of_getElem? (i := 79) (by decide +kernel))) rfl
theorem gm_61 : (Cond.laysFinal R_Te "SureFunctions$Terms" "hasVariableTwice" "[Z" : Cond) ∈ gw := gw_of (List.mem_append_left _ (List.mem_of_getElem? (i := 81) (by decide +kernel))) rfl
theorem gm_62 : (Cond.lays R_Te "SureFunctions$Terms" "many" "I" : Cond) ∈ gw := gw_of (List.mem_append_left _ (List.mem_of_getElem? (i := 83) (by decide +kernel))) rfl
theorem gm_63 : (Cond.arrayClass .boolean : Cond) ∈ gw := gw_of (List.mem_append_left _ (List.mem_of_getElem? (i := 86) (by decide +kernel))) rfl
theorem gm_64 : (Cond.classLink R_Fu 28 R_Cl : Cond) ∈ gw := gw_of (List.mem_append_left _ (List.mem_of_getElem? (i := 87) (by decide +kernel))) rfl
theorem gm_65 : (Cond.instantiable R_Cl 8 : Cond) ∈ gw := gw_of (List.mem_append_left _ (List.mem_of_getElem? (i := 88) (by decide +kernel))) rfl
theorem gm_66 : (Cond.methodLink R_Fu 30 y_Cl_init : Cond) ∈ gw := gw_of (List.mem_append_left _ (List.mem_of_getElem? (i := 89) (by decide +kernel))) rfl
theorem gm_67 : (Cond.instanceMethod y_Cl_init : Cond) ∈ gw := gw_of (List.mem_append_left _ (List.mem_of_getElem? (i := 90) (by decide +kernel))) rfl
theorem gm_68 : (Cond.code y_Cl_init b_Cl_init 3 none : Cond) ∈ gw := gw_of (List.mem_append_left _ (List.mem_of_getElem? (i := 91) (by decide +kernel))) rfl
theorem gm_69 : (Cond.methodLink R_Cl 3 objectInit : Cond) ∈ gw := gw_of (List.mem_append_left _ (List.mem_of_getElem? (i := 92) (by decide +kernel))) rfl
theorem gm_70 : (Cond.fieldLink R_Cl 9 "SureFunctions$Clauses" "functions" "LSureFunctions$Signatures;" : Cond) ∈ gw := gw_of (List.mem_append_left _ (List.mem_of_getElem? (i := 93) (by decide +kernel))) rfl
theorem gm_71 : (Cond.fieldLink R_Cl 15 "SureFunctions$Clauses" "terms" "LSureFunctions$Terms;" : Cond) ∈ gw := gw_of (List.mem_append_left _ (List.mem_of_getElem? (i := 94) (by decide +kernel))) rfl
theorem gm_72 : (Cond.fieldLink R_Cl 19 "SureFunctions$Clauses" "owner" "[I" : Cond) ∈ gw := gw_of (List.mem_append_left _ (List.mem_of_getElem? (i := 95) (by decide +kernel))) rfl
theorem gm_73 : (Cond.fieldLink R_Cl 23 "SureFunctions$Clauses" "pattern" "[I" : Cond) ∈ gw := gw_of (List.mem_append_left _ (List.mem_of_getElem? (i := 96) (by decide +kernel))) rfl
theorem gm_74 : (Cond.fieldLink R_Cl 26 "SureFunctions$Clauses" "body" "[I" : Cond) ∈ gw := gw_of (List.mem_append_left _ (List.mem_of_getElem? (i := 97) (by decide +kernel))) rfl
theorem gm_75 : (Cond.fieldLink R_Cl 29 "SureFunctions$Clauses" "ofFunction" "[I" : Cond) ∈ gw := gw_of (List.mem_append_left _ (List.mem_of_getElem? (i := 98) (by decide +kernel))) rfl
theorem gm_76 : (Cond.fieldLink R_Cl 32 "SureFunctions$Clauses" "manyOfFunction" "[I" : Cond) ∈ gw := gw_of (List.mem_append_left _ (List.mem_of_getElem? (i := 99) (by decide +kernel))) rfl
theorem gm_77 : (Cond.fieldLink R_Cl 35 "SureFunctions$Clauses" "many" "I" : Cond) ∈ gw := gw_of (List.mem_append_left _ (List.mem_of_getElem? (i := 100) (by decide +kernel))) rfl
theorem gm_78 : (Cond.laysFinal R_Cl "SureFunctions$Clauses" "functions" "LSureFunctions$Signatures;" : Cond) ∈ gw := gw_of (List.mem_append_left _ (List.mem_of_getElem? (i := 101) (by decide +kernel))) rfl
theorem gm_79 : (Cond.laysFinal R_Cl "SureFunctions$Clauses" "terms" "LSureFunctions$Terms;" : Cond) ∈ gw := gw_of (List.mem_append_left _ (List.mem_of_getElem? (i := 103) (by decide +kernel))) rfl
theorem gm_80 : (Cond.laysFinal R_Cl "SureFunctions$Clauses" "owner" "[I" : Cond) ∈ gw := gw_of (List.mem_append_left _ (List.mem_of_getElem? (i := 105) (by decide +kernel))) rfl
theorem gm_81 : (Cond.laysFinal R_Cl "SureFunctions$Clauses" "pattern" "[I" : Cond) ∈ gw := gw_of (List.mem_append_left _ (List.mem_of_getElem? (i := 107) (by decide +kernel))) rfl
theorem gm_82 : (Cond.laysFinal R_Cl "SureFunctions$Clauses" "body" "[I" : Cond) ∈ gw := gw_of (List.mem_append_left _ (List.mem_of_getElem? (i := 109) (by decide +kernel))) rfl
theorem gm_83 : (Cond.laysFinal R_Cl "SureFunctions$Clauses" "ofFunction" "[I" : Cond) ∈ gw := gw_of (List.mem_append_left _ (List.mem_of_getElem? (i := 111) (by decide +kernel))) rfl
theorem gm_84 : (Cond.laysFinal R_Cl "SureFunctions$Clauses" "manyOfFunction" "[I" : Cond) ∈ gw := gw_of (List.mem_append_left _ (List.mem_of_getElem? (i := 113) (by decide +kernel))) rfl
theorem gm_85 : (Cond.lays R_Cl "SureFunctions$Clauses" "many" "I" : Cond) ∈ gw := gw_of (List.mem_append_left _ (List.mem_of_getElem? (i := 115) (by decide +kernel))) rfl
theorem gm_86 : (Cond.classLink R_Fu 37 R_Ty : Cond) ∈ gw := gw_of (List.mem_append_left _ (List.mem_of_getElem? (i := 118) (by decide +kernel))) rfl
theorem gm_87 : (Cond.instantiable R_Ty 5 : Cond) ∈ gw := gw_of (List.mem_append_left _ (List.mem_of_getElem? (i := 119) (by decide +kernel))) rfl
theorem gm_88 : (Cond.methodLink R_Fu 39 y_Ty_init : Cond) ∈ gw := gw_of (List.mem_append_left _ (List.mem_of_getElem? (i := 120) (by decide +kernel))) rfl
theorem gm_89 : (Cond.instanceMethod y_Ty_init : Cond) ∈ gw := gw_of (List.mem_append_left _ (List.mem_of_getElem? (i := 121) (by decide +kernel))) rfl
theorem gm_90 : (Cond.code y_Ty_init b_Ty_init 5 none : Cond) ∈ gw := gw_of (List.mem_append_left _ (List.mem_of_getElem? (i := 122) (by decide +kernel))) rfl
theorem gm_91 : (Cond.methodLink R_Ty 3 objectInit : Cond) ∈ gw := gw_of (List.mem_append_left _ (List.mem_of_getElem? (i := 123) (by decide +kernel))) rfl
theorem gm_92 : (Cond.fieldLink R_Ty 9 "SureFunctions$Typing" "constructors" "LSureFunctions$Signatures;" : Cond) ∈ gw := gw_of (List.mem_append_left _ (List.mem_of_getElem? (i := 124) (by decide +kernel))) rfl
theorem gm_93 : (Cond.fieldLink R_Ty 15 "SureFunctions$Typing" "functions" "LSureFunctions$Signatures;" : Cond) ∈ gw := gw_of (List.mem_append_left _ (List.mem_of_getElem? (i := 125) (by decide +kernel))) rfl
theorem gm_94 : (Cond.fieldLink R_Ty 18 "SureFunctions$Typing" "terms" "LSureFunctions$Terms;" : Cond) ∈ gw := gw_of (List.mem_append_left _ (List.mem_of_getElem? (i := 126) (by decide +kernel))) rfl
theorem gm_95 : (Cond.fieldLink R_Ty 22 "SureFunctions$Typing" "clauses" "LSureFunctions$Clauses;" : Cond) ∈ gw := gw_of (List.mem_append_left _ (List.mem_of_getElem? (i := 127) (by decide +kernel))) rfl
theorem gm_96 : (Cond.fieldLink R_Ty 26 "SureFunctions$Typing" "variableType" "[I" : Cond) ∈ gw := gw_of (List.mem_append_left _ (List.mem_of_getElem? (i := 128) (by decide +kernel))) rfl
theorem gm_97 : (Cond.laysFinal R_Ty "SureFunctions$Typing" "constructors" "LSureFunctions$Signatures;" : Cond) ∈ gw := gw_of (List.mem_append_left _ (List.mem_of_getElem? (i := 129) (by decide +kernel))) rfl
theorem gm_98 : (Cond.laysFinal R_Ty "SureFunctions$Typing" "functions" "LSureFunctions$Signatures;" : Cond) ∈ gw := gw_of (List.mem_append_left _ (List.mem_of_getElem? (i := 131) (by decide +kernel))) rfl
theorem gm_99 : (Cond.laysFinal R_Ty "SureFunctions$Typing" "terms" "LSureFunctions$Terms;" : Cond) ∈ gw := gw_of (List.mem_append_left _ (List.mem_of_getElem? (i := 133) (by decide +kernel))) rfl
theorem gm_100 : (Cond.laysFinal R_Ty "SureFunctions$Typing" "clauses" "LSureFunctions$Clauses;" : Cond) ∈ gw := gw_of (List.mem_append_left _ (List.mem_of_getElem? (i := 135) (by decide +kernel))) rfl
theorem gm_101 : (Cond.laysFinal R_Ty "SureFunctions$Typing" "variableType" "[I" : Cond) ∈ gw := gw_of (List.mem_append_left _ (List.mem_of_getElem? (i := 137) (by decide +kernel))) rfl
theorem gm_102 : (Cond.classLink R_Fu 46 R_Co : Cond) ∈ gw := gw_of (List.mem_append_left _ (List.mem_of_getElem? (i := 140) (by decide +kernel))) rfl
theorem gm_103 : (Cond.instantiable R_Co 6 : Cond) ∈ gw := gw_of (List.mem_append_left _ (List.mem_of_getElem? (i := 141) (by decide +kernel))) rfl
theorem gm_104 : (Cond.methodLink R_Fu 48 y_Co_init : Cond) ∈ gw := gw_of (List.mem_append_left _ (List.mem_of_getElem? (i := 142) (by decide +kernel))) rfl
theorem gm_105 : (Cond.instanceMethod y_Co_init : Cond) ∈ gw := gw_of (List.mem_append_left _ (List.mem_of_getElem? (i := 143) (by decide +kernel))) rfl
theorem gm_106 : (Cond.code y_Co_init b_Co_init 5 none : Cond) ∈ gw := gw_of (List.mem_append_left _ (List.mem_of_getElem? (i := 144) (by decide +kernel))) rfl
theorem gm_107 : (Cond.methodLink R_Co 5 objectInit : Cond) ∈ gw := gw_of (List.mem_append_left _ (List.mem_of_getElem? (i := 145) (by decide +kernel))) rfl
theorem gm_108 : (Cond.fieldLink R_Co 11 "SureFunctions$Coverage" "constructors" "LSureFunctions$Signatures;" : Cond) ∈ gw := gw_of (List.mem_append_left _ (List.mem_of_getElem? (i := 146) (by decide +kernel))) rfl
theorem gm_109 : (Cond.fieldLink R_Co 15 "SureFunctions$Coverage" "functions" "LSureFunctions$Signatures;" : Cond) ∈ gw := gw_of (List.mem_append_left _ (List.mem_of_getElem? (i := 147) (by decide +kernel))) rfl
theorem gm_110 : (Cond.fieldLink R_Co 18 "SureFunctions$Coverage" "terms" "LSureFunctions$Terms;" : Cond) ∈ gw := gw_of (List.mem_append_left _ (List.mem_of_getElem? (i := 148) (by decide +kernel))) rfl
theorem gm_111 : (Cond.fieldLink R_Co 22 "SureFunctions$Coverage" "clauses" "LSureFunctions$Clauses;" : Cond) ∈ gw := gw_of (List.mem_append_left _ (List.mem_of_getElem? (i := 149) (by decide +kernel))) rfl
theorem gm_112 : (Cond.fieldLink R_Co 26 "SureFunctions$Coverage" "wanted" "[I" : Cond) ∈ gw := gw_of (List.mem_append_left _ (List.mem_of_getElem? (i := 150) (by decide +kernel))) rfl
theorem gm_113 : (Cond.fieldLink R_Co 30 "SureFunctions$Coverage" "filled" "[I" : Cond) ∈ gw := gw_of (List.mem_append_left _ (List.mem_of_getElem? (i := 151) (by decide +kernel))) rfl
theorem gm_114 : (Cond.laysFinal R_Co "SureFunctions$Coverage" "constructors" "LSureFunctions$Signatures;" : Cond) ∈ gw := gw_of (List.mem_append_left _ (List.mem_of_getElem? (i := 152) (by decide +kernel))) rfl
theorem gm_115 : (Cond.laysFinal R_Co "SureFunctions$Coverage" "functions" "LSureFunctions$Signatures;" : Cond) ∈ gw := gw_of (List.mem_append_left _ (List.mem_of_getElem? (i := 154) (by decide +kernel))) rfl
theorem gm_116 : (Cond.laysFinal R_Co "SureFunctions$Coverage" "terms" "LSureFunctions$Terms;" : Cond) ∈ gw := gw_of (List.mem_append_left _ (List.mem_of_getElem? (i := 156) (by decide +kernel))) rfl
theorem gm_117 : (Cond.laysFinal R_Co "SureFunctions$Coverage" "clauses" "LSureFunctions$Clauses;" : Cond) ∈ gw := gw_of (List.mem_append_left _ (List.mem_of_getElem? (i := 158) (by decide +kernel))) rfl
theorem gm_118 : (Cond.laysFinal R_Co "SureFunctions$Coverage" "wanted" "[I" : Cond) ∈ gw := gw_of (List.mem_append_left _ (List.mem_of_getElem? (i := 160) (by decide +kernel))) rfl
theorem gm_119 : (Cond.laysFinal R_Co "SureFunctions$Coverage" "filled" "[I" : Cond) ∈ gw := gw_of (List.mem_append_left _ (List.mem_of_getElem? (i := 162) (by decide +kernel))) rfl
theorem gm_120 : (Cond.classLink R_Fu 53 R_En : Cond) ∈ gw := gw_of (List.mem_append_left _ (List.mem_of_getElem? (i := 165) (by decide +kernel))) rfl
theorem gm_121 : (Cond.instantiable R_En 9 : Cond) ∈ gw := gw_of (List.mem_append_left _ (List.mem_of_getElem? (i := 166) (by decide +kernel))) rfl
theorem gm_122 : (Cond.methodLink R_Fu 55 y_En_init : Cond) ∈ gw := gw_of (List.mem_append_left _ (List.mem_of_getElem? (i := 167) (by decide +kernel))) rfl
theorem gm_123 : (Cond.instanceMethod y_En_init : Cond) ∈ gw := gw_of (List.mem_append_left _ (List.mem_of_getElem? (i := 168) (by decide +kernel))) rfl
theorem gm_124 : (Cond.code y_En_init b_En_init 4 none : Cond) ∈ gw := gw_of (List.mem_append_left _ (List.mem_of_getElem? (i := 169) (by decide +kernel))) rfl
theorem gm_125 : (Cond.methodLink R_En 5 objectInit : Cond) ∈ gw := gw_of (List.mem_append_left _ (List.mem_of_getElem? (i := 170) (by decide +kernel))) rfl
theorem gm_126 : (Cond.fieldLink R_En 11 "SureFunctions$Ending" "functions" "LSureFunctions$Signatures;" : Cond) ∈ gw := gw_of (List.mem_append_left _ (List.mem_of_getElem? (i := 171) (by decide +kernel))) rfl
theorem gm_127 : (Cond.fieldLink R_En 15 "SureFunctions$Ending" "terms" "LSureFunctions$Terms;" : Cond) ∈ gw := gw_of (List.mem_append_left _ (List.mem_of_getElem? (i := 172) (by decide +kernel))) rfl
theorem gm_128 : (Cond.fieldLink R_En 19 "SureFunctions$Ending" "clauses" "LSureFunctions$Clauses;" : Cond) ∈ gw := gw_of (List.mem_append_left _ (List.mem_of_getElem? (i := 173) (by decide +kernel))) rfl
theorem gm_129 : (Cond.fieldLink R_En 23 "SureFunctions$Ending" "calls" "[I" : Cond) ∈ gw := gw_of (List.mem_append_left _ (List.mem_of_getElem? (i := 174) (by decide +kernel))) rfl
theorem gm_130 : (Cond.fieldLink R_En 37 "SureFunctions$Ending" "manyCalls" "I" : Cond) ∈ gw := gw_of (List.mem_append_left _ (List.mem_of_getElem? (i := 175) (by decide +kernel))) rfl
theorem gm_131 : (Cond.fieldLink R_En 27 "SureFunctions$Ending" "graph" "[I" : Cond) ∈ gw := gw_of (List.mem_append_left _ (List.mem_of_getElem? (i := 176) (by decide +kernel))) rfl
theorem gm_132 : (Cond.fieldLink R_En 79 "SureFunctions$Ending" "manyGraphs" "I" : Cond) ∈ gw := gw_of (List.mem_append_left _ (List.mem_of_getElem? (i := 177) (by decide +kernel))) rfl
theorem gm_133 : (Cond.fieldLink R_En 82 "SureFunctions$Ending" "tooMany" "Z" : Cond) ∈ gw := gw_of (List.mem_append_left _ (List.mem_of_getElem? (i := 178) (by decide +kernel))) rfl
theorem gm_134 : (Cond.fieldLink R_En 30 "SureFunctions$Ending" "table" "[I" : Cond) ∈ gw := gw_of (List.mem_append_left _ (List.mem_of_getElem? (i := 179) (by decide +kernel))) rfl
theorem gm_135 : (Cond.laysFinal R_En "SureFunctions$Ending" "functions" "LSureFunctions$Signatures;" : Cond) ∈ gw := gw_of (List.mem_append_left _ (List.mem_of_getElem? (i := 180) (by decide +kernel))) rfl
theorem gm_136 : (Cond.laysFinal R_En "SureFunctions$Ending" "terms" "LSureFunctions$Terms;" : Cond) ∈ gw := gw_of (List.mem_append_left _ (List.mem_of_getElem? (i := 182) (by decide +kernel))) rfl
theorem gm_137 : (Cond.laysFinal R_En "SureFunctions$Ending" "clauses" "LSureFunctions$Clauses;" : Cond) ∈ gw := gw_of (List.mem_append_left _ (List.mem_of_getElem? (i := 184) (by decide +kernel))) rfl
theorem gm_138 : (Cond.laysFinal R_En "SureFunctions$Ending" "calls" "[I" : Cond) ∈ gw := gw_of (List.mem_append_left _ (List.mem_of_getElem? (i := 186) (by decide +kernel))) rfl
theorem gm_139 : (Cond.lays R_En "SureFunctions$Ending" "manyCalls" "I" : Cond) ∈ gw := gw_of (List.mem_append_left _ (List.mem_of_getElem? (i := 188) (by decide +kernel))) rfl
theorem gm_140 : (Cond.laysFinal R_En "SureFunctions$Ending" "graph" "[I" : Cond) ∈ gw := gw_of (List.mem_append_left _ (List.mem_of_getElem? (i := 190) (by decide +kernel))) rfl
theorem gm_141 : (Cond.lays R_En "SureFunctions$Ending" "manyGraphs" "I" : Cond) ∈ gw := gw_of (List.mem_append_left _ (List.mem_of_getElem? (i := 192) (by decide +kernel))) rfl
theorem gm_142 : (Cond.lays R_En "SureFunctions$Ending" "tooMany" "Z" : Cond) ∈ gw := gw_of (List.mem_append_left _ (List.mem_of_getElem? (i := 194) (by decide +kernel))) rfl
theorem gm_143 : (Cond.laysFinal R_En "SureFunctions$Ending" "table" "[I" : Cond) ∈ gw := gw_of (List.mem_append_left _ (List.mem_of_getElem? (i := 196) (by decide +kernel))) rfl
theorem gm_144 : (Cond.classLink R_Fu 62 R_Ma : Cond) ∈ gw := gw_of (List.mem_append_left _ (List.mem_of_getElem? (i := 199) (by decide +kernel))) rfl
theorem gm_145 : (Cond.instantiable R_Ma 15 : Cond) ∈ gw := gw_of (List.mem_append_left _ (List.mem_of_getElem? (i := 200) (by decide +kernel))) rfl
theorem gm_146 : (Cond.methodLink R_Fu 64 y_Ma_init : Cond) ∈ gw := gw_of (List.mem_append_left _ (List.mem_of_getElem? (i := 201) (by decide +kernel))) rfl
theorem gm_147 : (Cond.instanceMethod y_Ma_init : Cond) ∈ gw := gw_of (List.mem_append_left _ (List.mem_of_getElem? (i := 202) (by decide +kernel))) rfl
theorem gm_148 : (Cond.code y_Ma_init b_Ma_init 5 none : Cond) ∈ gw := gw_of (List.mem_append_left _ (List.mem_of_getElem? (i := 203) (by decide +kernel))) rfl
theorem gm_149 : (Cond.methodLink R_Ma 5 objectInit : Cond) ∈ gw := gw_of (List.mem_append_left _ (List.mem_of_getElem? (i := 204) (by decide +kernel))) rfl
theorem gm_150 : (Cond.classLink R_Ma 23 R_Va : Cond) ∈ gw := gw_of (List.mem_append_left _ (List.mem_of_getElem? (i := 205) (by decide +kernel))) rfl
theorem gm_151 : (Cond.instantiable R_Va 6 : Cond) ∈ gw := gw_of (List.mem_append_left _ (List.mem_of_getElem? (i := 206) (by decide +kernel))) rfl
theorem gm_152 : (Cond.methodLink R_Ma 25 y_Va_init : Cond) ∈ gw := gw_of (List.mem_append_left _ (List.mem_of_getElem? (i := 207) (by decide +kernel))) rfl
theorem gm_153 : (Cond.instanceMethod y_Va_init : Cond) ∈ gw := gw_of (List.mem_append_left _ (List.mem_of_getElem? (i := 208) (by decide +kernel))) rfl
theorem gm_154 : (Cond.code y_Va_init b_Va_init 3 none : Cond) ∈ gw := gw_of (List.mem_append_left _ (List.mem_of_getElem? (i := 209) (by decide +kernel))) rfl
theorem gm_155 : (Cond.methodLink R_Va 3 objectInit : Cond) ∈ gw := gw_of (List.mem_append_left _ (List.mem_of_getElem? (i := 210) (by decide +kernel))) rfl
theorem gm_156 : (Cond.fieldLink R_Va 9 "SureFunctions$Values" "constructors" "LSureFunctions$Signatures;" : Cond) ∈ gw := gw_of (List.mem_append_left _ (List.mem_of_getElem? (i := 211) (by decide +kernel))) rfl
theorem gm_157 : (Cond.fieldLink R_Va 15 "SureFunctions$Values" "terms" "LSureFunctions$Terms;" : Cond) ∈ gw := gw_of (List.mem_append_left _ (List.mem_of_getElem? (i := 212) (by decide +kernel))) rfl
theorem gm_158 : (Cond.fieldLink R_Va 19 "SureFunctions$Values" "maker" "[I" : Cond) ∈ gw := gw_of (List.mem_append_left _ (List.mem_of_getElem? (i := 213) (by decide +kernel))) rfl
theorem gm_159 : (Cond.fieldLink R_Va 23 "SureFunctions$Values" "part" "[I" : Cond) ∈ gw := gw_of (List.mem_append_left _ (List.mem_of_getElem? (i := 214) (by decide +kernel))) rfl
theorem gm_160 : (Cond.fieldLink R_Va 26 "SureFunctions$Values" "size" "[I" : Cond) ∈ gw := gw_of (List.mem_append_left _ (List.mem_of_getElem? (i := 215) (by decide +kernel))) rfl
theorem gm_161 : (Cond.fieldLink R_Va 29 "SureFunctions$Values" "many" "I" : Cond) ∈ gw := gw_of (List.mem_append_left _ (List.mem_of_getElem? (i := 216) (by decide +kernel))) rfl
theorem gm_162 : (Cond.laysFinal R_Va "SureFunctions$Values" "constructors" "LSureFunctions$Signatures;" : Cond) ∈ gw := gw_of (List.mem_append_left _ (List.mem_of_getElem? (i := 217) (by decide +kernel))) rfl
theorem gm_163 : (Cond.laysFinal R_Va "SureFunctions$Values" "terms" "LSureFunctions$Terms;" : Cond) ∈ gw := gw_of (List.mem_append_left _ (List.mem_of_getElem? (i := 219) (by decide +kernel))) rfl
theorem gm_164 : (Cond.laysFinal R_Va "SureFunctions$Values" "maker" "[I" : Cond) ∈ gw := gw_of (List.mem_append_left _ (List.mem_of_getElem? (i := 221) (by decide +kernel))) rfl
theorem gm_165 : (Cond.laysFinal R_Va "SureFunctions$Values" "part" "[I" : Cond) ∈ gw := gw_of (List.mem_append_left _ (List.mem_of_getElem? (i := 223) (by decide +kernel))) rfl
theorem gm_166 : (Cond.laysFinal R_Va "SureFunctions$Values" "size" "[I" : Cond) ∈ gw := gw_of (List.mem_append_left _ (List.mem_of_getElem? (i := 225) (by decide +kernel))) rfl
theorem gm_167 : (Cond.lays R_Va "SureFunctions$Values" "many" "I" : Cond) ∈ gw := gw_of (List.mem_append_left _ (List.mem_of_getElem? (i := 227) (by decide +kernel))) rfl
theorem gm_168 : (Cond.fieldLink R_Ma 11 "SureFunctions$Machine" "functions" "LSureFunctions$Signatures;" : Cond) ∈ gw := gw_of (List.mem_append_left _ (List.mem_of_getElem? (i := 230) (by decide +kernel))) rfl
theorem gm_169 : (Cond.fieldLink R_Ma 15 "SureFunctions$Machine" "terms" "LSureFunctions$Terms;" : Cond) ∈ gw := gw_of (List.mem_append_left _ (List.mem_of_getElem? (i := 231) (by decide +kernel))) rfl
theorem gm_170 : (Cond.fieldLink R_Ma 19 "SureFunctions$Machine" "clauses" "LSureFunctions$Clauses;" : Cond) ∈ gw := gw_of (List.mem_append_left _ (List.mem_of_getElem? (i := 232) (by decide +kernel))) rfl
theorem gm_171 : (Cond.fieldLink R_Ma 28 "SureFunctions$Machine" "values" "LSureFunctions$Values;" : Cond) ∈ gw := gw_of (List.mem_append_left _ (List.mem_of_getElem? (i := 233) (by decide +kernel))) rfl
theorem gm_172 : (Cond.fieldLink R_Ma 32 "SureFunctions$Machine" "frameTerm" "[I" : Cond) ∈ gw := gw_of (List.mem_append_left _ (List.mem_of_getElem? (i := 234) (by decide +kernel))) rfl
theorem gm_173 : (Cond.fieldLink R_Ma 36 "SureFunctions$Machine" "frameRoom" "[I" : Cond) ∈ gw := gw_of (List.mem_append_left _ (List.mem_of_getElem? (i := 235) (by decide +kernel))) rfl
theorem gm_174 : (Cond.fieldLink R_Ma 39 "SureFunctions$Machine" "frameDone" "[I" : Cond) ∈ gw := gw_of (List.mem_append_left _ (List.mem_of_getElem? (i := 236) (by decide +kernel))) rfl
theorem gm_175 : (Cond.fieldLink R_Ma 61 "SureFunctions$Machine" "frames" "I" : Cond) ∈ gw := gw_of (List.mem_append_left _ (List.mem_of_getElem? (i := 237) (by decide +kernel))) rfl
theorem gm_176 : (Cond.fieldLink R_Ma 42 "SureFunctions$Machine" "held" "[I" : Cond) ∈ gw := gw_of (List.mem_append_left _ (List.mem_of_getElem? (i := 238) (by decide +kernel))) rfl
theorem gm_177 : (Cond.fieldLink R_Ma 64 "SureFunctions$Machine" "manyHeld" "I" : Cond) ∈ gw := gw_of (List.mem_append_left _ (List.mem_of_getElem? (i := 239) (by decide +kernel))) rfl
theorem gm_178 : (Cond.fieldLink R_Ma 45 "SureFunctions$Machine" "bound" "[I" : Cond) ∈ gw := gw_of (List.mem_append_right _ (List.mem_append_left _ (List.mem_of_getElem? (i := 0) (by decide +kernel)))) rfl
theorem gm_179 : (Cond.fieldLink R_Ma 51 "SureFunctions$Machine" "steps" "I" : Cond) ∈ gw := gw_of (List.mem_append_right _ (List.mem_append_left _ (List.mem_of_getElem? (i := 1) (by decide +kernel)))) rfl
theorem gm_180 : (Cond.fieldLink R_Ma 67 "SureFunctions$Machine" "ended" "Z" : Cond) ∈ gw := gw_of (List.mem_append_right _ (List.mem_append_left _ (List.mem_of_getElem? (i := 2) (by decide +kernel)))) rfl
theorem gm_181 : (Cond.fieldLink R_Ma 48 "SureFunctions$Machine" "answer" "[I" : Cond) ∈ gw := gw_of (List.mem_append_right _ (List.mem_append_left _ (List.mem_of_getElem? (i := 3) (by decide +kernel)))) rfl
theorem gm_182 : (Cond.fieldLink R_Ma 55 "SureFunctions$Machine" "answerSize" "I" : Cond) ∈ gw := gw_of (List.mem_append_right _ (List.mem_append_left _ (List.mem_of_getElem? (i := 4) (by decide +kernel)))) rfl
theorem gm_183 : (Cond.laysFinal R_Ma "SureFunctions$Machine" "functions" "LSureFunctions$Signatures;" : Cond) ∈ gw := gw_of (List.mem_append_right _ (List.mem_append_left _ (List.mem_of_getElem? (i := 5) (by decide +kernel)))) rfl
theorem gm_184 : (Cond.laysFinal R_Ma "SureFunctions$Machine" "terms" "LSureFunctions$Terms;" : Cond) ∈ gw := gw_of (List.mem_append_right _ (List.mem_append_left _ (List.mem_of_getElem? (i := 7) (by decide +kernel)))) rfl
theorem gm_185 : (Cond.laysFinal R_Ma "SureFunctions$Machine" "clauses" "LSureFunctions$Clauses;" : Cond) ∈ gw := gw_of (List.mem_append_right _ (List.mem_append_left _ (List.mem_of_getElem? (i := 9) (by decide +kernel)))) rfl
theorem gm_186 : (Cond.laysFinal R_Ma "SureFunctions$Machine" "values" "LSureFunctions$Values;" : Cond) ∈ gw := gw_of (List.mem_append_right _ (List.mem_append_left _ (List.mem_of_getElem? (i := 11) (by decide +kernel)))) rfl
theorem gm_187 : (Cond.laysFinal R_Ma "SureFunctions$Machine" "frameTerm" "[I" : Cond) ∈ gw := gw_of (List.mem_append_right _ (List.mem_append_left _ (List.mem_of_getElem? (i := 13) (by decide +kernel)))) rfl
theorem gm_188 : (Cond.laysFinal R_Ma "SureFunctions$Machine" "frameRoom" "[I" : Cond) ∈ gw := gw_of (List.mem_append_right _ (List.mem_append_left _ (List.mem_of_getElem? (i := 15) (by decide +kernel)))) rfl
theorem gm_189 : (Cond.laysFinal R_Ma "SureFunctions$Machine" "frameDone" "[I" : Cond) ∈ gw := gw_of (List.mem_append_right _ (List.mem_append_left _ (List.mem_of_getElem? (i := 17) (by decide +kernel)))) rfl
theorem gm_190 : (Cond.lays R_Ma "SureFunctions$Machine" "frames" "I" : Cond) ∈ gw := gw_of (List.mem_append_right _ (List.mem_append_left _ (List.mem_of_getElem? (i := 19) (by decide +kernel)))) rfl
theorem gm_191 : (Cond.laysFinal R_Ma "SureFunctions$Machine" "held" "[I" : Cond) ∈ gw := gw_of (List.mem_append_right _ (List.mem_append_left _ (List.mem_of_getElem? (i := 21) (by decide +kernel)))) rfl
theorem gm_192 : (Cond.lays R_Ma "SureFunctions$Machine" "manyHeld" "I" : Cond) ∈ gw := gw_of (List.mem_append_right _ (List.mem_append_left _ (List.mem_of_getElem? (i := 23) (by decide +kernel)))) rfl
theorem gm_193 : (Cond.laysFinal R_Ma "SureFunctions$Machine" "bound" "[I" : Cond) ∈ gw := gw_of (List.mem_append_right _ (List.mem_append_left _ (List.mem_of_getElem? (i := 25) (by decide +kernel)))) rfl
theorem gm_194 : (Cond.lays R_Ma "SureFunctions$Machine" "steps" "I" : Cond) ∈ gw := gw_of (List.mem_append_right _ (List.mem_append_left _ (List.mem_of_getElem? (i := 27) (by decide +kernel)))) rfl
theorem gm_195 : (Cond.lays R_Ma "SureFunctions$Machine" "ended" "Z" : Cond) ∈ gw := gw_of (List.mem_append_right _ (List.mem_append_left _ (List.mem_of_getElem? (i := 29) (by decide +kernel)))) rfl
theorem gm_196 : (Cond.laysFinal R_Ma "SureFunctions$Machine" "answer" "[I" : Cond) ∈ gw := gw_of (List.mem_append_right _ (List.mem_append_left _ (List.mem_of_getElem? (i := 31) (by decide +kernel)))) rfl
theorem gm_197 : (Cond.lays R_Ma "SureFunctions$Machine" "answerSize" "I" : Cond) ∈ gw := gw_of (List.mem_append_right _ (List.mem_append_left _ (List.mem_of_getElem? (i := 33) (by decide +kernel)))) rfl
theorem gm_198 : (Cond.fieldLink R_Fu 14 "SureFunctions" "constructors" "LSureFunctions$Signatures;" : Cond) ∈ gw := gw_of (List.mem_append_right _ (List.mem_append_left _ (List.mem_of_getElem? (i := 36) (by decide +kernel)))) rfl
theorem gm_199 : (Cond.fieldLink R_Fu 18 "SureFunctions" "functions" "LSureFunctions$Signatures;" : Cond) ∈ gw := gw_of (List.mem_append_right _ (List.mem_append_left _ (List.mem_of_getElem? (i := 37) (by decide +kernel)))) rfl
theorem gm_200 : (Cond.fieldLink R_Fu 24 "SureFunctions" "terms" "LSureFunctions$Terms;" : Cond) ∈ gw := gw_of (List.mem_append_right _ (List.mem_append_left _ (List.mem_of_getElem? (i := 38) (by decide +kernel)))) rfl
theorem gm_201 : (Cond.fieldLink R_Fu 33 "SureFunctions" "clauses" "LSureFunctions$Clauses;" : Cond) ∈ gw := gw_of (List.mem_append_right _ (List.mem_append_left _ (List.mem_of_getElem? (i := 39) (by decide +kernel)))) rfl
theorem gm_202 : (Cond.fieldLink R_Fu 42 "SureFunctions" "typing" "LSureFunctions$Typing;" : Cond) ∈ gw := gw_of (List.mem_append_right _ (List.mem_append_left _ (List.mem_of_getElem? (i := 40) (by decide +kernel)))) rfl
theorem gm_203 : (Cond.fieldLink R_Fu 49 "SureFunctions" "coverage" "LSureFunctions$Coverage;" : Cond) ∈ gw := gw_of (List.mem_append_right _ (List.mem_append_left _ (List.mem_of_getElem? (i := 41) (by decide +kernel)))) rfl
theorem gm_204 : (Cond.fieldLink R_Fu 58 "SureFunctions" "ending" "LSureFunctions$Ending;" : Cond) ∈ gw := gw_of (List.mem_append_right _ (List.mem_append_left _ (List.mem_of_getElem? (i := 42) (by decide +kernel)))) rfl
theorem gm_205 : (Cond.fieldLink R_Fu 65 "SureFunctions" "machine" "LSureFunctions$Machine;" : Cond) ∈ gw := gw_of (List.mem_append_right _ (List.mem_append_left _ (List.mem_of_getElem? (i := 43) (by decide +kernel)))) rfl
theorem gm_206 : (Cond.fieldLink R_Fu 69 "SureFunctions" "verdict" "I" : Cond) ∈ gw := gw_of (List.mem_append_right _ (List.mem_append_left _ (List.mem_of_getElem? (i := 44) (by decide +kernel)))) rfl
theorem gm_207 : (Cond.fieldLink R_Fu 146 "SureFunctions" "graphsOfLatestCheck" "I" : Cond) ∈ gw := gw_of (List.mem_append_right _ (List.mem_append_left _ (List.mem_of_getElem? (i := 45) (by decide +kernel)))) rfl
theorem gm_208 : (Cond.laysFinal R_Fu "SureFunctions" "constructors" "LSureFunctions$Signatures;" : Cond) ∈ gw := gw_of (List.mem_append_right _ (List.mem_append_left _ (List.mem_of_getElem? (i := 46) (by decide +kernel)))) rfl
theorem gm_209 : (Cond.laysFinal R_Fu "SureFunctions" "functions" "LSureFunctions$Signatures;" : Cond) ∈ gw := gw_of (List.mem_append_right _ (List.mem_append_left _ (List.mem_of_getElem? (i := 48) (by decide +kernel)))) rfl
theorem gm_210 : (Cond.laysFinal R_Fu "SureFunctions" "terms" "LSureFunctions$Terms;" : Cond) ∈ gw := gw_of (List.mem_append_right _ (List.mem_append_left _ (List.mem_of_getElem? (i := 50) (by decide +kernel)))) rfl
theorem gm_211 : (Cond.laysFinal R_Fu "SureFunctions" "clauses" "LSureFunctions$Clauses;" : Cond) ∈ gw := gw_of (List.mem_append_right _ (List.mem_append_left _ (List.mem_of_getElem? (i := 52) (by decide +kernel)))) rfl
theorem gm_212 : (Cond.laysFinal R_Fu "SureFunctions" "typing" "LSureFunctions$Typing;" : Cond) ∈ gw := gw_of (List.mem_append_right _ (List.mem_append_left _ (List.mem_of_getElem? (i := 54) (by decide +kernel)))) rfl
theorem gm_213 : (Cond.laysFinal R_Fu "SureFunctions" "coverage" "LSureFunctions$Coverage;" : Cond) ∈ gw := gw_of (List.mem_append_right _ (List.mem_append_left _ (List.mem_of_getElem? (i := 56) (by decide +kernel)))) rfl
theorem gm_214 : (Cond.laysFinal R_Fu "SureFunctions" "ending" "LSureFunctions$Ending;" : Cond) ∈ gw := gw_of (List.mem_append_right _ (List.mem_append_left _ (List.mem_of_getElem? (i := 58) (by decide +kernel)))) rfl
theorem gm_215 : (Cond.laysFinal R_Fu "SureFunctions" "machine" "LSureFunctions$Machine;" : Cond) ∈ gw := gw_of (List.mem_append_right _ (List.mem_append_left _ (List.mem_of_getElem? (i := 60) (by decide +kernel)))) rfl
theorem gm_216 : (Cond.lays R_Fu "SureFunctions" "verdict" "I" : Cond) ∈ gw := gw_of (List.mem_append_right _ (List.mem_append_left _ (List.mem_of_getElem? (i := 62) (by decide +kernel)))) rfl
theorem gm_217 : (Cond.lays R_Fu "SureFunctions" "graphsOfLatestCheck" "I" : Cond) ∈ gw := gw_of (List.mem_append_right _ (List.mem_append_left _ (List.mem_of_getElem? (i := 64) (by decide +kernel)))) rfl
theorem gm_218 : (Cond.methodLink R_La 76 y_Fu_check : Cond) ∈ gw := gw_of (List.mem_append_right _ (List.mem_append_left _ (List.mem_of_getElem? (i := 67) (by decide +kernel)))) rfl
theorem gm_219 : (Cond.instanceMethod y_Fu_check : Cond) ∈ gw := gw_of (List.mem_append_right _ (List.mem_append_left _ (List.mem_of_getElem? (i := 68) (by decide +kernel)))) rfl
theorem gm_220 : (Cond.selects R_Fu y_Fu_check y_Fu_check : Cond) ∈ gw := gw_of (List.mem_append_right _ (List.mem_append_left _ (List.mem_of_getElem? (i := 69) (by decide +kernel)))) rfl
theorem gm_221 : (Cond.code y_Fu_check b_Fu_check 1 (some .int) : Cond) ∈ gw := gw_of (List.mem_append_right _ (List.mem_append_left _ (List.mem_of_getElem? (i := 70) (by decide +kernel)))) rfl
theorem gm_222 : (Cond.methodLink R_Fu 142 y_Fu_findWhatIsWrong : Cond) ∈ gw := gw_of (List.mem_append_right _ (List.mem_append_left _ (List.mem_of_getElem? (i := 71) (by decide +kernel)))) rfl
theorem gm_223 : (Cond.instanceMethod y_Fu_findWhatIsWrong : Cond) ∈ gw := gw_of (List.mem_append_right _ (List.mem_append_left _ (List.mem_of_getElem? (i := 73) (by decide +kernel)))) rfl
theorem gm_224 : (Cond.code y_Fu_findWhatIsWrong b_Fu_findWhatIsWrong 1 (some .int) : Cond) ∈ gw := gw_of (List.mem_append_right _ (List.mem_append_left _ (List.mem_of_getElem? (i := 74) (by decide +kernel)))) rfl
theorem gm_225 : (Cond.methodLink R_Fu 210 y_Ty_allInhabited : Cond) ∈ gw := gw_of (List.mem_append_right _ (List.mem_append_left _ (List.mem_of_getElem? (i := 75) (by decide +kernel)))) rfl
theorem gm_226 : (Cond.instanceMethod y_Ty_allInhabited : Cond) ∈ gw := gw_of (List.mem_append_right _ (List.mem_append_left _ (List.mem_of_getElem? (i := 76) (by decide +kernel)))) rfl
theorem gm_227 : (Cond.selects R_Ty y_Ty_allInhabited y_Ty_allInhabited : Cond) ∈ gw := gw_of (List.mem_append_right _ (List.mem_append_left _ (List.mem_of_getElem? (i := 77) (by decide +kernel)))) rfl
theorem gm_228 : (Cond.code y_Ty_allInhabited b_Ty_allInhabited 2 (some .boolean) : Cond) ∈ gw := gw_of (List.mem_append_right _ (List.mem_append_left _ (List.mem_of_getElem? (i := 78) (by decide +kernel)))) rfl
theorem gm_229 : (Cond.methodLink R_Ty 30 y_Sg_typesUsed : Cond) ∈ gw := gw_of (List.mem_append_right _ (List.mem_append_left _ (List.mem_of_getElem? (i := 79) (by decide +kernel)))) rfl
theorem gm_230 : (Cond.instanceMethod y_Sg_typesUsed : Cond) ∈ gw := gw_of (List.mem_append_right _ (List.mem_append_left _ (List.mem_of_getElem? (i := 80) (by decide +kernel)))) rfl
theorem gm_231 : (Cond.selects R_Sg y_Sg_typesUsed y_Sg_typesUsed : Cond) ∈ gw := gw_of (List.mem_append_right _ (List.mem_append_left _ (List.mem_of_getElem? (i := 81) (by decide +kernel)))) rfl
theorem gm_232 : (Cond.code y_Sg_typesUsed b_Sg_typesUsed 3 (some .int) : Cond) ∈ gw := gw_of (List.mem_append_right _ (List.mem_append_left _ (List.mem_of_getElem? (i := 82) (by decide +kernel)))) rfl
theorem gm_233 : (Cond.methodLink R_Sg 36 y_Sg_typesTaken : Cond) ∈ gw := gw_of (List.mem_append_right _ (List.mem_append_left _ (List.mem_of_getElem? (i := 83) (by decide +kernel)))) rfl
theorem gm_234 : (Cond.instanceMethod y_Sg_typesTaken : Cond) ∈ gw := gw_of (List.mem_append_right _ (List.mem_append_left _ (List.mem_of_getElem? (i := 84) (by decide +kernel)))) rfl
theorem gm_235 : (Cond.selects R_Sg y_Sg_typesTaken y_Sg_typesTaken : Cond) ∈ gw := gw_of (List.mem_append_right _ (List.mem_append_left _ (List.mem_of_getElem? (i := 85) (by decide +kernel)))) rfl
theorem gm_236 : (Cond.code y_Sg_typesTaken b_Sg_typesTaken 4 (some .int) : Cond) ∈ gw := gw_of (List.mem_append_right _ (List.mem_append_left _ (List.mem_of_getElem? (i := 86) (by decide +kernel)))) rfl
theorem gm_237 : (Cond.methodLink R_Ty 36 y_Ty_typesWithValues : Cond) ∈ gw := gw_of (List.mem_append_right _ (List.mem_append_left _ (List.mem_of_getElem? (i := 87) (by decide +kernel)))) rfl
theorem gm_238 : (Cond.instanceMethod y_Ty_typesWithValues : Cond) ∈ gw := gw_of (List.mem_append_right _ (List.mem_append_left _ (List.mem_of_getElem? (i := 89) (by decide +kernel)))) rfl
theorem gm_239 : (Cond.code y_Ty_typesWithValues b_Ty_typesWithValues 4 (some .int) : Cond) ∈ gw := gw_of (List.mem_append_right _ (List.mem_append_left _ (List.mem_of_getElem? (i := 90) (by decide +kernel)))) rfl
theorem gm_240 : (Cond.methodLink R_Ty 39 y_Sg_howMany : Cond) ∈ gw := gw_of (List.mem_append_right _ (List.mem_append_left _ (List.mem_of_getElem? (i := 91) (by decide +kernel)))) rfl
theorem gm_241 : (Cond.instanceMethod y_Sg_howMany : Cond) ∈ gw := gw_of (List.mem_append_right _ (List.mem_append_left _ (List.mem_of_getElem? (i := 92) (by decide +kernel)))) rfl
theorem gm_242 : (Cond.selects R_Sg y_Sg_howMany y_Sg_howMany : Cond) ∈ gw := gw_of (List.mem_append_right _ (List.mem_append_left _ (List.mem_of_getElem? (i := 93) (by decide +kernel)))) rfl
theorem gm_243 : (Cond.code y_Sg_howMany b_Sg_howMany 1 (some .int) : Cond) ∈ gw := gw_of (List.mem_append_right _ (List.mem_append_left _ (List.mem_of_getElem? (i := 94) (by decide +kernel)))) rfl
theorem gm_244 : (Cond.methodLink R_Ty 42 y_Sg_typesTaken : Cond) ∈ gw := gw_of (List.mem_append_right _ (List.mem_append_left _ (List.mem_of_getElem? (i := 95) (by decide +kernel)))) rfl
theorem gm_245 : (Cond.methodLink R_Ty 46 y_Sg_type : Cond) ∈ gw := gw_of (List.mem_append_right _ (List.mem_append_left _ (List.mem_of_getElem? (i := 96) (by decide +kernel)))) rfl
theorem gm_246 : (Cond.instanceMethod y_Sg_type : Cond) ∈ gw := gw_of (List.mem_append_right _ (List.mem_append_left _ (List.mem_of_getElem? (i := 97) (by decide +kernel)))) rfl
theorem gm_247 : (Cond.selects R_Sg y_Sg_type y_Sg_type : Cond) ∈ gw := gw_of (List.mem_append_right _ (List.mem_append_left _ (List.mem_of_getElem? (i := 98) (by decide +kernel)))) rfl
theorem gm_248 : (Cond.code y_Sg_type b_Sg_type 2 (some .int) : Cond) ∈ gw := gw_of (List.mem_append_right _ (List.mem_append_left _ (List.mem_of_getElem? (i := 99) (by decide +kernel)))) rfl
theorem gm_249 : (Cond.methodLink R_Fu 213 y_Ty_allTyped : Cond) ∈ gw := gw_of (List.mem_append_right _ (List.mem_append_left _ (List.mem_of_getElem? (i := 100) (by decide +kernel)))) rfl
theorem gm_250 : (Cond.instanceMethod y_Ty_allTyped : Cond) ∈ gw := gw_of (List.mem_append_right _ (List.mem_append_left _ (List.mem_of_getElem? (i := 101) (by decide +kernel)))) rfl
theorem gm_251 : (Cond.selects R_Ty y_Ty_allTyped y_Ty_allTyped : Cond) ∈ gw := gw_of (List.mem_append_right _ (List.mem_append_left _ (List.mem_of_getElem? (i := 102) (by decide +kernel)))) rfl
theorem gm_252 : (Cond.code y_Ty_allTyped b_Ty_allTyped 2 (some .boolean) : Cond) ∈ gw := gw_of (List.mem_append_right _ (List.mem_append_left _ (List.mem_of_getElem? (i := 103) (by decide +kernel)))) rfl
theorem gm_253 : (Cond.methodLink R_Ty 49 y_Cl_howMany : Cond) ∈ gw := gw_of (List.mem_append_right _ (List.mem_append_left _ (List.mem_of_getElem? (i := 104) (by decide +kernel)))) rfl
theorem gm_254 : (Cond.instanceMethod y_Cl_howMany : Cond) ∈ gw := gw_of (List.mem_append_right _ (List.mem_append_left _ (List.mem_of_getElem? (i := 105) (by decide +kernel)))) rfl
theorem gm_255 : (Cond.selects R_Cl y_Cl_howMany y_Cl_howMany : Cond) ∈ gw := gw_of (List.mem_append_right _ (List.mem_append_left _ (List.mem_of_getElem? (i := 106) (by decide +kernel)))) rfl
theorem gm_256 : (Cond.code y_Cl_howMany b_Cl_howMany 1 (some .int) : Cond) ∈ gw := gw_of (List.mem_append_right _ (List.mem_append_left _ (List.mem_of_getElem? (i := 107) (by decide +kernel)))) rfl
theorem gm_257 : (Cond.methodLink R_Ty 52 y_Ty_isTyped : Cond) ∈ gw := gw_of (List.mem_append_right _ (List.mem_append_left _ (List.mem_of_getElem? (i := 108) (by decide +kernel)))) rfl
theorem gm_258 : (Cond.instanceMethod y_Ty_isTyped : Cond) ∈ gw := gw_of (List.mem_append_right _ (List.mem_append_left _ (List.mem_of_getElem? (i := 110) (by decide +kernel)))) rfl
theorem gm_259 : (Cond.code y_Ty_isTyped b_Ty_isTyped 4 (some .boolean) : Cond) ∈ gw := gw_of (List.mem_append_right _ (List.mem_append_left _ (List.mem_of_getElem? (i := 111) (by decide +kernel)))) rfl
theorem gm_260 : (Cond.methodLink R_Ty 56 y_Cl_owner : Cond) ∈ gw := gw_of (List.mem_append_right _ (List.mem_append_left _ (List.mem_of_getElem? (i := 112) (by decide +kernel)))) rfl
theorem gm_261 : (Cond.instanceMethod y_Cl_owner : Cond) ∈ gw := gw_of (List.mem_append_right _ (List.mem_append_left _ (List.mem_of_getElem? (i := 113) (by decide +kernel)))) rfl
theorem gm_262 : (Cond.selects R_Cl y_Cl_owner y_Cl_owner : Cond) ∈ gw := gw_of (List.mem_append_right _ (List.mem_append_left _ (List.mem_of_getElem? (i := 114) (by decide +kernel)))) rfl
theorem gm_263 : (Cond.code y_Cl_owner b_Cl_owner 2 (some .int) : Cond) ∈ gw := gw_of (List.mem_append_right _ (List.mem_append_left _ (List.mem_of_getElem? (i := 115) (by decide +kernel)))) rfl
theorem gm_264 : (Cond.methodLink R_Ty 59 y_Sg_width : Cond) ∈ gw := gw_of (List.mem_append_right _ (List.mem_append_left _ (List.mem_of_getElem? (i := 116) (by decide +kernel)))) rfl
theorem gm_265 : (Cond.instanceMethod y_Sg_width : Cond) ∈ gw := gw_of (List.mem_append_right _ (List.mem_append_left _ (List.mem_of_getElem? (i := 117) (by decide +kernel)))) rfl
theorem gm_266 : (Cond.selects R_Sg y_Sg_width y_Sg_width : Cond) ∈ gw := gw_of (List.mem_append_right _ (List.mem_append_left _ (List.mem_of_getElem? (i := 118) (by decide +kernel)))) rfl
theorem gm_267 : (Cond.code y_Sg_width b_Sg_width 2 (some .int) : Cond) ∈ gw := gw_of (List.mem_append_right _ (List.mem_append_left _ (List.mem_of_getElem? (i := 119) (by decide +kernel)))) rfl
theorem gm_268 : (Cond.methodLink R_Ty 62 y_Cl_pattern : Cond) ∈ gw := gw_of (List.mem_append_right _ (List.mem_append_left _ (List.mem_of_getElem? (i := 120) (by decide +kernel)))) rfl
theorem gm_269 : (Cond.instanceMethod y_Cl_pattern : Cond) ∈ gw := gw_of (List.mem_append_right _ (List.mem_append_left _ (List.mem_of_getElem? (i := 121) (by decide +kernel)))) rfl
theorem gm_270 : (Cond.selects R_Cl y_Cl_pattern y_Cl_pattern : Cond) ∈ gw := gw_of (List.mem_append_right _ (List.mem_append_left _ (List.mem_of_getElem? (i := 122) (by decide +kernel)))) rfl
theorem gm_271 : (Cond.code y_Cl_pattern b_Cl_pattern 3 (some .int) : Cond) ∈ gw := gw_of (List.mem_append_right _ (List.mem_append_left _ (List.mem_of_getElem? (i := 123) (by decide +kernel)))) rfl
theorem gm_272 : (Cond.methodLink R_Ty 66 y_Sg_placeType : Cond) ∈ gw := gw_of (List.mem_append_right _ (List.mem_append_left _ (List.mem_of_getElem? (i := 124) (by decide +kernel)))) rfl
theorem gm_273 : (Cond.instanceMethod y_Sg_placeType : Cond) ∈ gw := gw_of (List.mem_append_right _ (List.mem_append_left _ (List.mem_of_getElem? (i := 125) (by decide +kernel)))) rfl
theorem gm_274 : (Cond.selects R_Sg y_Sg_placeType y_Sg_placeType : Cond) ∈ gw := gw_of (List.mem_append_right _ (List.mem_append_left _ (List.mem_of_getElem? (i := 126) (by decide +kernel)))) rfl
theorem gm_275 : (Cond.code y_Sg_placeType b_Sg_placeType 3 (some .int) : Cond) ∈ gw := gw_of (List.mem_append_right _ (List.mem_append_left _ (List.mem_of_getElem? (i := 127) (by decide +kernel)))) rfl
theorem gm_276 : (Cond.methodLink R_Ty 69 y_Ty_isPatternOfType : Cond) ∈ gw := gw_of (List.mem_append_right _ (List.mem_append_left _ (List.mem_of_getElem? (i := 128) (by decide +kernel)))) rfl
theorem gm_277 : (Cond.instanceMethod y_Ty_isPatternOfType : Cond) ∈ gw := gw_of (List.mem_append_right _ (List.mem_append_left _ (List.mem_of_getElem? (i := 130) (by decide +kernel)))) rfl
theorem gm_278 : (Cond.code y_Ty_isPatternOfType b_Ty_isPatternOfType 5 (some .boolean) : Cond) ∈ gw := gw_of (List.mem_append_right _ (List.mem_append_left _ (List.mem_of_getElem? (i := 131) (by decide +kernel)))) rfl
theorem gm_279 : (Cond.methodLink R_Ty 79 y_Te_isVariable : Cond) ∈ gw := gw_of (List.mem_append_right _ (List.mem_append_left _ (List.mem_of_getElem? (i := 132) (by decide +kernel)))) rfl
theorem gm_280 : (Cond.instanceMethod y_Te_isVariable : Cond) ∈ gw := gw_of (List.mem_append_right _ (List.mem_append_left _ (List.mem_of_getElem? (i := 133) (by decide +kernel)))) rfl
theorem gm_281 : (Cond.selects R_Te y_Te_isVariable y_Te_isVariable : Cond) ∈ gw := gw_of (List.mem_append_right _ (List.mem_append_left _ (List.mem_of_getElem? (i := 134) (by decide +kernel)))) rfl
theorem gm_282 : (Cond.code y_Te_isVariable b_Te_isVariable 2 (some .boolean) : Cond) ∈ gw := gw_of (List.mem_append_right _ (List.mem_append_left _ (List.mem_of_getElem? (i := 135) (by decide +kernel)))) rfl
theorem gm_283 : (Cond.methodLink R_Ty 84 y_Te_head : Cond) ∈ gw := gw_of (List.mem_append_right _ (List.mem_append_left _ (List.mem_of_getElem? (i := 136) (by decide +kernel)))) rfl
theorem gm_284 : (Cond.instanceMethod y_Te_head : Cond) ∈ gw := gw_of (List.mem_append_right _ (List.mem_append_left _ (List.mem_of_getElem? (i := 137) (by decide +kernel)))) rfl
theorem gm_285 : (Cond.selects R_Te y_Te_head y_Te_head : Cond) ∈ gw := gw_of (List.mem_append_right _ (List.mem_append_left _ (List.mem_of_getElem? (i := 138) (by decide +kernel)))) rfl
theorem gm_286 : (Cond.code y_Te_head b_Te_head 2 (some .int) : Cond) ∈ gw := gw_of (List.mem_append_right _ (List.mem_append_left _ (List.mem_of_getElem? (i := 139) (by decide +kernel)))) rfl
theorem gm_287 : (Cond.methodLink R_Ty 87 y_Te_width : Cond) ∈ gw := gw_of (List.mem_append_right _ (List.mem_append_left _ (List.mem_of_getElem? (i := 140) (by decide +kernel)))) rfl
theorem gm_288 : (Cond.instanceMethod y_Te_width : Cond) ∈ gw := gw_of (List.mem_append_right _ (List.mem_append_left _ (List.mem_of_getElem? (i := 141) (by decide +kernel)))) rfl
theorem gm_289 : (Cond.selects R_Te y_Te_width y_Te_width : Cond) ∈ gw := gw_of (List.mem_append_right _ (List.mem_append_left _ (List.mem_of_getElem? (i := 142) (by decide +kernel)))) rfl
theorem gm_290 : (Cond.code y_Te_width b_Te_width 2 (some .int) : Cond) ∈ gw := gw_of (List.mem_append_right _ (List.mem_append_left _ (List.mem_of_getElem? (i := 143) (by decide +kernel)))) rfl
theorem gm_291 : (Cond.methodLink R_Ty 88 y_Te_part : Cond) ∈ gw := gw_of (List.mem_append_right _ (List.mem_append_left _ (List.mem_of_getElem? (i := 144) (by decide +kernel)))) rfl
theorem gm_292 : (Cond.instanceMethod y_Te_part : Cond) ∈ gw := gw_of (List.mem_append_right _ (List.mem_append_left _ (List.mem_of_getElem? (i := 145) (by decide +kernel)))) rfl
theorem gm_293 : (Cond.selects R_Te y_Te_part y_Te_part : Cond) ∈ gw := gw_of (List.mem_append_right _ (List.mem_append_left _ (List.mem_of_getElem? (i := 146) (by decide +kernel)))) rfl
theorem gm_294 : (Cond.code y_Te_part b_Te_part 3 (some .int) : Cond) ∈ gw := gw_of (List.mem_append_right _ (List.mem_append_left _ (List.mem_of_getElem? (i := 147) (by decide +kernel)))) rfl
theorem gm_295 : (Cond.methodLink R_Ty 73 y_Cl_body : Cond) ∈ gw := gw_of (List.mem_append_right _ (List.mem_append_left _ (List.mem_of_getElem? (i := 148) (by decide +kernel)))) rfl
theorem gm_296 : (Cond.instanceMethod y_Cl_body : Cond) ∈ gw := gw_of (List.mem_append_right _ (List.mem_append_left _ (List.mem_of_getElem? (i := 149) (by decide +kernel)))) rfl
theorem gm_297 : (Cond.selects R_Cl y_Cl_body y_Cl_body : Cond) ∈ gw := gw_of (List.mem_append_right _ (List.mem_append_left _ (List.mem_of_getElem? (i := 150) (by decide +kernel)))) rfl
theorem gm_298 : (Cond.code y_Cl_body b_Cl_body 2 (some .int) : Cond) ∈ gw := gw_of (List.mem_append_right _ (List.mem_append_left _ (List.mem_of_getElem? (i := 151) (by decide +kernel)))) rfl
theorem gm_299 : (Cond.methodLink R_Ty 76 y_Ty_isOfType : Cond) ∈ gw := gw_of (List.mem_append_right _ (List.mem_append_left _ (List.mem_of_getElem? (i := 152) (by decide +kernel)))) rfl
theorem gm_300 : (Cond.instanceMethod y_Ty_isOfType : Cond) ∈ gw := gw_of (List.mem_append_right _ (List.mem_append_left _ (List.mem_of_getElem? (i := 154) (by decide +kernel)))) rfl
theorem gm_301 : (Cond.code y_Ty_isOfType b_Ty_isOfType 6 (some .boolean) : Cond) ∈ gw := gw_of (List.mem_append_right _ (List.mem_append_left _ (List.mem_of_getElem? (i := 155) (by decide +kernel)))) rfl
theorem gm_302 : (Cond.methodLink R_Ty 94 y_Te_isMade : Cond) ∈ gw := gw_of (List.mem_append_right _ (List.mem_append_left _ (List.mem_of_getElem? (i := 156) (by decide +kernel)))) rfl
theorem gm_303 : (Cond.instanceMethod y_Te_isMade : Cond) ∈ gw := gw_of (List.mem_append_right _ (List.mem_append_left _ (List.mem_of_getElem? (i := 157) (by decide +kernel)))) rfl
theorem gm_304 : (Cond.selects R_Te y_Te_isMade y_Te_isMade : Cond) ∈ gw := gw_of (List.mem_append_right _ (List.mem_append_left _ (List.mem_of_getElem? (i := 158) (by decide +kernel)))) rfl
theorem gm_305 : (Cond.code y_Te_isMade b_Te_isMade 2 (some .boolean) : Cond) ∈ gw := gw_of (List.mem_append_right _ (List.mem_append_left _ (List.mem_of_getElem? (i := 159) (by decide +kernel)))) rfl
theorem gm_306 : (Cond.methodLink R_Fu 216 y_Co_allCovered : Cond) ∈ gw := gw_of (List.mem_append_right _ (List.mem_append_left _ (List.mem_of_getElem? (i := 160) (by decide +kernel)))) rfl
theorem gm_307 : (Cond.instanceMethod y_Co_allCovered : Cond) ∈ gw := gw_of (List.mem_append_right _ (List.mem_append_left _ (List.mem_of_getElem? (i := 161) (by decide +kernel)))) rfl
theorem gm_308 : (Cond.selects R_Co y_Co_allCovered y_Co_allCovered : Cond) ∈ gw := gw_of (List.mem_append_right _ (List.mem_append_left _ (List.mem_of_getElem? (i := 162) (by decide +kernel)))) rfl
theorem gm_309 : (Cond.code y_Co_allCovered b_Co_allCovered 3 (some .boolean) : Cond) ∈ gw := gw_of (List.mem_append_right _ (List.mem_append_left _ (List.mem_of_getElem? (i := 163) (by decide +kernel)))) rfl
theorem gm_310 : (Cond.methodLink R_Co 33 y_Sg_howMany : Cond) ∈ gw := gw_of (List.mem_append_right _ (List.mem_append_left _ (List.mem_of_getElem? (i := 164) (by decide +kernel)))) rfl
theorem gm_311 : (Cond.methodLink R_Co 39 y_Co_readPatterns : Cond) ∈ gw := gw_of (List.mem_append_right _ (List.mem_append_left _ (List.mem_of_getElem? (i := 165) (by decide +kernel)))) rfl
theorem gm_312 : (Cond.instanceMethod y_Co_readPatterns : Cond) ∈ gw := gw_of (List.mem_append_right _ (List.mem_append_left _ (List.mem_of_getElem? (i := 167) (by decide +kernel)))) rfl
theorem gm_313 : (Cond.code y_Co_readPatterns b_Co_readPatterns 5 none : Cond) ∈ gw := gw_of (List.mem_append_right _ (List.mem_append_left _ (List.mem_of_getElem? (i := 168) (by decide +kernel)))) rfl
theorem gm_314 : (Cond.methodLink R_Co 47 y_Cl_howManyOf : Cond) ∈ gw := gw_of (List.mem_append_right _ (List.mem_append_left _ (List.mem_of_getElem? (i := 169) (by decide +kernel)))) rfl
theorem gm_315 : (Cond.instanceMethod y_Cl_howManyOf : Cond) ∈ gw := gw_of (List.mem_append_right _ (List.mem_append_left _ (List.mem_of_getElem? (i := 170) (by decide +kernel)))) rfl
theorem gm_316 : (Cond.selects R_Cl y_Cl_howManyOf y_Cl_howManyOf : Cond) ∈ gw := gw_of (List.mem_append_right _ (List.mem_append_left _ (List.mem_of_getElem? (i := 171) (by decide +kernel)))) rfl
theorem gm_317 : (Cond.code y_Cl_howManyOf b_Cl_howManyOf 2 (some .int) : Cond) ∈ gw := gw_of (List.mem_append_right _ (List.mem_append_left _ (List.mem_of_getElem? (i := 172) (by decide +kernel)))) rfl
theorem gm_318 : (Cond.methodLink R_Co 53 y_Cl_ofFunction : Cond) ∈ gw := gw_of (List.mem_append_right _ (List.mem_append_left _ (List.mem_of_getElem? (i := 173) (by decide +kernel)))) rfl
theorem gm_319 : (Cond.instanceMethod y_Cl_ofFunction : Cond) ∈ gw := gw_of (List.mem_append_right _ (List.mem_append_left _ (List.mem_of_getElem? (i := 174) (by decide +kernel)))) rfl
theorem gm_320 : (Cond.selects R_Cl y_Cl_ofFunction y_Cl_ofFunction : Cond) ∈ gw := gw_of (List.mem_append_right _ (List.mem_append_left _ (List.mem_of_getElem? (i := 175) (by decide +kernel)))) rfl
theorem gm_321 : (Cond.code y_Cl_ofFunction b_Cl_ofFunction 3 (some .int) : Cond) ∈ gw := gw_of (List.mem_append_right _ (List.mem_append_left _ (List.mem_of_getElem? (i := 176) (by decide +kernel)))) rfl
theorem gm_322 : (Cond.methodLink R_Co 57 y_Sg_width : Cond) ∈ gw := gw_of (List.mem_append_right _ (List.mem_append_left _ (List.mem_of_getElem? (i := 177) (by decide +kernel)))) rfl
theorem gm_323 : (Cond.methodLink R_Co 60 y_Cl_pattern : Cond) ∈ gw := gw_of (List.mem_append_right _ (List.mem_append_left _ (List.mem_of_getElem? (i := 178) (by decide +kernel)))) rfl
theorem gm_324 : (Cond.methodLink R_Co 63 y_Co_readPattern : Cond) ∈ gw := gw_of (List.mem_append_right _ (List.mem_append_left _ (List.mem_of_getElem? (i := 179) (by decide +kernel)))) rfl
theorem gm_325 : (Cond.instanceMethod y_Co_readPattern : Cond) ∈ gw := gw_of (List.mem_append_right _ (List.mem_append_left _ (List.mem_of_getElem? (i := 181) (by decide +kernel)))) rfl
theorem gm_326 : (Cond.code y_Co_readPattern b_Co_readPattern 5 none : Cond) ∈ gw := gw_of (List.mem_append_right _ (List.mem_append_left _ (List.mem_of_getElem? (i := 182) (by decide +kernel)))) rfl
theorem gm_327 : (Cond.methodLink R_Co 67 y_Te_isMade : Cond) ∈ gw := gw_of (List.mem_append_right _ (List.mem_append_left _ (List.mem_of_getElem? (i := 183) (by decide +kernel)))) rfl
theorem gm_328 : (Cond.methodLink R_Co 73 y_Te_head : Cond) ∈ gw := gw_of (List.mem_append_right _ (List.mem_append_left _ (List.mem_of_getElem? (i := 184) (by decide +kernel)))) rfl
theorem gm_329 : (Cond.methodLink R_Co 76 y_Te_width : Cond) ∈ gw := gw_of (List.mem_append_right _ (List.mem_append_left _ (List.mem_of_getElem? (i := 185) (by decide +kernel)))) rfl
theorem gm_330 : (Cond.methodLink R_Co 77 y_Te_part : Cond) ∈ gw := gw_of (List.mem_append_right _ (List.mem_append_left _ (List.mem_of_getElem? (i := 186) (by decide +kernel)))) rfl
theorem gm_331 : (Cond.methodLink R_Co 43 y_Co_isCovered : Cond) ∈ gw := gw_of (List.mem_append_right _ (List.mem_append_left _ (List.mem_of_getElem? (i := 187) (by decide +kernel)))) rfl
theorem gm_332 : (Cond.instanceMethod y_Co_isCovered : Cond) ∈ gw := gw_of (List.mem_append_right _ (List.mem_append_left _ (List.mem_of_getElem? (i := 189) (by decide +kernel)))) rfl
theorem gm_333 : (Cond.code y_Co_isCovered b_Co_isCovered 7 (some .boolean) : Cond) ∈ gw := gw_of (List.mem_append_right _ (List.mem_append_left _ (List.mem_of_getElem? (i := 190) (by decide +kernel)))) rfl
theorem gm_334 : (Cond.methodLink R_Co 80 y_Co_compare : Cond) ∈ gw := gw_of (List.mem_append_right _ (List.mem_append_left _ (List.mem_of_getElem? (i := 191) (by decide +kernel)))) rfl
theorem gm_335 : (Cond.instanceMethod y_Co_compare : Cond) ∈ gw := gw_of (List.mem_append_right _ (List.mem_append_left _ (List.mem_of_getElem? (i := 193) (by decide +kernel)))) rfl
theorem gm_336 : (Cond.code y_Co_compare b_Co_compare 5 (some .int) : Cond) ∈ gw := gw_of (List.mem_append_right _ (List.mem_append_left _ (List.mem_of_getElem? (i := 194) (by decide +kernel)))) rfl
theorem gm_337 : (Cond.methodLink R_Co 83 y_Jm_min : Cond) ∈ gw := gw_of (List.mem_append_right _ (List.mem_append_left _ (List.mem_of_getElem? (i := 195) (by decide +kernel)))) rfl
theorem gm_338 : (Cond.static y_Jm_min : Cond) ∈ gw := gw_of (List.mem_append_right _ (List.mem_append_left _ (List.mem_of_getElem? (i := 196) (by decide +kernel)))) rfl
theorem gm_339 : (Cond.code y_Jm_min b_Jm_min 2 (some .int) : Cond) ∈ gw := gw_of (List.mem_append_right _ (List.mem_append_left _ (List.mem_of_getElem? (i := 197) (by decide +kernel)))) rfl
theorem gm_340 : (Cond.methodLink R_Co 88 y_Co_isCoveredWhenSplit : Cond) ∈ gw := gw_of (List.mem_append_right _ (List.mem_append_left _ (List.mem_of_getElem? (i := 198) (by decide +kernel)))) rfl
theorem gm_341 : (Cond.instanceMethod y_Co_isCoveredWhenSplit : Cond) ∈ gw := gw_of (List.mem_append_right _ (List.mem_append_left _ (List.mem_of_getElem? (i := 200) (by decide +kernel)))) rfl
theorem gm_342 : (Cond.code y_Co_isCoveredWhenSplit b_Co_isCoveredWhenSplit 8 (some .boolean) : Cond) ∈ gw := gw_of (List.mem_append_right _ (List.mem_append_left _ (List.mem_of_getElem? (i := 201) (by decide +kernel)))) rfl
theorem gm_343 : (Cond.methodLink R_Co 92 y_Co_slotType : Cond) ∈ gw := gw_of (List.mem_append_right _ (List.mem_append_left _ (List.mem_of_getElem? (i := 202) (by decide +kernel)))) rfl
theorem gm_344 : (Cond.instanceMethod y_Co_slotType : Cond) ∈ gw := gw_of (List.mem_append_right _ (List.mem_append_left _ (List.mem_of_getElem? (i := 204) (by decide +kernel)))) rfl
theorem gm_345 : (Cond.code y_Co_slotType b_Co_slotType 6 (some .int) : Cond) ∈ gw := gw_of (List.mem_append_right _ (List.mem_append_left _ (List.mem_of_getElem? (i := 205) (by decide +kernel)))) rfl
theorem gm_346 : (Cond.methodLink R_Co 106 y_Sg_placeType : Cond) ∈ gw := gw_of (List.mem_append_right _ (List.mem_append_left _ (List.mem_of_getElem? (i := 206) (by decide +kernel)))) rfl
theorem gm_347 : (Cond.methodLink R_Co 95 y_Co_constructorThatNoneNames : Cond) ∈ gw := gw_of (List.mem_append_right _ (List.mem_append_left _ (List.mem_of_getElem? (i := 207) (by decide +kernel)))) rfl
theorem gm_348 : (Cond.instanceMethod y_Co_constructorThatNoneNames : Cond) ∈ gw := gw_of (List.mem_append_right _ (List.mem_append_left _ (List.mem_of_getElem? (i := 209) (by decide +kernel)))) rfl
theorem gm_349 : (Cond.code y_Co_constructorThatNoneNames b_Co_constructorThatNoneNames 5 (some .int) : Cond) ∈ gw := gw_of (List.mem_append_right _ (List.mem_append_left _ (List.mem_of_getElem? (i := 210) (by decide +kernel)))) rfl
theorem gm_350 : (Cond.methodLink R_Co 99 y_Sg_type : Cond) ∈ gw := gw_of (List.mem_append_right _ (List.mem_append_left _ (List.mem_of_getElem? (i := 211) (by decide +kernel)))) rfl
theorem gm_351 : (Cond.methodLink R_Co 102 y_Co_isNamed : Cond) ∈ gw := gw_of (List.mem_append_right _ (List.mem_append_left _ (List.mem_of_getElem? (i := 212) (by decide +kernel)))) rfl
theorem gm_352 : (Cond.instanceMethod y_Co_isNamed : Cond) ∈ gw := gw_of (List.mem_append_right _ (List.mem_append_left _ (List.mem_of_getElem? (i := 214) (by decide +kernel)))) rfl
theorem gm_353 : (Cond.code y_Co_isNamed b_Co_isNamed 5 (some .boolean) : Cond) ∈ gw := gw_of (List.mem_append_right _ (List.mem_append_left _ (List.mem_of_getElem? (i := 215) (by decide +kernel)))) rfl
theorem gm_354 : (Cond.methodLink R_Fu 219 y_En_makeGraphs : Cond) ∈ gw := gw_of (List.mem_append_right _ (List.mem_append_left _ (List.mem_of_getElem? (i := 216) (by decide +kernel)))) rfl
theorem gm_355 : (Cond.instanceMethod y_En_makeGraphs : Cond) ∈ gw := gw_of (List.mem_append_right _ (List.mem_append_left _ (List.mem_of_getElem? (i := 217) (by decide +kernel)))) rfl
theorem gm_356 : (Cond.selects R_En y_En_makeGraphs y_En_makeGraphs : Cond) ∈ gw := gw_of (List.mem_append_right _ (List.mem_append_left _ (List.mem_of_getElem? (i := 218) (by decide +kernel)))) rfl
theorem gm_357 : (Cond.code y_En_makeGraphs b_En_makeGraphs 3 (some .int) : Cond) ∈ gw := gw_of (List.mem_append_right _ (List.mem_append_left _ (List.mem_of_getElem? (i := 219) (by decide +kernel)))) rfl
theorem gm_358 : (Cond.methodLink R_En 86 y_Cl_howMany : Cond) ∈ gw := gw_of (List.mem_append_right _ (List.mem_append_left _ (List.mem_of_getElem? (i := 220) (by decide +kernel)))) rfl
theorem gm_359 : (Cond.methodLink R_En 33 y_En_collectCalls : Cond) ∈ gw := gw_of (List.mem_append_right _ (List.mem_append_left _ (List.mem_of_getElem? (i := 221) (by decide +kernel)))) rfl
theorem gm_360 : (Cond.instanceMethod y_En_collectCalls : Cond) ∈ gw := gw_of (List.mem_append_right _ (List.mem_append_left _ (List.mem_of_getElem? (i := 223) (by decide +kernel)))) rfl
theorem gm_361 : (Cond.code y_En_collectCalls b_En_collectCalls 2 none : Cond) ∈ gw := gw_of (List.mem_append_right _ (List.mem_append_left _ (List.mem_of_getElem? (i := 224) (by decide +kernel)))) rfl
theorem gm_362 : (Cond.methodLink R_En 41 y_Cl_body : Cond) ∈ gw := gw_of (List.mem_append_right _ (List.mem_append_left _ (List.mem_of_getElem? (i := 225) (by decide +kernel)))) rfl
theorem gm_363 : (Cond.methodLink R_En 47 y_En_collectCallsIn : Cond) ∈ gw := gw_of (List.mem_append_right _ (List.mem_append_left _ (List.mem_of_getElem? (i := 226) (by decide +kernel)))) rfl
theorem gm_364 : (Cond.instanceMethod y_En_collectCallsIn : Cond) ∈ gw := gw_of (List.mem_append_right _ (List.mem_append_left _ (List.mem_of_getElem? (i := 228) (by decide +kernel)))) rfl
theorem gm_365 : (Cond.code y_En_collectCallsIn b_En_collectCallsIn 3 none : Cond) ∈ gw := gw_of (List.mem_append_right _ (List.mem_append_left _ (List.mem_of_getElem? (i := 229) (by decide +kernel)))) rfl
theorem gm_366 : (Cond.methodLink R_En 50 y_Te_isCalled : Cond) ∈ gw := gw_of (List.mem_append_right _ (List.mem_append_left _ (List.mem_of_getElem? (i := 230) (by decide +kernel)))) rfl
theorem gm_367 : (Cond.instanceMethod y_Te_isCalled : Cond) ∈ gw := gw_of (List.mem_append_right _ (List.mem_append_left _ (List.mem_of_getElem? (i := 231) (by decide +kernel)))) rfl
theorem gm_368 : (Cond.selects R_Te y_Te_isCalled y_Te_isCalled : Cond) ∈ gw := gw_of (List.mem_append_right _ (List.mem_append_left _ (List.mem_of_getElem? (i := 232) (by decide +kernel)))) rfl
theorem gm_369 : (Cond.code y_Te_isCalled b_Te_isCalled 2 (some .boolean) : Cond) ∈ gw := gw_of (List.mem_append_right _ (List.mem_append_left _ (List.mem_of_getElem? (i := 233) (by decide +kernel)))) rfl
theorem gm_370 : (Cond.methodLink R_En 56 y_Te_width : Cond) ∈ gw := gw_of (List.mem_append_right _ (List.mem_append_left _ (List.mem_of_getElem? (i := 234) (by decide +kernel)))) rfl
theorem gm_371 : (Cond.methodLink R_En 59 y_Te_part : Cond) ∈ gw := gw_of (List.mem_append_right _ (List.mem_append_left _ (List.mem_of_getElem? (i := 235) (by decide +kernel)))) rfl
theorem gm_372 : (Cond.methodLink R_En 90 y_En_graphOf : Cond) ∈ gw := gw_of (List.mem_append_right _ (List.mem_append_left _ (List.mem_of_getElem? (i := 236) (by decide +kernel)))) rfl
theorem gm_373 : (Cond.instanceMethod y_En_graphOf : Cond) ∈ gw := gw_of (List.mem_append_right _ (List.mem_append_left _ (List.mem_of_getElem? (i := 238) (by decide +kernel)))) rfl
theorem gm_374 : (Cond.code y_En_graphOf b_En_graphOf 10 (some .int) : Cond) ∈ gw := gw_of (List.mem_append_right _ (List.mem_append_left _ (List.mem_of_getElem? (i := 239) (by decide +kernel)))) rfl
theorem gm_375 : (Cond.methodLink R_En 108 y_Cl_owner : Cond) ∈ gw := gw_of (List.mem_append_right _ (List.mem_append_right _ (List.mem_append_left _ (List.mem_of_getElem? (i := 0) (by decide +kernel))))) rfl
theorem gm_376 : (Cond.methodLink R_En 111 y_Sg_width : Cond) ∈ gw := gw_of (List.mem_append_right _ (List.mem_append_right _ (List.mem_append_left _ (List.mem_of_getElem? (i := 1) (by decide +kernel))))) rfl
theorem gm_377 : (Cond.methodLink R_En 114 y_Cl_pattern : Cond) ∈ gw := gw_of (List.mem_append_right _ (List.mem_append_right _ (List.mem_append_left _ (List.mem_of_getElem? (i := 2) (by decide +kernel))))) rfl
theorem gm_378 : (Cond.methodLink R_En 117 y_En_arcBetween : Cond) ∈ gw := gw_of (List.mem_append_right _ (List.mem_append_right _ (List.mem_append_left _ (List.mem_of_getElem? (i := 3) (by decide +kernel))))) rfl
theorem gm_379 : (Cond.instanceMethod y_En_arcBetween : Cond) ∈ gw := gw_of (List.mem_append_right _ (List.mem_append_right _ (List.mem_append_left _ (List.mem_of_getElem? (i := 4) (by decide +kernel))))) rfl
theorem gm_380 : (Cond.selects R_En y_En_arcBetween y_En_arcBetween : Cond) ∈ gw := gw_of (List.mem_append_right _ (List.mem_append_right _ (List.mem_append_left _ (List.mem_of_getElem? (i := 5) (by decide +kernel))))) rfl
theorem gm_381 : (Cond.code y_En_arcBetween b_En_arcBetween 3 (some .int) : Cond) ∈ gw := gw_of (List.mem_append_right _ (List.mem_append_right _ (List.mem_append_left _ (List.mem_of_getElem? (i := 6) (by decide +kernel))))) rfl
theorem gm_382 : (Cond.methodLink R_En 63 y_En_isSame : Cond) ∈ gw := gw_of (List.mem_append_right _ (List.mem_append_right _ (List.mem_append_left _ (List.mem_of_getElem? (i := 7) (by decide +kernel))))) rfl
theorem gm_383 : (Cond.instanceMethod y_En_isSame : Cond) ∈ gw := gw_of (List.mem_append_right _ (List.mem_append_right _ (List.mem_append_left _ (List.mem_of_getElem? (i := 9) (by decide +kernel))))) rfl
theorem gm_384 : (Cond.code y_En_isSame b_En_isSame 4 (some .boolean) : Cond) ∈ gw := gw_of (List.mem_append_right _ (List.mem_append_right _ (List.mem_append_left _ (List.mem_of_getElem? (i := 10) (by decide +kernel))))) rfl
theorem gm_385 : (Cond.methodLink R_En 70 y_Te_isVariable : Cond) ∈ gw := gw_of (List.mem_append_right _ (List.mem_append_right _ (List.mem_append_left _ (List.mem_of_getElem? (i := 11) (by decide +kernel))))) rfl
theorem gm_386 : (Cond.methodLink R_En 73 y_Te_head : Cond) ∈ gw := gw_of (List.mem_append_right _ (List.mem_append_right _ (List.mem_append_left _ (List.mem_of_getElem? (i := 12) (by decide +kernel))))) rfl
theorem gm_387 : (Cond.methodLink R_En 76 y_Te_isMade : Cond) ∈ gw := gw_of (List.mem_append_right _ (List.mem_append_right _ (List.mem_append_left _ (List.mem_of_getElem? (i := 13) (by decide +kernel))))) rfl
theorem gm_388 : (Cond.methodLink R_En 67 y_En_isInside : Cond) ∈ gw := gw_of (List.mem_append_right _ (List.mem_append_right _ (List.mem_append_left _ (List.mem_of_getElem? (i := 14) (by decide +kernel))))) rfl
theorem gm_389 : (Cond.instanceMethod y_En_isInside : Cond) ∈ gw := gw_of (List.mem_append_right _ (List.mem_append_right _ (List.mem_append_left _ (List.mem_of_getElem? (i := 16) (by decide +kernel))))) rfl
theorem gm_390 : (Cond.code y_En_isInside b_En_isInside 5 (some .boolean) : Cond) ∈ gw := gw_of (List.mem_append_right _ (List.mem_append_right _ (List.mem_append_left _ (List.mem_of_getElem? (i := 17) (by decide +kernel))))) rfl
theorem gm_391 : (Cond.methodLink R_En 120 y_En_code : Cond) ∈ gw := gw_of (List.mem_append_right _ (List.mem_append_right _ (List.mem_append_left _ (List.mem_of_getElem? (i := 18) (by decide +kernel))))) rfl
theorem gm_392 : (Cond.static y_En_code : Cond) ∈ gw := gw_of (List.mem_append_right _ (List.mem_append_right _ (List.mem_append_left _ (List.mem_of_getElem? (i := 19) (by decide +kernel))))) rfl
theorem gm_393 : (Cond.code y_En_code b_En_code 5 (some .int) : Cond) ∈ gw := gw_of (List.mem_append_right _ (List.mem_append_right _ (List.mem_append_left _ (List.mem_of_getElem? (i := 20) (by decide +kernel))))) rfl
theorem gm_394 : (Cond.methodLink R_En 93 y_En_addGraph : Cond) ∈ gw := gw_of (List.mem_append_right _ (List.mem_append_right _ (List.mem_append_left _ (List.mem_of_getElem? (i := 21) (by decide +kernel))))) rfl
theorem gm_395 : (Cond.instanceMethod y_En_addGraph : Cond) ∈ gw := gw_of (List.mem_append_right _ (List.mem_append_right _ (List.mem_append_left _ (List.mem_of_getElem? (i := 23) (by decide +kernel))))) rfl
theorem gm_396 : (Cond.code y_En_addGraph b_En_addGraph 4 none : Cond) ∈ gw := gw_of (List.mem_append_right _ (List.mem_append_right _ (List.mem_append_left _ (List.mem_of_getElem? (i := 24) (by decide +kernel))))) rfl
theorem gm_397 : (Cond.constant R_En (124 : Nat) (-1640531535 : Int32) : Cond) ∈ gw := gw_of (List.mem_append_right _ (List.mem_append_right _ (List.mem_append_left _ (List.mem_of_getElem? (i := 25) (by decide +kernel))))) rfl
theorem gm_398 : (Cond.methodLink R_En 96 y_En_addCompositions : Cond) ∈ gw := gw_of (List.mem_append_right _ (List.mem_append_right _ (List.mem_append_left _ (List.mem_of_getElem? (i := 26) (by decide +kernel))))) rfl
theorem gm_399 : (Cond.instanceMethod y_En_addCompositions : Cond) ∈ gw := gw_of (List.mem_append_right _ (List.mem_append_right _ (List.mem_append_left _ (List.mem_of_getElem? (i := 28) (by decide +kernel))))) rfl
theorem gm_400 : (Cond.code y_En_addCompositions b_En_addCompositions 4 none : Cond) ∈ gw := gw_of (List.mem_append_right _ (List.mem_append_right _ (List.mem_append_left _ (List.mem_of_getElem? (i := 29) (by decide +kernel))))) rfl
theorem gm_401 : (Cond.methodLink R_En 99 y_En_to : Cond) ∈ gw := gw_of (List.mem_append_right _ (List.mem_append_right _ (List.mem_append_left _ (List.mem_of_getElem? (i := 30) (by decide +kernel))))) rfl
theorem gm_402 : (Cond.static y_En_to : Cond) ∈ gw := gw_of (List.mem_append_right _ (List.mem_append_right _ (List.mem_append_left _ (List.mem_of_getElem? (i := 31) (by decide +kernel))))) rfl
theorem gm_403 : (Cond.code y_En_to b_En_to 1 (some .int) : Cond) ∈ gw := gw_of (List.mem_append_right _ (List.mem_append_right _ (List.mem_append_left _ (List.mem_of_getElem? (i := 32) (by decide +kernel))))) rfl
theorem gm_404 : (Cond.methodLink R_En 102 y_En_from : Cond) ∈ gw := gw_of (List.mem_append_right _ (List.mem_append_right _ (List.mem_append_left _ (List.mem_of_getElem? (i := 33) (by decide +kernel))))) rfl
theorem gm_405 : (Cond.static y_En_from : Cond) ∈ gw := gw_of (List.mem_append_right _ (List.mem_append_right _ (List.mem_append_left _ (List.mem_of_getElem? (i := 34) (by decide +kernel))))) rfl
theorem gm_406 : (Cond.code y_En_from b_En_from 1 (some .int) : Cond) ∈ gw := gw_of (List.mem_append_right _ (List.mem_append_right _ (List.mem_append_left _ (List.mem_of_getElem? (i := 35) (by decide +kernel))))) rfl
theorem gm_407 : (Cond.methodLink R_En 105 y_En_compose : Cond) ∈ gw := gw_of (List.mem_append_right _ (List.mem_append_right _ (List.mem_append_left _ (List.mem_of_getElem? (i := 36) (by decide +kernel))))) rfl
theorem gm_408 : (Cond.static y_En_compose : Cond) ∈ gw := gw_of (List.mem_append_right _ (List.mem_append_right _ (List.mem_append_left _ (List.mem_of_getElem? (i := 37) (by decide +kernel))))) rfl
theorem gm_409 : (Cond.code y_En_compose b_En_compose 9 (some .int) : Cond) ∈ gw := gw_of (List.mem_append_right _ (List.mem_append_right _ (List.mem_append_left _ (List.mem_of_getElem? (i := 38) (by decide +kernel))))) rfl
theorem gm_410 : (Cond.methodLink R_En 125 y_En_arcs : Cond) ∈ gw := gw_of (List.mem_append_right _ (List.mem_append_right _ (List.mem_append_left _ (List.mem_of_getElem? (i := 39) (by decide +kernel))))) rfl
theorem gm_411 : (Cond.static y_En_arcs : Cond) ∈ gw := gw_of (List.mem_append_right _ (List.mem_append_right _ (List.mem_append_left _ (List.mem_of_getElem? (i := 40) (by decide +kernel))))) rfl
theorem gm_412 : (Cond.code y_En_arcs b_En_arcs 1 (some .int) : Cond) ∈ gw := gw_of (List.mem_append_right _ (List.mem_append_right _ (List.mem_append_left _ (List.mem_of_getElem? (i := 41) (by decide +kernel))))) rfl
theorem gm_413 : (Cond.methodLink R_En 128 y_En_strict : Cond) ∈ gw := gw_of (List.mem_append_right _ (List.mem_append_right _ (List.mem_append_left _ (List.mem_of_getElem? (i := 42) (by decide +kernel))))) rfl
theorem gm_414 : (Cond.static y_En_strict : Cond) ∈ gw := gw_of (List.mem_append_right _ (List.mem_append_right _ (List.mem_append_left _ (List.mem_of_getElem? (i := 43) (by decide +kernel))))) rfl
theorem gm_415 : (Cond.code y_En_strict b_En_strict 1 (some .int) : Cond) ∈ gw := gw_of (List.mem_append_right _ (List.mem_append_right _ (List.mem_append_left _ (List.mem_of_getElem? (i := 44) (by decide +kernel))))) rfl
theorem gm_416 : (Cond.methodLink R_Fu 222 y_En_allEnd : Cond) ∈ gw := gw_of (List.mem_append_right _ (List.mem_append_right _ (List.mem_append_left _ (List.mem_of_getElem? (i := 45) (by decide +kernel))))) rfl
theorem gm_417 : (Cond.instanceMethod y_En_allEnd : Cond) ∈ gw := gw_of (List.mem_append_right _ (List.mem_append_right _ (List.mem_append_left _ (List.mem_of_getElem? (i := 46) (by decide +kernel))))) rfl
theorem gm_418 : (Cond.selects R_En y_En_allEnd y_En_allEnd : Cond) ∈ gw := gw_of (List.mem_append_right _ (List.mem_append_right _ (List.mem_append_left _ (List.mem_of_getElem? (i := 47) (by decide +kernel))))) rfl
theorem gm_419 : (Cond.code y_En_allEnd b_En_allEnd 3 (some .boolean) : Cond) ∈ gw := gw_of (List.mem_append_right _ (List.mem_append_right _ (List.mem_append_left _ (List.mem_of_getElem? (i := 48) (by decide +kernel))))) rfl
theorem gm_420 : (Cond.methodLink R_La 80 y_Fu_graphs : Cond) ∈ gw := gw_of (List.mem_append_right _ (List.mem_append_right _ (List.mem_append_left _ (List.mem_of_getElem? (i := 49) (by decide +kernel))))) rfl
theorem gm_421 : (Cond.instanceMethod y_Fu_graphs : Cond) ∈ gw := gw_of (List.mem_append_right _ (List.mem_append_right _ (List.mem_append_left _ (List.mem_of_getElem? (i := 50) (by decide +kernel))))) rfl
theorem gm_422 : (Cond.selects R_Fu y_Fu_graphs y_Fu_graphs : Cond) ∈ gw := gw_of (List.mem_append_right _ (List.mem_append_right _ (List.mem_append_left _ (List.mem_of_getElem? (i := 51) (by decide +kernel))))) rfl
theorem gm_423 : (Cond.code y_Fu_graphs b_Fu_graphs 1 (some .int) : Cond) ∈ gw := gw_of (List.mem_append_right _ (List.mem_append_right _ (List.mem_append_left _ (List.mem_of_getElem? (i := 52) (by decide +kernel))))) rfl
theorem gm_424 : (Cond.methodLink R_La 87 y_Fu_isValue : Cond) ∈ gw := gw_of (List.mem_append_right _ (List.mem_append_right _ (List.mem_append_left _ (List.mem_of_getElem? (i := 53) (by decide +kernel))))) rfl
theorem gm_425 : (Cond.instanceMethod y_Fu_isValue : Cond) ∈ gw := gw_of (List.mem_append_right _ (List.mem_append_right _ (List.mem_append_left _ (List.mem_of_getElem? (i := 54) (by decide +kernel))))) rfl
theorem gm_426 : (Cond.selects R_Fu y_Fu_isValue y_Fu_isValue : Cond) ∈ gw := gw_of (List.mem_append_right _ (List.mem_append_right _ (List.mem_append_left _ (List.mem_of_getElem? (i := 55) (by decide +kernel))))) rfl
theorem gm_427 : (Cond.code y_Fu_isValue b_Fu_isValue 3 (some .boolean) : Cond) ∈ gw := gw_of (List.mem_append_right _ (List.mem_append_right _ (List.mem_append_left _ (List.mem_of_getElem? (i := 56) (by decide +kernel))))) rfl
theorem gm_428 : (Cond.methodLink R_Fu 173 y_Fu_isType : Cond) ∈ gw := gw_of (List.mem_append_right _ (List.mem_append_right _ (List.mem_append_left _ (List.mem_of_getElem? (i := 57) (by decide +kernel))))) rfl
theorem gm_429 : (Cond.static y_Fu_isType : Cond) ∈ gw := gw_of (List.mem_append_right _ (List.mem_append_right _ (List.mem_append_left _ (List.mem_of_getElem? (i := 58) (by decide +kernel))))) rfl
theorem gm_430 : (Cond.code y_Fu_isType b_Fu_isType 1 (some .boolean) : Cond) ∈ gw := gw_of (List.mem_append_right _ (List.mem_append_right _ (List.mem_append_left _ (List.mem_of_getElem? (i := 59) (by decide +kernel))))) rfl
theorem gm_431 : (Cond.methodLink R_Fu 176 y_Te_has : Cond) ∈ gw := gw_of (List.mem_append_right _ (List.mem_append_right _ (List.mem_append_left _ (List.mem_of_getElem? (i := 60) (by decide +kernel))))) rfl
theorem gm_432 : (Cond.instanceMethod y_Te_has : Cond) ∈ gw := gw_of (List.mem_append_right _ (List.mem_append_right _ (List.mem_append_left _ (List.mem_of_getElem? (i := 61) (by decide +kernel))))) rfl
theorem gm_433 : (Cond.selects R_Te y_Te_has y_Te_has : Cond) ∈ gw := gw_of (List.mem_append_right _ (List.mem_append_right _ (List.mem_append_left _ (List.mem_of_getElem? (i := 62) (by decide +kernel))))) rfl
theorem gm_434 : (Cond.code y_Te_has b_Te_has 2 (some .boolean) : Cond) ∈ gw := gw_of (List.mem_append_right _ (List.mem_append_right _ (List.mem_append_left _ (List.mem_of_getElem? (i := 63) (by decide +kernel))))) rfl
theorem gm_435 : (Cond.methodLink R_Fu 177 y_Ty_isClosedOfType : Cond) ∈ gw := gw_of (List.mem_append_right _ (List.mem_append_right _ (List.mem_append_left _ (List.mem_of_getElem? (i := 64) (by decide +kernel))))) rfl
theorem gm_436 : (Cond.instanceMethod y_Ty_isClosedOfType : Cond) ∈ gw := gw_of (List.mem_append_right _ (List.mem_append_right _ (List.mem_append_left _ (List.mem_of_getElem? (i := 65) (by decide +kernel))))) rfl
theorem gm_437 : (Cond.selects R_Ty y_Ty_isClosedOfType y_Ty_isClosedOfType : Cond) ∈ gw := gw_of (List.mem_append_right _ (List.mem_append_right _ (List.mem_append_left _ (List.mem_of_getElem? (i := 66) (by decide +kernel))))) rfl
theorem gm_438 : (Cond.code y_Ty_isClosedOfType b_Ty_isClosedOfType 3 (some .boolean) : Cond) ∈ gw := gw_of (List.mem_append_right _ (List.mem_append_right _ (List.mem_append_left _ (List.mem_of_getElem? (i := 67) (by decide +kernel))))) rfl
theorem gm_439 : (Cond.methodLink R_Ty 91 y_Te_isClosed : Cond) ∈ gw := gw_of (List.mem_append_right _ (List.mem_append_right _ (List.mem_append_left _ (List.mem_of_getElem? (i := 68) (by decide +kernel))))) rfl
theorem gm_440 : (Cond.instanceMethod y_Te_isClosed : Cond) ∈ gw := gw_of (List.mem_append_right _ (List.mem_append_right _ (List.mem_append_left _ (List.mem_of_getElem? (i := 69) (by decide +kernel))))) rfl
theorem gm_441 : (Cond.selects R_Te y_Te_isClosed y_Te_isClosed : Cond) ∈ gw := gw_of (List.mem_append_right _ (List.mem_append_right _ (List.mem_append_left _ (List.mem_of_getElem? (i := 70) (by decide +kernel))))) rfl
theorem gm_442 : (Cond.code y_Te_isClosed b_Te_isClosed 2 (some .boolean) : Cond) ∈ gw := gw_of (List.mem_append_right _ (List.mem_append_right _ (List.mem_append_left _ (List.mem_of_getElem? (i := 71) (by decide +kernel))))) rfl
theorem gm_443 : (Cond.methodLink R_La 98 y_Fu_count : Cond) ∈ gw := gw_of (List.mem_append_right _ (List.mem_append_right _ (List.mem_append_left _ (List.mem_of_getElem? (i := 72) (by decide +kernel))))) rfl
theorem gm_444 : (Cond.instanceMethod y_Fu_count : Cond) ∈ gw := gw_of (List.mem_append_right _ (List.mem_append_right _ (List.mem_append_left _ (List.mem_of_getElem? (i := 73) (by decide +kernel))))) rfl
theorem gm_445 : (Cond.selects R_Fu y_Fu_count y_Fu_count : Cond) ∈ gw := gw_of (List.mem_append_right _ (List.mem_append_right _ (List.mem_append_left _ (List.mem_of_getElem? (i := 74) (by decide +kernel))))) rfl
theorem gm_446 : (Cond.code y_Fu_count b_Fu_count 2 (some .int) : Cond) ∈ gw := gw_of (List.mem_append_right _ (List.mem_append_right _ (List.mem_append_left _ (List.mem_of_getElem? (i := 75) (by decide +kernel))))) rfl
theorem gm_447 : (Cond.methodLink R_Fu 202 y_Ma_steps : Cond) ∈ gw := gw_of (List.mem_append_right _ (List.mem_append_right _ (List.mem_append_left _ (List.mem_of_getElem? (i := 76) (by decide +kernel))))) rfl
theorem gm_448 : (Cond.instanceMethod y_Ma_steps : Cond) ∈ gw := gw_of (List.mem_append_right _ (List.mem_append_right _ (List.mem_append_left _ (List.mem_of_getElem? (i := 77) (by decide +kernel))))) rfl
theorem gm_449 : (Cond.selects R_Ma y_Ma_steps y_Ma_steps : Cond) ∈ gw := gw_of (List.mem_append_right _ (List.mem_append_right _ (List.mem_append_left _ (List.mem_of_getElem? (i := 78) (by decide +kernel))))) rfl
theorem gm_450 : (Cond.code y_Ma_steps b_Ma_steps 1 (some .int) : Cond) ∈ gw := gw_of (List.mem_append_right _ (List.mem_append_right _ (List.mem_append_left _ (List.mem_of_getElem? (i := 79) (by decide +kernel))))) rfl
theorem gm_451 : (Cond.methodLink R_Fu 205 y_Sg_howMany : Cond) ∈ gw := gw_of (List.mem_append_right _ (List.mem_append_right _ (List.mem_append_left _ (List.mem_of_getElem? (i := 80) (by decide +kernel))))) rfl
theorem gm_452 : (Cond.methodLink R_Fu 208 y_Te_howMany : Cond) ∈ gw := gw_of (List.mem_append_right _ (List.mem_append_right _ (List.mem_append_left _ (List.mem_of_getElem? (i := 81) (by decide +kernel))))) rfl
theorem gm_453 : (Cond.instanceMethod y_Te_howMany : Cond) ∈ gw := gw_of (List.mem_append_right _ (List.mem_append_right _ (List.mem_append_left _ (List.mem_of_getElem? (i := 82) (by decide +kernel))))) rfl
theorem gm_454 : (Cond.selects R_Te y_Te_howMany y_Te_howMany : Cond) ∈ gw := gw_of (List.mem_append_right _ (List.mem_append_right _ (List.mem_append_left _ (List.mem_of_getElem? (i := 83) (by decide +kernel))))) rfl
theorem gm_455 : (Cond.code y_Te_howMany b_Te_howMany 1 (some .int) : Cond) ∈ gw := gw_of (List.mem_append_right _ (List.mem_append_right _ (List.mem_append_left _ (List.mem_of_getElem? (i := 84) (by decide +kernel))))) rfl
theorem gm_456 : (Cond.methodLink R_Fu 209 y_Cl_howMany : Cond) ∈ gw := gw_of (List.mem_append_right _ (List.mem_append_right _ (List.mem_append_left _ (List.mem_of_getElem? (i := 85) (by decide +kernel))))) rfl
theorem gm_457 : (Cond.methodLink R_La 49 y_La_constructor : Cond) ∈ gw := gw_of (List.mem_append_right _ (List.mem_append_right _ (List.mem_append_left _ (List.mem_of_getElem? (i := 86) (by decide +kernel))))) rfl
theorem gm_458 : (Cond.static y_La_constructor : Cond) ∈ gw := gw_of (List.mem_append_right _ (List.mem_append_right _ (List.mem_append_left _ (List.mem_of_getElem? (i := 87) (by decide +kernel))))) rfl
theorem gm_459 : (Cond.classLink R_La 13 "java/lang/IllegalArgumentException" : Cond) ∈ gw := gw_of (List.mem_append_right _ (List.mem_append_right _ (List.mem_append_left _ (List.mem_of_getElem? (i := 89) (by decide +kernel))))) rfl
theorem gm_460 : (Cond.classLink R_La 15 "java/lang/IllegalStateException" : Cond) ∈ gw := gw_of (List.mem_append_right _ (List.mem_append_right _ (List.mem_append_left _ (List.mem_of_getElem? (i := 90) (by decide +kernel))))) rfl
theorem gm_461 : (Cond.methodLink R_La 7 y_Fu_constructor : Cond) ∈ gw := gw_of (List.mem_append_right _ (List.mem_append_right _ (List.mem_append_left _ (List.mem_of_getElem? (i := 91) (by decide +kernel))))) rfl
theorem gm_462 : (Cond.instanceMethod y_Fu_constructor : Cond) ∈ gw := gw_of (List.mem_append_right _ (List.mem_append_right _ (List.mem_append_left _ (List.mem_of_getElem? (i := 92) (by decide +kernel))))) rfl
theorem gm_463 : (Cond.selects R_Fu y_Fu_constructor y_Fu_constructor : Cond) ∈ gw := gw_of (List.mem_append_right _ (List.mem_append_right _ (List.mem_append_left _ (List.mem_of_getElem? (i := 93) (by decide +kernel))))) rfl
theorem gm_464 : (Cond.code y_Fu_constructor b_Fu_constructor 5 (some .int) : Cond) ∈ gw := gw_of (List.mem_append_right _ (List.mem_append_right _ (List.mem_append_left _ (List.mem_of_getElem? (i := 94) (by decide +kernel))))) rfl
theorem gm_465 : (Cond.methodLink R_Fu 73 y_Fu_areTypes : Cond) ∈ gw := gw_of (List.mem_append_right _ (List.mem_append_right _ (List.mem_append_left _ (List.mem_of_getElem? (i := 95) (by decide +kernel))))) rfl
theorem gm_466 : (Cond.static y_Fu_areTypes : Cond) ∈ gw := gw_of (List.mem_append_right _ (List.mem_append_right _ (List.mem_append_left _ (List.mem_of_getElem? (i := 96) (by decide +kernel))))) rfl
theorem gm_467 : (Cond.code y_Fu_areTypes b_Fu_areTypes 5 (some .boolean) : Cond) ∈ gw := gw_of (List.mem_append_right _ (List.mem_append_right _ (List.mem_append_left _ (List.mem_of_getElem? (i := 97) (by decide +kernel))))) rfl
theorem gm_468 : (Cond.methodLink R_Fu 234 y_Fu_leadingPlaces : Cond) ∈ gw := gw_of (List.mem_append_right _ (List.mem_append_right _ (List.mem_append_left _ (List.mem_of_getElem? (i := 98) (by decide +kernel))))) rfl
theorem gm_469 : (Cond.static y_Fu_leadingPlaces : Cond) ∈ gw := gw_of (List.mem_append_right _ (List.mem_append_right _ (List.mem_append_left _ (List.mem_of_getElem? (i := 99) (by decide +kernel))))) rfl
theorem gm_470 : (Cond.code y_Fu_leadingPlaces b_Fu_leadingPlaces 3 (some .int) : Cond) ∈ gw := gw_of (List.mem_append_right _ (List.mem_append_right _ (List.mem_append_left _ (List.mem_of_getElem? (i := 100) (by decide +kernel))))) rfl
theorem gm_471 : (Cond.methodLink R_Fu 225 y_Fu_pick : Cond) ∈ gw := gw_of (List.mem_append_right _ (List.mem_append_right _ (List.mem_append_left _ (List.mem_of_getElem? (i := 101) (by decide +kernel))))) rfl
theorem gm_472 : (Cond.static y_Fu_pick : Cond) ∈ gw := gw_of (List.mem_append_right _ (List.mem_append_right _ (List.mem_append_left _ (List.mem_of_getElem? (i := 102) (by decide +kernel))))) rfl
theorem gm_473 : (Cond.code y_Fu_pick b_Fu_pick 4 (some .int) : Cond) ∈ gw := gw_of (List.mem_append_right _ (List.mem_append_right _ (List.mem_append_left _ (List.mem_of_getElem? (i := 103) (by decide +kernel))))) rfl
theorem gm_474 : (Cond.classLink R_Fu 77 "java/lang/IllegalArgumentException" : Cond) ∈ gw := gw_of (List.mem_append_right _ (List.mem_append_right _ (List.mem_append_left _ (List.mem_of_getElem? (i := 104) (by decide +kernel))))) rfl
theorem gm_475 : (Cond.methodLink R_Fu 84 y_Sg_isFull : Cond) ∈ gw := gw_of (List.mem_append_right _ (List.mem_append_right _ (List.mem_append_left _ (List.mem_of_getElem? (i := 172) (by decide +kernel))))) rfl
theorem gm_476 : (Cond.instanceMethod y_Sg_isFull : Cond) ∈ gw := gw_of (List.mem_append_right _ (List.mem_append_right _ (List.mem_append_left _ (List.mem_of_getElem? (i := 173) (by decide +kernel))))) rfl
theorem gm_477 : (Cond.selects R_Sg y_Sg_isFull y_Sg_isFull : Cond) ∈ gw := gw_of (List.mem_append_right _ (List.mem_append_right _ (List.mem_append_left _ (List.mem_of_getElem? (i := 174) (by decide +kernel))))) rfl
theorem gm_478 : (Cond.code y_Sg_isFull b_Sg_isFull 1 (some .boolean) : Cond) ∈ gw := gw_of (List.mem_append_right _ (List.mem_append_right _ (List.mem_append_left _ (List.mem_of_getElem? (i := 175) (by decide +kernel))))) rfl
theorem gm_479 : (Cond.classLink R_Fu 88 "java/lang/IllegalStateException" : Cond) ∈ gw := gw_of (List.mem_append_right _ (List.mem_append_right _ (List.mem_append_left _ (List.mem_of_getElem? (i := 176) (by decide +kernel))))) rfl
theorem gm_480 : (Cond.methodLink R_Fu 93 y_Sg_declare : Cond) ∈ gw := gw_of (List.mem_append_right _ (List.mem_append_right _ (List.mem_append_left _ (List.mem_of_getElem? (i := 192) (by decide +kernel))))) rfl
theorem gm_481 : (Cond.instanceMethod y_Sg_declare : Cond) ∈ gw := gw_of (List.mem_append_right _ (List.mem_append_right _ (List.mem_append_left _ (List.mem_of_getElem? (i := 193) (by decide +kernel))))) rfl
theorem gm_482 : (Cond.selects R_Sg y_Sg_declare y_Sg_declare : Cond) ∈ gw := gw_of (List.mem_append_right _ (List.mem_append_right _ (List.mem_append_left _ (List.mem_of_getElem? (i := 194) (by decide +kernel))))) rfl
theorem gm_483 : (Cond.code y_Sg_declare b_Sg_declare 6 (some .int) : Cond) ∈ gw := gw_of (List.mem_append_right _ (List.mem_append_right _ (List.mem_append_left _ (List.mem_of_getElem? (i := 195) (by decide +kernel))))) rfl
theorem gm_484 : (Cond.methodLink R_La 59 y_La_function : Cond) ∈ gw := gw_of (List.mem_append_right _ (List.mem_append_right _ (List.mem_append_left _ (List.mem_of_getElem? (i := 198) (by decide +kernel))))) rfl
theorem gm_485 : (Cond.static y_La_function : Cond) ∈ gw := gw_of (List.mem_append_right _ (List.mem_append_right _ (List.mem_append_left _ (List.mem_of_getElem? (i := 199) (by decide +kernel))))) rfl
theorem gm_486 : (Cond.methodLink R_La 17 y_Fu_function : Cond) ∈ gw := gw_of (List.mem_append_right _ (List.mem_append_right _ (List.mem_append_left _ (List.mem_of_getElem? (i := 201) (by decide +kernel))))) rfl
theorem gm_487 : (Cond.instanceMethod y_Fu_function : Cond) ∈ gw := gw_of (List.mem_append_right _ (List.mem_append_right _ (List.mem_append_left _ (List.mem_of_getElem? (i := 202) (by decide +kernel))))) rfl
theorem gm_488 : (Cond.selects R_Fu y_Fu_function y_Fu_function : Cond) ∈ gw := gw_of (List.mem_append_right _ (List.mem_append_right _ (List.mem_append_left _ (List.mem_of_getElem? (i := 203) (by decide +kernel))))) rfl
theorem gm_489 : (Cond.code y_Fu_function b_Fu_function 5 (some .int) : Cond) ∈ gw := gw_of (List.mem_append_right _ (List.mem_append_right _ (List.mem_append_left _ (List.mem_of_getElem? (i := 204) (by decide +kernel))))) rfl
theorem gm_490 : (Cond.methodLink R_La 62 y_La_variable : Cond) ∈ gw := gw_of (List.mem_append_right _ (List.mem_append_right _ (List.mem_append_left _ (List.mem_of_getElem? (i := 206) (by decide +kernel))))) rfl
theorem gm_491 : (Cond.static y_La_variable : Cond) ∈ gw := gw_of (List.mem_append_right _ (List.mem_append_right _ (List.mem_append_left _ (List.mem_of_getElem? (i := 207) (by decide +kernel))))) rfl
theorem gm_492 : (Cond.methodLink R_La 20 y_Fu_variable : Cond) ∈ gw := gw_of (List.mem_append_right _ (List.mem_append_right _ (List.mem_append_left _ (List.mem_of_getElem? (i := 209) (by decide +kernel))))) rfl
theorem gm_493 : (Cond.instanceMethod y_Fu_variable : Cond) ∈ gw := gw_of (List.mem_append_right _ (List.mem_append_right _ (List.mem_append_left _ (List.mem_of_getElem? (i := 210) (by decide +kernel))))) rfl
theorem gm_494 : (Cond.selects R_Fu y_Fu_variable y_Fu_variable : Cond) ∈ gw := gw_of (List.mem_append_right _ (List.mem_append_right _ (List.mem_append_left _ (List.mem_of_getElem? (i := 211) (by decide +kernel))))) rfl
theorem gm_495 : (Cond.code y_Fu_variable b_Fu_variable 2 (some .int) : Cond) ∈ gw := gw_of (List.mem_append_right _ (List.mem_append_right _ (List.mem_append_left _ (List.mem_of_getElem? (i := 212) (by decide +kernel))))) rfl
theorem gm_496 : (Cond.methodLink R_Fu 101 y_Te_isFull : Cond) ∈ gw := gw_of (List.mem_append_right _ (List.mem_append_right _ (List.mem_append_left _ (List.mem_of_getElem? (i := 214) (by decide +kernel))))) rfl
theorem gm_497 : (Cond.instanceMethod y_Te_isFull : Cond) ∈ gw := gw_of (List.mem_append_right _ (List.mem_append_right _ (List.mem_append_left _ (List.mem_of_getElem? (i := 215) (by decide +kernel))))) rfl
theorem gm_498 : (Cond.selects R_Te y_Te_isFull y_Te_isFull : Cond) ∈ gw := gw_of (List.mem_append_right _ (List.mem_append_right _ (List.mem_append_left _ (List.mem_of_getElem? (i := 216) (by decide +kernel))))) rfl
theorem gm_499 : (Cond.code y_Te_isFull b_Te_isFull 1 (some .boolean) : Cond) ∈ gw := gw_of (List.mem_append_right _ (List.mem_append_right _ (List.mem_append_left _ (List.mem_of_getElem? (i := 217) (by decide +kernel))))) rfl
theorem gm_500 : (Cond.methodLink R_Fu 104 y_Te_addVariable : Cond) ∈ gw := gw_of (List.mem_append_right _ (List.mem_append_right _ (List.mem_append_left _ (List.mem_of_getElem? (i := 219) (by decide +kernel))))) rfl
theorem gm_501 : (Cond.instanceMethod y_Te_addVariable : Cond) ∈ gw := gw_of (List.mem_append_right _ (List.mem_append_right _ (List.mem_append_left _ (List.mem_of_getElem? (i := 220) (by decide +kernel))))) rfl
theorem gm_502 : (Cond.selects R_Te y_Te_addVariable y_Te_addVariable : Cond) ∈ gw := gw_of (List.mem_append_right _ (List.mem_append_right _ (List.mem_append_left _ (List.mem_of_getElem? (i := 221) (by decide +kernel))))) rfl
theorem gm_503 : (Cond.code y_Te_addVariable b_Te_addVariable 2 (some .int) : Cond) ∈ gw := gw_of (List.mem_append_right _ (List.mem_append_right _ (List.mem_append_left _ (List.mem_of_getElem? (i := 222) (by decide +kernel))))) rfl
theorem gm_504 : (Cond.methodLink R_La 66 y_La_make : Cond) ∈ gw := gw_of (List.mem_append_right _ (List.mem_append_right _ (List.mem_append_left _ (List.mem_of_getElem? (i := 223) (by decide +kernel))))) rfl
theorem gm_505 : (Cond.static y_La_make : Cond) ∈ gw := gw_of (List.mem_append_right _ (List.mem_append_right _ (List.mem_append_left _ (List.mem_of_getElem? (i := 224) (by decide +kernel))))) rfl
theorem gm_506 : (Cond.methodLink R_La 24 y_Fu_make : Cond) ∈ gw := gw_of (List.mem_append_right _ (List.mem_append_right _ (List.mem_append_left _ (List.mem_of_getElem? (i := 226) (by decide +kernel))))) rfl
theorem gm_507 : (Cond.instanceMethod y_Fu_make : Cond) ∈ gw := gw_of (List.mem_append_right _ (List.mem_append_right _ (List.mem_append_left _ (List.mem_of_getElem? (i := 227) (by decide +kernel))))) rfl
theorem gm_508 : (Cond.selects R_Fu y_Fu_make y_Fu_make : Cond) ∈ gw := gw_of (List.mem_append_right _ (List.mem_append_right _ (List.mem_append_left _ (List.mem_of_getElem? (i := 228) (by decide +kernel))))) rfl
theorem gm_509 : (Cond.code y_Fu_make b_Fu_make 5 (some .int) : Cond) ∈ gw := gw_of (List.mem_append_right _ (List.mem_append_right _ (List.mem_append_left _ (List.mem_of_getElem? (i := 229) (by decide +kernel))))) rfl
theorem gm_510 : (Cond.methodLink R_Fu 108 y_Sg_has : Cond) ∈ gw := gw_of (List.mem_append_right _ (List.mem_append_right _ (List.mem_append_left _ (List.mem_of_getElem? (i := 230) (by decide +kernel))))) rfl
theorem gm_511 : (Cond.instanceMethod y_Sg_has : Cond) ∈ gw := gw_of (List.mem_append_right _ (List.mem_append_right _ (List.mem_append_left _ (List.mem_of_getElem? (i := 231) (by decide +kernel))))) rfl
theorem gm_512 : (Cond.selects R_Sg y_Sg_has y_Sg_has : Cond) ∈ gw := gw_of (List.mem_append_right _ (List.mem_append_right _ (List.mem_append_left _ (List.mem_of_getElem? (i := 232) (by decide +kernel))))) rfl
theorem gm_513 : (Cond.code y_Sg_has b_Sg_has 2 (some .boolean) : Cond) ∈ gw := gw_of (List.mem_append_right _ (List.mem_append_right _ (List.mem_append_left _ (List.mem_of_getElem? (i := 233) (by decide +kernel))))) rfl
theorem gm_514 : (Cond.methodLink R_Fu 112 y_Sg_width : Cond) ∈ gw := gw_of (List.mem_append_right _ (List.mem_append_right _ (List.mem_append_left _ (List.mem_of_getElem? (i := 234) (by decide +kernel))))) rfl
theorem gm_515 : (Cond.methodLink R_Fu 115 y_Te_canJoin : Cond) ∈ gw := gw_of (List.mem_append_right _ (List.mem_append_right _ (List.mem_append_left _ (List.mem_of_getElem? (i := 235) (by decide +kernel))))) rfl
theorem gm_516 : (Cond.instanceMethod y_Te_canJoin : Cond) ∈ gw := gw_of (List.mem_append_right _ (List.mem_append_right _ (List.mem_append_left _ (List.mem_of_getElem? (i := 236) (by decide +kernel))))) rfl
theorem gm_517 : (Cond.selects R_Te y_Te_canJoin y_Te_canJoin : Cond) ∈ gw := gw_of (List.mem_append_right _ (List.mem_append_right _ (List.mem_append_left _ (List.mem_of_getElem? (i := 237) (by decide +kernel))))) rfl
theorem gm_518 : (Cond.code y_Te_canJoin b_Te_canJoin 9 (some .boolean) : Cond) ∈ gw := gw_of (List.mem_append_right _ (List.mem_append_right _ (List.mem_append_left _ (List.mem_of_getElem? (i := 238) (by decide +kernel))))) rfl
theorem gm_519 : (Cond.methodLink R_Te 48 y_Te_has : Cond) ∈ gw := gw_of (List.mem_append_right _ (List.mem_append_right _ (List.mem_append_right _ (List.mem_append_left _ (List.mem_of_getElem? (i := 0) (by decide +kernel)))))) rfl
theorem gm_520 : (Cond.methodLink R_Te 52 y_Jm_max : Cond) ∈ gw := gw_of (List.mem_append_right _ (List.mem_append_right _ (List.mem_append_right _ (List.mem_append_left _ (List.mem_of_getElem? (i := 1) (by decide +kernel)))))) rfl
theorem gm_521 : (Cond.static y_Jm_max : Cond) ∈ gw := gw_of (List.mem_append_right _ (List.mem_append_right _ (List.mem_append_right _ (List.mem_append_left _ (List.mem_of_getElem? (i := 2) (by decide +kernel)))))) rfl
theorem gm_522 : (Cond.code y_Jm_max b_Jm_max 2 (some .int) : Cond) ∈ gw := gw_of (List.mem_append_right _ (List.mem_append_right _ (List.mem_append_right _ (List.mem_append_left _ (List.mem_of_getElem? (i := 3) (by decide +kernel)))))) rfl
theorem gm_523 : (Cond.methodLink R_Fu 120 y_Te_addMade : Cond) ∈ gw := gw_of (List.mem_append_right _ (List.mem_append_right _ (List.mem_append_right _ (List.mem_append_left _ (List.mem_of_getElem? (i := 5) (by decide +kernel)))))) rfl
theorem gm_524 : (Cond.instanceMethod y_Te_addMade : Cond) ∈ gw := gw_of (List.mem_append_right _ (List.mem_append_right _ (List.mem_append_right _ (List.mem_append_left _ (List.mem_of_getElem? (i := 6) (by decide +kernel)))))) rfl
theorem gm_525 : (Cond.selects R_Te y_Te_addMade y_Te_addMade : Cond) ∈ gw := gw_of (List.mem_append_right _ (List.mem_append_right _ (List.mem_append_right _ (List.mem_append_left _ (List.mem_of_getElem? (i := 7) (by decide +kernel)))))) rfl
theorem gm_526 : (Cond.code y_Te_addMade b_Te_addMade 6 (some .int) : Cond) ∈ gw := gw_of (List.mem_append_right _ (List.mem_append_right _ (List.mem_append_right _ (List.mem_append_left _ (List.mem_of_getElem? (i := 8) (by decide +kernel)))))) rfl
theorem gm_527 : (Cond.methodLink R_Te 58 y_Te_join : Cond) ∈ gw := gw_of (List.mem_append_right _ (List.mem_append_right _ (List.mem_append_right _ (List.mem_append_left _ (List.mem_of_getElem? (i := 9) (by decide +kernel)))))) rfl
theorem gm_528 : (Cond.instanceMethod y_Te_join : Cond) ∈ gw := gw_of (List.mem_append_right _ (List.mem_append_right _ (List.mem_append_right _ (List.mem_append_left _ (List.mem_of_getElem? (i := 11) (by decide +kernel)))))) rfl
theorem gm_529 : (Cond.code y_Te_join b_Te_join 10 (some .int) : Cond) ∈ gw := gw_of (List.mem_append_right _ (List.mem_append_right _ (List.mem_append_right _ (List.mem_append_left _ (List.mem_of_getElem? (i := 12) (by decide +kernel)))))) rfl
theorem gm_530 : (Cond.methodLink R_La 69 y_La_call : Cond) ∈ gw := gw_of (List.mem_append_right _ (List.mem_append_right _ (List.mem_append_right _ (List.mem_append_left _ (List.mem_of_getElem? (i := 13) (by decide +kernel)))))) rfl
theorem gm_531 : (Cond.static y_La_call : Cond) ∈ gw := gw_of (List.mem_append_right _ (List.mem_append_right _ (List.mem_append_right _ (List.mem_append_left _ (List.mem_of_getElem? (i := 14) (by decide +kernel)))))) rfl
theorem gm_532 : (Cond.methodLink R_La 27 y_Fu_call : Cond) ∈ gw := gw_of (List.mem_append_right _ (List.mem_append_right _ (List.mem_append_right _ (List.mem_append_left _ (List.mem_of_getElem? (i := 16) (by decide +kernel)))))) rfl
theorem gm_533 : (Cond.instanceMethod y_Fu_call : Cond) ∈ gw := gw_of (List.mem_append_right _ (List.mem_append_right _ (List.mem_append_right _ (List.mem_append_left _ (List.mem_of_getElem? (i := 17) (by decide +kernel)))))) rfl
theorem gm_534 : (Cond.selects R_Fu y_Fu_call y_Fu_call : Cond) ∈ gw := gw_of (List.mem_append_right _ (List.mem_append_right _ (List.mem_append_right _ (List.mem_append_left _ (List.mem_of_getElem? (i := 18) (by decide +kernel)))))) rfl
theorem gm_535 : (Cond.code y_Fu_call b_Fu_call 5 (some .int) : Cond) ∈ gw := gw_of (List.mem_append_right _ (List.mem_append_right _ (List.mem_append_right _ (List.mem_append_left _ (List.mem_of_getElem? (i := 19) (by decide +kernel)))))) rfl
theorem gm_536 : (Cond.methodLink R_Fu 126 y_Te_addCalled : Cond) ∈ gw := gw_of (List.mem_append_right _ (List.mem_append_right _ (List.mem_append_right _ (List.mem_append_left _ (List.mem_of_getElem? (i := 21) (by decide +kernel)))))) rfl
theorem gm_537 : (Cond.instanceMethod y_Te_addCalled : Cond) ∈ gw := gw_of (List.mem_append_right _ (List.mem_append_right _ (List.mem_append_right _ (List.mem_append_left _ (List.mem_of_getElem? (i := 22) (by decide +kernel)))))) rfl
theorem gm_538 : (Cond.selects R_Te y_Te_addCalled y_Te_addCalled : Cond) ∈ gw := gw_of (List.mem_append_right _ (List.mem_append_right _ (List.mem_append_right _ (List.mem_append_left _ (List.mem_of_getElem? (i := 23) (by decide +kernel)))))) rfl
theorem gm_539 : (Cond.code y_Te_addCalled b_Te_addCalled 6 (some .int) : Cond) ∈ gw := gw_of (List.mem_append_right _ (List.mem_append_right _ (List.mem_append_right _ (List.mem_append_left _ (List.mem_of_getElem? (i := 24) (by decide +kernel)))))) rfl
theorem gm_540 : (Cond.methodLink R_La 72 y_La_clause : Cond) ∈ gw := gw_of (List.mem_append_right _ (List.mem_append_right _ (List.mem_append_right _ (List.mem_append_left _ (List.mem_of_getElem? (i := 25) (by decide +kernel)))))) rfl
theorem gm_541 : (Cond.static y_La_clause : Cond) ∈ gw := gw_of (List.mem_append_right _ (List.mem_append_right _ (List.mem_append_right _ (List.mem_append_left _ (List.mem_of_getElem? (i := 26) (by decide +kernel)))))) rfl
theorem gm_542 : (Cond.methodLink R_La 30 y_Fu_clause : Cond) ∈ gw := gw_of (List.mem_append_right _ (List.mem_append_right _ (List.mem_append_right _ (List.mem_append_left _ (List.mem_of_getElem? (i := 28) (by decide +kernel)))))) rfl
theorem gm_543 : (Cond.instanceMethod y_Fu_clause : Cond) ∈ gw := gw_of (List.mem_append_right _ (List.mem_append_right _ (List.mem_append_right _ (List.mem_append_left _ (List.mem_of_getElem? (i := 29) (by decide +kernel)))))) rfl
theorem gm_544 : (Cond.selects R_Fu y_Fu_clause y_Fu_clause : Cond) ∈ gw := gw_of (List.mem_append_right _ (List.mem_append_right _ (List.mem_append_right _ (List.mem_append_left _ (List.mem_of_getElem? (i := 30) (by decide +kernel)))))) rfl
theorem gm_545 : (Cond.code y_Fu_clause b_Fu_clause 6 (some .int) : Cond) ∈ gw := gw_of (List.mem_append_right _ (List.mem_append_right _ (List.mem_append_right _ (List.mem_append_left _ (List.mem_of_getElem? (i := 31) (by decide +kernel)))))) rfl
theorem gm_546 : (Cond.methodLink R_Fu 129 y_Cl_isWellFormed : Cond) ∈ gw := gw_of (List.mem_append_right _ (List.mem_append_right _ (List.mem_append_right _ (List.mem_append_left _ (List.mem_of_getElem? (i := 32) (by decide +kernel)))))) rfl
theorem gm_547 : (Cond.instanceMethod y_Cl_isWellFormed : Cond) ∈ gw := gw_of (List.mem_append_right _ (List.mem_append_right _ (List.mem_append_right _ (List.mem_append_left _ (List.mem_of_getElem? (i := 33) (by decide +kernel)))))) rfl
theorem gm_548 : (Cond.selects R_Cl y_Cl_isWellFormed y_Cl_isWellFormed : Cond) ∈ gw := gw_of (List.mem_append_right _ (List.mem_append_right _ (List.mem_append_right _ (List.mem_append_left _ (List.mem_of_getElem? (i := 34) (by decide +kernel)))))) rfl
theorem gm_549 : (Cond.code y_Cl_isWellFormed b_Cl_isWellFormed 9 (some .boolean) : Cond) ∈ gw := gw_of (List.mem_append_right _ (List.mem_append_right _ (List.mem_append_right _ (List.mem_append_left _ (List.mem_of_getElem? (i := 35) (by decide +kernel)))))) rfl
theorem gm_550 : (Cond.methodLink R_Cl 43 y_Te_has : Cond) ∈ gw := gw_of (List.mem_append_right _ (List.mem_append_right _ (List.mem_append_right _ (List.mem_append_left _ (List.mem_of_getElem? (i := 37) (by decide +kernel)))))) rfl
theorem gm_551 : (Cond.methodLink R_Cl 49 y_Te_isPattern : Cond) ∈ gw := gw_of (List.mem_append_right _ (List.mem_append_right _ (List.mem_append_right _ (List.mem_append_left _ (List.mem_of_getElem? (i := 38) (by decide +kernel)))))) rfl
theorem gm_552 : (Cond.instanceMethod y_Te_isPattern : Cond) ∈ gw := gw_of (List.mem_append_right _ (List.mem_append_right _ (List.mem_append_right _ (List.mem_append_left _ (List.mem_of_getElem? (i := 39) (by decide +kernel)))))) rfl
theorem gm_553 : (Cond.selects R_Te y_Te_isPattern y_Te_isPattern : Cond) ∈ gw := gw_of (List.mem_append_right _ (List.mem_append_right _ (List.mem_append_right _ (List.mem_append_left _ (List.mem_of_getElem? (i := 40) (by decide +kernel)))))) rfl
theorem gm_554 : (Cond.code y_Te_isPattern b_Te_isPattern 2 (some .boolean) : Cond) ∈ gw := gw_of (List.mem_append_right _ (List.mem_append_right _ (List.mem_append_right _ (List.mem_append_left _ (List.mem_of_getElem? (i := 41) (by decide +kernel)))))) rfl
theorem gm_555 : (Cond.methodLink R_Cl 52 y_Te_variables : Cond) ∈ gw := gw_of (List.mem_append_right _ (List.mem_append_right _ (List.mem_append_right _ (List.mem_append_left _ (List.mem_of_getElem? (i := 42) (by decide +kernel)))))) rfl
theorem gm_556 : (Cond.instanceMethod y_Te_variables : Cond) ∈ gw := gw_of (List.mem_append_right _ (List.mem_append_right _ (List.mem_append_right _ (List.mem_append_left _ (List.mem_of_getElem? (i := 43) (by decide +kernel)))))) rfl
theorem gm_557 : (Cond.selects R_Te y_Te_variables y_Te_variables : Cond) ∈ gw := gw_of (List.mem_append_right _ (List.mem_append_right _ (List.mem_append_right _ (List.mem_append_left _ (List.mem_of_getElem? (i := 44) (by decide +kernel)))))) rfl
theorem gm_558 : (Cond.code y_Te_variables b_Te_variables 2 (some .int) : Cond) ∈ gw := gw_of (List.mem_append_right _ (List.mem_append_right _ (List.mem_append_right _ (List.mem_append_left _ (List.mem_of_getElem? (i := 45) (by decide +kernel)))))) rfl
theorem gm_559 : (Cond.methodLink R_Fu 135 y_Cl_isFull : Cond) ∈ gw := gw_of (List.mem_append_right _ (List.mem_append_right _ (List.mem_append_right _ (List.mem_append_left _ (List.mem_of_getElem? (i := 47) (by decide +kernel)))))) rfl
theorem gm_560 : (Cond.instanceMethod y_Cl_isFull : Cond) ∈ gw := gw_of (List.mem_append_right _ (List.mem_append_right _ (List.mem_append_right _ (List.mem_append_left _ (List.mem_of_getElem? (i := 48) (by decide +kernel)))))) rfl
theorem gm_561 : (Cond.selects R_Cl y_Cl_isFull y_Cl_isFull : Cond) ∈ gw := gw_of (List.mem_append_right _ (List.mem_append_right _ (List.mem_append_right _ (List.mem_append_left _ (List.mem_of_getElem? (i := 49) (by decide +kernel)))))) rfl
theorem gm_562 : (Cond.code y_Cl_isFull b_Cl_isFull 2 (some .boolean) : Cond) ∈ gw := gw_of (List.mem_append_right _ (List.mem_append_right _ (List.mem_append_right _ (List.mem_append_left _ (List.mem_of_getElem? (i := 50) (by decide +kernel)))))) rfl
theorem gm_563 : (Cond.methodLink R_Fu 139 y_Cl_add : Cond) ∈ gw := gw_of (List.mem_append_right _ (List.mem_append_right _ (List.mem_append_right _ (List.mem_append_left _ (List.mem_of_getElem? (i := 52) (by decide +kernel)))))) rfl
theorem gm_564 : (Cond.instanceMethod y_Cl_add : Cond) ∈ gw := gw_of (List.mem_append_right _ (List.mem_append_right _ (List.mem_append_right _ (List.mem_append_left _ (List.mem_of_getElem? (i := 53) (by decide +kernel)))))) rfl
theorem gm_565 : (Cond.selects R_Cl y_Cl_add y_Cl_add : Cond) ∈ gw := gw_of (List.mem_append_right _ (List.mem_append_right _ (List.mem_append_right _ (List.mem_append_left _ (List.mem_of_getElem? (i := 54) (by decide +kernel)))))) rfl
theorem gm_566 : (Cond.code y_Cl_add b_Cl_add 7 (some .int) : Cond) ∈ gw := gw_of (List.mem_append_right _ (List.mem_append_right _ (List.mem_append_right _ (List.mem_append_left _ (List.mem_of_getElem? (i := 55) (by decide +kernel)))))) rfl
theorem gm_567 : (Cond.methodLink R_Cl 56 y_Sg_width : Cond) ∈ gw := gw_of (List.mem_append_right _ (List.mem_append_right _ (List.mem_append_right _ (List.mem_append_left _ (List.mem_of_getElem? (i := 56) (by decide +kernel)))))) rfl
theorem gm_568 : (Cond.methodLink R_La 84 y_La_arc : Cond) ∈ gw := gw_of (List.mem_append_right _ (List.mem_append_right _ (List.mem_append_right _ (List.mem_append_left _ (List.mem_of_getElem? (i := 57) (by decide +kernel)))))) rfl
theorem gm_569 : (Cond.static y_La_arc : Cond) ∈ gw := gw_of (List.mem_append_right _ (List.mem_append_right _ (List.mem_append_right _ (List.mem_append_left _ (List.mem_of_getElem? (i := 58) (by decide +kernel)))))) rfl
theorem gm_570 : (Cond.methodLink R_La 34 y_Fu_arc : Cond) ∈ gw := gw_of (List.mem_append_right _ (List.mem_append_right _ (List.mem_append_right _ (List.mem_append_left _ (List.mem_of_getElem? (i := 60) (by decide +kernel)))))) rfl
theorem gm_571 : (Cond.instanceMethod y_Fu_arc : Cond) ∈ gw := gw_of (List.mem_append_right _ (List.mem_append_right _ (List.mem_append_right _ (List.mem_append_left _ (List.mem_of_getElem? (i := 61) (by decide +kernel)))))) rfl
theorem gm_572 : (Cond.selects R_Fu y_Fu_arc y_Fu_arc : Cond) ∈ gw := gw_of (List.mem_append_right _ (List.mem_append_right _ (List.mem_append_right _ (List.mem_append_left _ (List.mem_of_getElem? (i := 62) (by decide +kernel)))))) rfl
theorem gm_573 : (Cond.code y_Fu_arc b_Fu_arc 7 (some .int) : Cond) ∈ gw := gw_of (List.mem_append_right _ (List.mem_append_right _ (List.mem_append_right _ (List.mem_append_left _ (List.mem_of_getElem? (i := 63) (by decide +kernel)))))) rfl
theorem gm_574 : (Cond.methodLink R_Fu 149 y_Cl_has : Cond) ∈ gw := gw_of (List.mem_append_right _ (List.mem_append_right _ (List.mem_append_right _ (List.mem_append_left _ (List.mem_of_getElem? (i := 64) (by decide +kernel)))))) rfl
theorem gm_575 : (Cond.instanceMethod y_Cl_has : Cond) ∈ gw := gw_of (List.mem_append_right _ (List.mem_append_right _ (List.mem_append_right _ (List.mem_append_left _ (List.mem_of_getElem? (i := 65) (by decide +kernel)))))) rfl
theorem gm_576 : (Cond.selects R_Cl y_Cl_has y_Cl_has : Cond) ∈ gw := gw_of (List.mem_append_right _ (List.mem_append_right _ (List.mem_append_right _ (List.mem_append_left _ (List.mem_of_getElem? (i := 66) (by decide +kernel)))))) rfl
theorem gm_577 : (Cond.code y_Cl_has b_Cl_has 2 (some .boolean) : Cond) ∈ gw := gw_of (List.mem_append_right _ (List.mem_append_right _ (List.mem_append_right _ (List.mem_append_left _ (List.mem_of_getElem? (i := 67) (by decide +kernel)))))) rfl
theorem gm_578 : (Cond.methodLink R_Fu 152 y_En_callInBody : Cond) ∈ gw := gw_of (List.mem_append_right _ (List.mem_append_right _ (List.mem_append_right _ (List.mem_append_left _ (List.mem_of_getElem? (i := 69) (by decide +kernel)))))) rfl
theorem gm_579 : (Cond.instanceMethod y_En_callInBody : Cond) ∈ gw := gw_of (List.mem_append_right _ (List.mem_append_right _ (List.mem_append_right _ (List.mem_append_left _ (List.mem_of_getElem? (i := 70) (by decide +kernel)))))) rfl
theorem gm_580 : (Cond.selects R_En y_En_callInBody y_En_callInBody : Cond) ∈ gw := gw_of (List.mem_append_right _ (List.mem_append_right _ (List.mem_append_right _ (List.mem_append_left _ (List.mem_of_getElem? (i := 71) (by decide +kernel)))))) rfl
theorem gm_581 : (Cond.code y_En_callInBody b_En_callInBody 3 (some .int) : Cond) ∈ gw := gw_of (List.mem_append_right _ (List.mem_append_right _ (List.mem_append_right _ (List.mem_append_left _ (List.mem_of_getElem? (i := 72) (by decide +kernel)))))) rfl
theorem gm_582 : (Cond.methodLink R_Fu 158 y_Cl_owner : Cond) ∈ gw := gw_of (List.mem_append_right _ (List.mem_append_right _ (List.mem_append_right _ (List.mem_append_left _ (List.mem_of_getElem? (i := 74) (by decide +kernel)))))) rfl
theorem gm_583 : (Cond.methodLink R_Fu 161 y_Te_width : Cond) ∈ gw := gw_of (List.mem_append_right _ (List.mem_append_right _ (List.mem_append_right _ (List.mem_append_left _ (List.mem_of_getElem? (i := 75) (by decide +kernel)))))) rfl
theorem gm_584 : (Cond.methodLink R_Fu 164 y_Cl_pattern : Cond) ∈ gw := gw_of (List.mem_append_right _ (List.mem_append_right _ (List.mem_append_right _ (List.mem_append_left _ (List.mem_of_getElem? (i := 77) (by decide +kernel)))))) rfl
theorem gm_585 : (Cond.methodLink R_Fu 167 y_Te_part : Cond) ∈ gw := gw_of (List.mem_append_right _ (List.mem_append_right _ (List.mem_append_right _ (List.mem_append_left _ (List.mem_of_getElem? (i := 78) (by decide +kernel)))))) rfl
theorem gm_586 : (Cond.methodLink R_Fu 170 y_En_arcBetween : Cond) ∈ gw := gw_of (List.mem_append_right _ (List.mem_append_right _ (List.mem_append_right _ (List.mem_append_left _ (List.mem_of_getElem? (i := 79) (by decide +kernel)))))) rfl
theorem gm_587 : (Cond.methodLink R_La 92 y_La_run : Cond) ∈ gw := gw_of (List.mem_append_right _ (List.mem_append_right _ (List.mem_append_right _ (List.mem_append_left _ (List.mem_of_getElem? (i := 80) (by decide +kernel)))))) rfl
theorem gm_588 : (Cond.static y_La_run : Cond) ∈ gw := gw_of (List.mem_append_right _ (List.mem_append_right _ (List.mem_append_right _ (List.mem_append_left _ (List.mem_of_getElem? (i := 81) (by decide +kernel)))))) rfl
theorem gm_589 : (Cond.methodLink R_La 37 y_Fu_run : Cond) ∈ gw := gw_of (List.mem_append_right _ (List.mem_append_right _ (List.mem_append_right _ (List.mem_append_left _ (List.mem_of_getElem? (i := 83) (by decide +kernel)))))) rfl
theorem gm_590 : (Cond.instanceMethod y_Fu_run : Cond) ∈ gw := gw_of (List.mem_append_right _ (List.mem_append_right _ (List.mem_append_right _ (List.mem_append_left _ (List.mem_of_getElem? (i := 84) (by decide +kernel)))))) rfl
theorem gm_591 : (Cond.selects R_Fu y_Fu_run y_Fu_run : Cond) ∈ gw := gw_of (List.mem_append_right _ (List.mem_append_right _ (List.mem_append_right _ (List.mem_append_left _ (List.mem_of_getElem? (i := 85) (by decide +kernel)))))) rfl
theorem gm_592 : (Cond.code y_Fu_run b_Fu_run 5 (some .int) : Cond) ∈ gw := gw_of (List.mem_append_right _ (List.mem_append_right _ (List.mem_append_right _ (List.mem_append_left _ (List.mem_of_getElem? (i := 86) (by decide +kernel)))))) rfl
theorem gm_593 : (Cond.methodLink R_Fu 183 y_Fu_areArguments : Cond) ∈ gw := gw_of (List.mem_append_right _ (List.mem_append_right _ (List.mem_append_right _ (List.mem_append_left _ (List.mem_of_getElem? (i := 88) (by decide +kernel)))))) rfl
theorem gm_594 : (Cond.instanceMethod y_Fu_areArguments : Cond) ∈ gw := gw_of (List.mem_append_right _ (List.mem_append_right _ (List.mem_append_right _ (List.mem_append_left _ (List.mem_of_getElem? (i := 90) (by decide +kernel)))))) rfl
theorem gm_595 : (Cond.code y_Fu_areArguments b_Fu_areArguments 6 (some .boolean) : Cond) ∈ gw := gw_of (List.mem_append_right _ (List.mem_append_right _ (List.mem_append_right _ (List.mem_append_left _ (List.mem_of_getElem? (i := 91) (by decide +kernel)))))) rfl
theorem gm_596 : (Cond.methodLink R_Fu 228 y_Sg_placeType : Cond) ∈ gw := gw_of (List.mem_append_right _ (List.mem_append_right _ (List.mem_append_right _ (List.mem_append_left _ (List.mem_of_getElem? (i := 92) (by decide +kernel)))))) rfl
theorem gm_597 : (Cond.methodLink R_Fu 231 y_Fu_isValue : Cond) ∈ gw := gw_of (List.mem_append_right _ (List.mem_append_right _ (List.mem_append_right _ (List.mem_append_left _ (List.mem_of_getElem? (i := 93) (by decide +kernel)))))) rfl
theorem gm_598 : (Cond.methodLink R_Fu 188 y_Ma_perform : Cond) ∈ gw := gw_of (List.mem_append_right _ (List.mem_append_right _ (List.mem_append_right _ (List.mem_append_left _ (List.mem_of_getElem? (i := 95) (by decide +kernel)))))) rfl
theorem gm_599 : (Cond.instanceMethod y_Ma_perform : Cond) ∈ gw := gw_of (List.mem_append_right _ (List.mem_append_right _ (List.mem_append_right _ (List.mem_append_left _ (List.mem_of_getElem? (i := 96) (by decide +kernel)))))) rfl
theorem gm_600 : (Cond.selects R_Ma y_Ma_perform y_Ma_perform : Cond) ∈ gw := gw_of (List.mem_append_right _ (List.mem_append_right _ (List.mem_append_right _ (List.mem_append_left _ (List.mem_of_getElem? (i := 97) (by decide +kernel)))))) rfl
theorem gm_601 : (Cond.code y_Ma_perform b_Ma_perform 6 (some .int) : Cond) ∈ gw := gw_of (List.mem_append_right _ (List.mem_append_right _ (List.mem_append_right _ (List.mem_append_left _ (List.mem_of_getElem? (i := 98) (by decide +kernel)))))) rfl
theorem gm_602 : (Cond.methodLink R_Ma 58 y_Va_forgetMade : Cond) ∈ gw := gw_of (List.mem_append_right _ (List.mem_append_right _ (List.mem_append_right _ (List.mem_append_left _ (List.mem_of_getElem? (i := 99) (by decide +kernel)))))) rfl
theorem gm_603 : (Cond.instanceMethod y_Va_forgetMade : Cond) ∈ gw := gw_of (List.mem_append_right _ (List.mem_append_right _ (List.mem_append_right _ (List.mem_append_left _ (List.mem_of_getElem? (i := 100) (by decide +kernel)))))) rfl
theorem gm_604 : (Cond.selects R_Va y_Va_forgetMade y_Va_forgetMade : Cond) ∈ gw := gw_of (List.mem_append_right _ (List.mem_append_right _ (List.mem_append_right _ (List.mem_append_left _ (List.mem_of_getElem? (i := 101) (by decide +kernel)))))) rfl
theorem gm_605 : (Cond.code y_Va_forgetMade b_Va_forgetMade 1 none : Cond) ∈ gw := gw_of (List.mem_append_right _ (List.mem_append_right _ (List.mem_append_right _ (List.mem_append_left _ (List.mem_of_getElem? (i := 102) (by decide +kernel)))))) rfl
theorem gm_606 : (Cond.methodLink R_Ma 71 y_Sg_width : Cond) ∈ gw := gw_of (List.mem_append_right _ (List.mem_append_right _ (List.mem_append_right _ (List.mem_append_left _ (List.mem_of_getElem? (i := 103) (by decide +kernel)))))) rfl
theorem gm_607 : (Cond.methodLink R_Ma 81 y_Ma_hold : Cond) ∈ gw := gw_of (List.mem_append_right _ (List.mem_append_right _ (List.mem_append_right _ (List.mem_append_left _ (List.mem_of_getElem? (i := 105) (by decide +kernel)))))) rfl
theorem gm_608 : (Cond.instanceMethod y_Ma_hold : Cond) ∈ gw := gw_of (List.mem_append_right _ (List.mem_append_right _ (List.mem_append_right _ (List.mem_append_left _ (List.mem_of_getElem? (i := 107) (by decide +kernel)))))) rfl
theorem gm_609 : (Cond.code y_Ma_hold b_Ma_hold 2 none : Cond) ∈ gw := gw_of (List.mem_append_right _ (List.mem_append_right _ (List.mem_append_right _ (List.mem_append_left _ (List.mem_of_getElem? (i := 108) (by decide +kernel)))))) rfl
theorem gm_610 : (Cond.methodLink R_Ma 85 y_Ma_step : Cond) ∈ gw := gw_of (List.mem_append_right _ (List.mem_append_right _ (List.mem_append_right _ (List.mem_append_left _ (List.mem_of_getElem? (i := 109) (by decide +kernel)))))) rfl
theorem gm_611 : (Cond.instanceMethod y_Ma_step : Cond) ∈ gw := gw_of (List.mem_append_right _ (List.mem_append_right _ (List.mem_append_right _ (List.mem_append_left _ (List.mem_of_getElem? (i := 111) (by decide +kernel)))))) rfl
theorem gm_612 : (Cond.code y_Ma_step b_Ma_step 6 none : Cond) ∈ gw := gw_of (List.mem_append_right _ (List.mem_append_right _ (List.mem_append_right _ (List.mem_append_left _ (List.mem_of_getElem? (i := 112) (by decide +kernel)))))) rfl
theorem gm_613 : (Cond.methodLink R_Ma 129 y_Cl_howManyOf : Cond) ∈ gw := gw_of (List.mem_append_right _ (List.mem_append_right _ (List.mem_append_right _ (List.mem_append_left _ (List.mem_of_getElem? (i := 113) (by decide +kernel)))))) rfl
theorem gm_614 : (Cond.methodLink R_Ma 134 y_Cl_ofFunction : Cond) ∈ gw := gw_of (List.mem_append_right _ (List.mem_append_right _ (List.mem_append_right _ (List.mem_append_left _ (List.mem_of_getElem? (i := 114) (by decide +kernel)))))) rfl
theorem gm_615 : (Cond.methodLink R_Ma 137 y_Ma_matchesAll : Cond) ∈ gw := gw_of (List.mem_append_right _ (List.mem_append_right _ (List.mem_append_right _ (List.mem_append_left _ (List.mem_of_getElem? (i := 115) (by decide +kernel)))))) rfl
theorem gm_616 : (Cond.instanceMethod y_Ma_matchesAll : Cond) ∈ gw := gw_of (List.mem_append_right _ (List.mem_append_right _ (List.mem_append_right _ (List.mem_append_left _ (List.mem_of_getElem? (i := 117) (by decide +kernel)))))) rfl
theorem gm_617 : (Cond.code y_Ma_matchesAll b_Ma_matchesAll 5 (some .boolean) : Cond) ∈ gw := gw_of (List.mem_append_right _ (List.mem_append_right _ (List.mem_append_right _ (List.mem_append_left _ (List.mem_of_getElem? (i := 118) (by decide +kernel)))))) rfl
theorem gm_618 : (Cond.methodLink R_Ma 144 y_Cl_pattern : Cond) ∈ gw := gw_of (List.mem_append_right _ (List.mem_append_right _ (List.mem_append_right _ (List.mem_append_left _ (List.mem_of_getElem? (i := 119) (by decide +kernel)))))) rfl
theorem gm_619 : (Cond.methodLink R_Ma 147 y_Ma_matches : Cond) ∈ gw := gw_of (List.mem_append_right _ (List.mem_append_right _ (List.mem_append_right _ (List.mem_append_left _ (List.mem_of_getElem? (i := 120) (by decide +kernel)))))) rfl
theorem gm_620 : (Cond.instanceMethod y_Ma_matches : Cond) ∈ gw := gw_of (List.mem_append_right _ (List.mem_append_right _ (List.mem_append_right _ (List.mem_append_left _ (List.mem_of_getElem? (i := 122) (by decide +kernel)))))) rfl
theorem gm_621 : (Cond.code y_Ma_matches b_Ma_matches 5 (some .boolean) : Cond) ∈ gw := gw_of (List.mem_append_right _ (List.mem_append_right _ (List.mem_append_right _ (List.mem_append_left _ (List.mem_of_getElem? (i := 123) (by decide +kernel)))))) rfl
theorem gm_622 : (Cond.methodLink R_Ma 115 y_Te_isVariable : Cond) ∈ gw := gw_of (List.mem_append_right _ (List.mem_append_right _ (List.mem_append_right _ (List.mem_append_left _ (List.mem_of_getElem? (i := 124) (by decide +kernel)))))) rfl
theorem gm_623 : (Cond.methodLink R_Ma 109 y_Te_head : Cond) ∈ gw := gw_of (List.mem_append_right _ (List.mem_append_right _ (List.mem_append_right _ (List.mem_append_left _ (List.mem_of_getElem? (i := 125) (by decide +kernel)))))) rfl
theorem gm_624 : (Cond.methodLink R_Ma 150 y_Va_maker : Cond) ∈ gw := gw_of (List.mem_append_right _ (List.mem_append_right _ (List.mem_append_right _ (List.mem_append_left _ (List.mem_of_getElem? (i := 126) (by decide +kernel)))))) rfl
theorem gm_625 : (Cond.instanceMethod y_Va_maker : Cond) ∈ gw := gw_of (List.mem_append_right _ (List.mem_append_right _ (List.mem_append_right _ (List.mem_append_left _ (List.mem_of_getElem? (i := 127) (by decide +kernel)))))) rfl
theorem gm_626 : (Cond.selects R_Va y_Va_maker y_Va_maker : Cond) ∈ gw := gw_of (List.mem_append_right _ (List.mem_append_right _ (List.mem_append_right _ (List.mem_append_left _ (List.mem_of_getElem? (i := 128) (by decide +kernel)))))) rfl
theorem gm_627 : (Cond.code y_Va_maker b_Va_maker 2 (some .int) : Cond) ∈ gw := gw_of (List.mem_append_right _ (List.mem_append_right _ (List.mem_append_right _ (List.mem_append_left _ (List.mem_of_getElem? (i := 129) (by decide +kernel)))))) rfl
theorem gm_628 : (Cond.methodLink R_Va 33 y_Te_head : Cond) ∈ gw := gw_of (List.mem_append_right _ (List.mem_append_right _ (List.mem_append_right _ (List.mem_append_left _ (List.mem_of_getElem? (i := 130) (by decide +kernel)))))) rfl
theorem gm_629 : (Cond.methodLink R_Ma 94 y_Te_width : Cond) ∈ gw := gw_of (List.mem_append_right _ (List.mem_append_right _ (List.mem_append_right _ (List.mem_append_left _ (List.mem_of_getElem? (i := 131) (by decide +kernel)))))) rfl
theorem gm_630 : (Cond.methodLink R_Ma 97 y_Te_part : Cond) ∈ gw := gw_of (List.mem_append_right _ (List.mem_append_right _ (List.mem_append_right _ (List.mem_append_left _ (List.mem_of_getElem? (i := 132) (by decide +kernel)))))) rfl
theorem gm_631 : (Cond.methodLink R_Ma 153 y_Va_part : Cond) ∈ gw := gw_of (List.mem_append_right _ (List.mem_append_right _ (List.mem_append_right _ (List.mem_append_left _ (List.mem_of_getElem? (i := 133) (by decide +kernel)))))) rfl
theorem gm_632 : (Cond.instanceMethod y_Va_part : Cond) ∈ gw := gw_of (List.mem_append_right _ (List.mem_append_right _ (List.mem_append_right _ (List.mem_append_left _ (List.mem_of_getElem? (i := 134) (by decide +kernel)))))) rfl
theorem gm_633 : (Cond.selects R_Va y_Va_part y_Va_part : Cond) ∈ gw := gw_of (List.mem_append_right _ (List.mem_append_right _ (List.mem_append_right _ (List.mem_append_left _ (List.mem_of_getElem? (i := 135) (by decide +kernel)))))) rfl
theorem gm_634 : (Cond.code y_Va_part b_Va_part 3 (some .int) : Cond) ∈ gw := gw_of (List.mem_append_right _ (List.mem_append_right _ (List.mem_append_right _ (List.mem_append_left _ (List.mem_of_getElem? (i := 136) (by decide +kernel)))))) rfl
theorem gm_635 : (Cond.methodLink R_Va 46 y_Te_part : Cond) ∈ gw := gw_of (List.mem_append_right _ (List.mem_append_right _ (List.mem_append_right _ (List.mem_append_left _ (List.mem_of_getElem? (i := 137) (by decide +kernel)))))) rfl
theorem gm_636 : (Cond.methodLink R_Ma 141 y_Cl_body : Cond) ∈ gw := gw_of (List.mem_append_right _ (List.mem_append_right _ (List.mem_append_right _ (List.mem_append_left _ (List.mem_of_getElem? (i := 138) (by decide +kernel)))))) rfl
theorem gm_637 : (Cond.methodLink R_Ma 101 y_Ma_open : Cond) ∈ gw := gw_of (List.mem_append_right _ (List.mem_append_right _ (List.mem_append_right _ (List.mem_append_left _ (List.mem_of_getElem? (i := 139) (by decide +kernel)))))) rfl
theorem gm_638 : (Cond.instanceMethod y_Ma_open : Cond) ∈ gw := gw_of (List.mem_append_right _ (List.mem_append_right _ (List.mem_append_right _ (List.mem_append_left _ (List.mem_of_getElem? (i := 141) (by decide +kernel)))))) rfl
theorem gm_639 : (Cond.code y_Ma_open b_Ma_open 3 none : Cond) ∈ gw := gw_of (List.mem_append_right _ (List.mem_append_right _ (List.mem_append_right _ (List.mem_append_left _ (List.mem_of_getElem? (i := 142) (by decide +kernel)))))) rfl
theorem gm_640 : (Cond.methodLink R_Ma 88 y_Ma_turn : Cond) ∈ gw := gw_of (List.mem_append_right _ (List.mem_append_right _ (List.mem_append_right _ (List.mem_append_left _ (List.mem_of_getElem? (i := 143) (by decide +kernel)))))) rfl
theorem gm_641 : (Cond.instanceMethod y_Ma_turn : Cond) ∈ gw := gw_of (List.mem_append_right _ (List.mem_append_right _ (List.mem_append_right _ (List.mem_append_left _ (List.mem_of_getElem? (i := 145) (by decide +kernel)))))) rfl
theorem gm_642 : (Cond.code y_Ma_turn b_Ma_turn 4 none : Cond) ∈ gw := gw_of (List.mem_append_right _ (List.mem_append_right _ (List.mem_append_right _ (List.mem_append_left _ (List.mem_of_getElem? (i := 146) (by decide +kernel)))))) rfl
theorem gm_643 : (Cond.methodLink R_Ma 105 y_Te_isMade : Cond) ∈ gw := gw_of (List.mem_append_right _ (List.mem_append_right _ (List.mem_append_right _ (List.mem_append_left _ (List.mem_of_getElem? (i := 147) (by decide +kernel)))))) rfl
theorem gm_644 : (Cond.methodLink R_Ma 112 y_Ma_build : Cond) ∈ gw := gw_of (List.mem_append_right _ (List.mem_append_right _ (List.mem_append_right _ (List.mem_append_left _ (List.mem_of_getElem? (i := 148) (by decide +kernel)))))) rfl
theorem gm_645 : (Cond.instanceMethod y_Ma_build : Cond) ∈ gw := gw_of (List.mem_append_right _ (List.mem_append_right _ (List.mem_append_right _ (List.mem_append_left _ (List.mem_of_getElem? (i := 150) (by decide +kernel)))))) rfl
theorem gm_646 : (Cond.code y_Ma_build b_Ma_build 4 none : Cond) ∈ gw := gw_of (List.mem_append_right _ (List.mem_append_right _ (List.mem_append_right _ (List.mem_append_left _ (List.mem_of_getElem? (i := 151) (by decide +kernel)))))) rfl
theorem gm_647 : (Cond.methodLink R_Ma 118 y_Va_isFull : Cond) ∈ gw := gw_of (List.mem_append_right _ (List.mem_append_right _ (List.mem_append_right _ (List.mem_append_left _ (List.mem_of_getElem? (i := 152) (by decide +kernel)))))) rfl
theorem gm_648 : (Cond.instanceMethod y_Va_isFull : Cond) ∈ gw := gw_of (List.mem_append_right _ (List.mem_append_right _ (List.mem_append_right _ (List.mem_append_left _ (List.mem_of_getElem? (i := 153) (by decide +kernel)))))) rfl
theorem gm_649 : (Cond.selects R_Va y_Va_isFull y_Va_isFull : Cond) ∈ gw := gw_of (List.mem_append_right _ (List.mem_append_right _ (List.mem_append_right _ (List.mem_append_left _ (List.mem_of_getElem? (i := 154) (by decide +kernel)))))) rfl
theorem gm_650 : (Cond.code y_Va_isFull b_Va_isFull 1 (some .boolean) : Cond) ∈ gw := gw_of (List.mem_append_right _ (List.mem_append_right _ (List.mem_append_right _ (List.mem_append_left _ (List.mem_of_getElem? (i := 155) (by decide +kernel)))))) rfl
theorem gm_651 : (Cond.methodLink R_Ma 122 y_Va_add : Cond) ∈ gw := gw_of (List.mem_append_right _ (List.mem_append_right _ (List.mem_append_right _ (List.mem_append_left _ (List.mem_of_getElem? (i := 156) (by decide +kernel)))))) rfl
theorem gm_652 : (Cond.instanceMethod y_Va_add : Cond) ∈ gw := gw_of (List.mem_append_right _ (List.mem_append_right _ (List.mem_append_right _ (List.mem_append_left _ (List.mem_of_getElem? (i := 157) (by decide +kernel)))))) rfl
theorem gm_653 : (Cond.selects R_Va y_Va_add y_Va_add : Cond) ∈ gw := gw_of (List.mem_append_right _ (List.mem_append_right _ (List.mem_append_right _ (List.mem_append_left _ (List.mem_of_getElem? (i := 158) (by decide +kernel)))))) rfl
theorem gm_654 : (Cond.code y_Va_add b_Va_add 5 (some .int) : Cond) ∈ gw := gw_of (List.mem_append_right _ (List.mem_append_right _ (List.mem_append_right _ (List.mem_append_left _ (List.mem_of_getElem? (i := 159) (by decide +kernel)))))) rfl
theorem gm_655 : (Cond.methodLink R_Va 41 y_Sg_width : Cond) ∈ gw := gw_of (List.mem_append_right _ (List.mem_append_right _ (List.mem_append_right _ (List.mem_append_left _ (List.mem_of_getElem? (i := 160) (by decide +kernel)))))) rfl
theorem gm_656 : (Cond.methodLink R_Va 51 y_Va_size : Cond) ∈ gw := gw_of (List.mem_append_right _ (List.mem_append_right _ (List.mem_append_right _ (List.mem_append_left _ (List.mem_of_getElem? (i := 161) (by decide +kernel)))))) rfl
theorem gm_657 : (Cond.instanceMethod y_Va_size : Cond) ∈ gw := gw_of (List.mem_append_right _ (List.mem_append_right _ (List.mem_append_right _ (List.mem_append_left _ (List.mem_of_getElem? (i := 162) (by decide +kernel)))))) rfl
theorem gm_658 : (Cond.selects R_Va y_Va_size y_Va_size : Cond) ∈ gw := gw_of (List.mem_append_right _ (List.mem_append_right _ (List.mem_append_right _ (List.mem_append_left _ (List.mem_of_getElem? (i := 163) (by decide +kernel)))))) rfl
theorem gm_659 : (Cond.code y_Va_size b_Va_size 2 (some .int) : Cond) ∈ gw := gw_of (List.mem_append_right _ (List.mem_append_right _ (List.mem_append_right _ (List.mem_append_left _ (List.mem_of_getElem? (i := 164) (by decide +kernel)))))) rfl
theorem gm_660 : (Cond.methodLink R_Va 49 y_Te_size : Cond) ∈ gw := gw_of (List.mem_append_right _ (List.mem_append_right _ (List.mem_append_right _ (List.mem_append_left _ (List.mem_of_getElem? (i := 165) (by decide +kernel)))))) rfl
theorem gm_661 : (Cond.instanceMethod y_Te_size : Cond) ∈ gw := gw_of (List.mem_append_right _ (List.mem_append_right _ (List.mem_append_right _ (List.mem_append_left _ (List.mem_of_getElem? (i := 166) (by decide +kernel)))))) rfl
theorem gm_662 : (Cond.selects R_Te y_Te_size y_Te_size : Cond) ∈ gw := gw_of (List.mem_append_right _ (List.mem_append_right _ (List.mem_append_right _ (List.mem_append_left _ (List.mem_of_getElem? (i := 167) (by decide +kernel)))))) rfl
theorem gm_663 : (Cond.code y_Te_size b_Te_size 2 (some .int) : Cond) ∈ gw := gw_of (List.mem_append_right _ (List.mem_append_right _ (List.mem_append_right _ (List.mem_append_left _ (List.mem_of_getElem? (i := 168) (by decide +kernel)))))) rfl
theorem gm_664 : (Cond.methodLink R_Ma 126 y_Va_size : Cond) ∈ gw := gw_of (List.mem_append_right _ (List.mem_append_right _ (List.mem_append_right _ (List.mem_append_left _ (List.mem_of_getElem? (i := 169) (by decide +kernel)))))) rfl
theorem gm_665 : (Cond.methodLink R_Ma 91 y_Ma_writeAnswer : Cond) ∈ gw := gw_of (List.mem_append_right _ (List.mem_append_right _ (List.mem_append_right _ (List.mem_append_left _ (List.mem_of_getElem? (i := 170) (by decide +kernel)))))) rfl
theorem gm_666 : (Cond.instanceMethod y_Ma_writeAnswer : Cond) ∈ gw := gw_of (List.mem_append_right _ (List.mem_append_right _ (List.mem_append_right _ (List.mem_append_left _ (List.mem_of_getElem? (i := 172) (by decide +kernel)))))) rfl
theorem gm_667 : (Cond.code y_Ma_writeAnswer b_Ma_writeAnswer 5 none : Cond) ∈ gw := gw_of (List.mem_append_right _ (List.mem_append_right _ (List.mem_append_right _ (List.mem_append_left _ (List.mem_of_getElem? (i := 173) (by decide +kernel)))))) rfl
theorem gm_668 : (Cond.methodLink R_Ma 154 y_Va_width : Cond) ∈ gw := gw_of (List.mem_append_right _ (List.mem_append_right _ (List.mem_append_right _ (List.mem_append_left _ (List.mem_of_getElem? (i := 174) (by decide +kernel)))))) rfl
theorem gm_669 : (Cond.instanceMethod y_Va_width : Cond) ∈ gw := gw_of (List.mem_append_right _ (List.mem_append_right _ (List.mem_append_right _ (List.mem_append_left _ (List.mem_of_getElem? (i := 175) (by decide +kernel)))))) rfl
theorem gm_670 : (Cond.selects R_Va y_Va_width y_Va_width : Cond) ∈ gw := gw_of (List.mem_append_right _ (List.mem_append_right _ (List.mem_append_right _ (List.mem_append_left _ (List.mem_of_getElem? (i := 176) (by decide +kernel)))))) rfl
theorem gm_671 : (Cond.code y_Va_width b_Va_width 2 (some .int) : Cond) ∈ gw := gw_of (List.mem_append_right _ (List.mem_append_right _ (List.mem_append_right _ (List.mem_append_left _ (List.mem_of_getElem? (i := 177) (by decide +kernel)))))) rfl
theorem gm_672 : (Cond.methodLink R_Va 39 y_Va_maker : Cond) ∈ gw := gw_of (List.mem_append_right _ (List.mem_append_right _ (List.mem_append_right _ (List.mem_append_left _ (List.mem_of_getElem? (i := 178) (by decide +kernel)))))) rfl
theorem gm_673 : (Cond.methodLink R_La 95 y_La_answer : Cond) ∈ gw := gw_of (List.mem_append_right _ (List.mem_append_right _ (List.mem_append_right _ (List.mem_append_left _ (List.mem_of_getElem? (i := 179) (by decide +kernel)))))) rfl
theorem gm_674 : (Cond.static y_La_answer : Cond) ∈ gw := gw_of (List.mem_append_right _ (List.mem_append_right _ (List.mem_append_right _ (List.mem_append_left _ (List.mem_of_getElem? (i := 180) (by decide +kernel)))))) rfl
theorem gm_675 : (Cond.classLink R_La 43 "java/lang/IndexOutOfBoundsException" : Cond) ∈ gw := gw_of (List.mem_append_right _ (List.mem_append_right _ (List.mem_append_right _ (List.mem_append_left _ (List.mem_of_getElem? (i := 182) (by decide +kernel)))))) rfl
theorem gm_676 : (Cond.methodLink R_La 40 y_Fu_answer : Cond) ∈ gw := gw_of (List.mem_append_right _ (List.mem_append_right _ (List.mem_append_right _ (List.mem_append_left _ (List.mem_of_getElem? (i := 183) (by decide +kernel)))))) rfl
theorem gm_677 : (Cond.instanceMethod y_Fu_answer : Cond) ∈ gw := gw_of (List.mem_append_right _ (List.mem_append_right _ (List.mem_append_right _ (List.mem_append_left _ (List.mem_of_getElem? (i := 184) (by decide +kernel)))))) rfl
theorem gm_678 : (Cond.selects R_Fu y_Fu_answer y_Fu_answer : Cond) ∈ gw := gw_of (List.mem_append_right _ (List.mem_append_right _ (List.mem_append_right _ (List.mem_append_left _ (List.mem_of_getElem? (i := 185) (by decide +kernel)))))) rfl
theorem gm_679 : (Cond.code y_Fu_answer b_Fu_answer 2 (some .int) : Cond) ∈ gw := gw_of (List.mem_append_right _ (List.mem_append_right _ (List.mem_append_right _ (List.mem_append_left _ (List.mem_of_getElem? (i := 186) (by decide +kernel)))))) rfl
theorem gm_680 : (Cond.methodLink R_Fu 191 y_Ma_answerSize : Cond) ∈ gw := gw_of (List.mem_append_right _ (List.mem_append_right _ (List.mem_append_right _ (List.mem_append_left _ (List.mem_of_getElem? (i := 187) (by decide +kernel)))))) rfl
theorem gm_681 : (Cond.instanceMethod y_Ma_answerSize : Cond) ∈ gw := gw_of (List.mem_append_right _ (List.mem_append_right _ (List.mem_append_right _ (List.mem_append_left _ (List.mem_of_getElem? (i := 188) (by decide +kernel)))))) rfl
theorem gm_682 : (Cond.selects R_Ma y_Ma_answerSize y_Ma_answerSize : Cond) ∈ gw := gw_of (List.mem_append_right _ (List.mem_append_right _ (List.mem_append_right _ (List.mem_append_left _ (List.mem_of_getElem? (i := 189) (by decide +kernel)))))) rfl
theorem gm_683 : (Cond.code y_Ma_answerSize b_Ma_answerSize 1 (some .int) : Cond) ∈ gw := gw_of (List.mem_append_right _ (List.mem_append_right _ (List.mem_append_right _ (List.mem_append_left _ (List.mem_of_getElem? (i := 190) (by decide +kernel)))))) rfl
theorem gm_684 : (Cond.classLink R_Fu 194 "java/lang/IndexOutOfBoundsException" : Cond) ∈ gw := gw_of (List.mem_append_right _ (List.mem_append_right _ (List.mem_append_right _ (List.mem_append_left _ (List.mem_of_getElem? (i := 191) (by decide +kernel)))))) rfl
theorem gm_685 : (Cond.methodLink R_Fu 199 y_Ma_answerAt : Cond) ∈ gw := gw_of (List.mem_append_right _ (List.mem_append_right _ (List.mem_append_right _ (List.mem_append_left _ (List.mem_of_getElem? (i := 207) (by decide +kernel)))))) rfl
theorem gm_686 : (Cond.instanceMethod y_Ma_answerAt : Cond) ∈ gw := gw_of (List.mem_append_right _ (List.mem_append_right _ (List.mem_append_right _ (List.mem_append_left _ (List.mem_of_getElem? (i := 208) (by decide +kernel)))))) rfl
theorem gm_687 : (Cond.selects R_Ma y_Ma_answerAt y_Ma_answerAt : Cond) ∈ gw := gw_of (List.mem_append_right _ (List.mem_append_right _ (List.mem_append_right _ (List.mem_append_left _ (List.mem_of_getElem? (i := 209) (by decide +kernel)))))) rfl
theorem gm_688 : (Cond.code y_Ma_answerAt b_Ma_answerAt 2 (some .int) : Cond) ∈ gw := gw_of (List.mem_append_right _ (List.mem_append_right _ (List.mem_append_right _ (List.mem_append_left _ (List.mem_of_getElem? (i := 210) (by decide +kernel)))))) rfl
theorem gm_689 : (Cond.classLink R_La 46 R_Mo : Cond) ∈ gw := gw_of (List.mem_append_right _ (List.mem_append_right _ (List.mem_append_right _ (List.mem_append_left _ (List.mem_of_getElem? (i := 211) (by decide +kernel)))))) rfl
theorem gm_690 : (Cond.instantiable R_Mo 45 : Cond) ∈ gw := gw_of (List.mem_append_right _ (List.mem_append_right _ (List.mem_append_right _ (List.mem_append_left _ (List.mem_of_getElem? (i := 212) (by decide +kernel)))))) rfl
theorem gm_691 : (Cond.methodLink R_La 48 y_Mo_init : Cond) ∈ gw := gw_of (List.mem_append_right _ (List.mem_append_right _ (List.mem_append_right _ (List.mem_append_left _ (List.mem_of_getElem? (i := 213) (by decide +kernel)))))) rfl
theorem gm_692 : (Cond.instanceMethod y_Mo_init : Cond) ∈ gw := gw_of (List.mem_append_right _ (List.mem_append_right _ (List.mem_append_right _ (List.mem_append_left _ (List.mem_of_getElem? (i := 214) (by decide +kernel)))))) rfl
theorem gm_693 : (Cond.code y_Mo_init b_Mo_init 1 none : Cond) ∈ gw := gw_of (List.mem_append_right _ (List.mem_append_right _ (List.mem_append_right _ (List.mem_append_left _ (List.mem_of_getElem? (i := 215) (by decide +kernel)))))) rfl
theorem gm_694 : (Cond.methodLink R_Mo 1 objectInit : Cond) ∈ gw := gw_of (List.mem_append_right _ (List.mem_append_right _ (List.mem_append_right _ (List.mem_append_left _ (List.mem_of_getElem? (i := 216) (by decide +kernel)))))) rfl
theorem gm_695 : (Cond.fieldLink R_Mo 116 "SureFunctionsModel" "constructors" "I" : Cond) ∈ gw := gw_of (List.mem_append_right _ (List.mem_append_right _ (List.mem_append_right _ (List.mem_append_left _ (List.mem_of_getElem? (i := 217) (by decide +kernel)))))) rfl
theorem gm_696 : (Cond.fieldLink R_Mo 7 "SureFunctionsModel" "makes" "[I" : Cond) ∈ gw := gw_of (List.mem_append_right _ (List.mem_append_right _ (List.mem_append_right _ (List.mem_append_left _ (List.mem_of_getElem? (i := 218) (by decide +kernel)))))) rfl
theorem gm_697 : (Cond.fieldLink R_Mo 13 "SureFunctionsModel" "parts" "[I" : Cond) ∈ gw := gw_of (List.mem_append_right _ (List.mem_append_right _ (List.mem_append_right _ (List.mem_append_left _ (List.mem_of_getElem? (i := 219) (by decide +kernel)))))) rfl
theorem gm_698 : (Cond.fieldLink R_Mo 16 "SureFunctionsModel" "partType" "[I" : Cond) ∈ gw := gw_of (List.mem_append_right _ (List.mem_append_right _ (List.mem_append_right _ (List.mem_append_left _ (List.mem_of_getElem? (i := 220) (by decide +kernel)))))) rfl
theorem gm_699 : (Cond.fieldLink R_Mo 127 "SureFunctionsModel" "functions" "I" : Cond) ∈ gw := gw_of (List.mem_append_right _ (List.mem_append_right _ (List.mem_append_right _ (List.mem_append_left _ (List.mem_of_getElem? (i := 221) (by decide +kernel)))))) rfl
theorem gm_700 : (Cond.fieldLink R_Mo 19 "SureFunctionsModel" "answers" "[I" : Cond) ∈ gw := gw_of (List.mem_append_right _ (List.mem_append_right _ (List.mem_append_right _ (List.mem_append_left _ (List.mem_of_getElem? (i := 222) (by decide +kernel)))))) rfl
theorem gm_701 : (Cond.fieldLink R_Mo 22 "SureFunctionsModel" "arguments" "[I" : Cond) ∈ gw := gw_of (List.mem_append_right _ (List.mem_append_right _ (List.mem_append_right _ (List.mem_append_left _ (List.mem_of_getElem? (i := 223) (by decide +kernel)))))) rfl
theorem gm_702 : (Cond.fieldLink R_Mo 25 "SureFunctionsModel" "argumentType" "[I" : Cond) ∈ gw := gw_of (List.mem_append_right _ (List.mem_append_right _ (List.mem_append_right _ (List.mem_append_left _ (List.mem_of_getElem? (i := 224) (by decide +kernel)))))) rfl
theorem gm_703 : (Cond.fieldLink R_Mo 130 "SureFunctionsModel" "terms" "I" : Cond) ∈ gw := gw_of (List.mem_append_right _ (List.mem_append_right _ (List.mem_append_right _ (List.mem_append_left _ (List.mem_of_getElem? (i := 225) (by decide +kernel)))))) rfl
theorem gm_704 : (Cond.fieldLink R_Mo 28 "SureFunctionsModel" "head" "[I" : Cond) ∈ gw := gw_of (List.mem_append_right _ (List.mem_append_right _ (List.mem_append_right _ (List.mem_append_left _ (List.mem_of_getElem? (i := 226) (by decide +kernel)))))) rfl
theorem gm_705 : (Cond.fieldLink R_Mo 31 "SureFunctionsModel" "below" "[I" : Cond) ∈ gw := gw_of (List.mem_append_right _ (List.mem_append_right _ (List.mem_append_right _ (List.mem_append_left _ (List.mem_of_getElem? (i := 227) (by decide +kernel)))))) rfl
theorem gm_706 : (Cond.fieldLink R_Mo 34 "SureFunctionsModel" "height" "[I" : Cond) ∈ gw := gw_of (List.mem_append_right _ (List.mem_append_right _ (List.mem_append_right _ (List.mem_append_left _ (List.mem_of_getElem? (i := 228) (by decide +kernel)))))) rfl
theorem gm_707 : (Cond.fieldLink R_Mo 37 "SureFunctionsModel" "size" "[I" : Cond) ∈ gw := gw_of (List.mem_append_right _ (List.mem_append_right _ (List.mem_append_right _ (List.mem_append_left _ (List.mem_of_getElem? (i := 229) (by decide +kernel)))))) rfl
theorem gm_708 : (Cond.fieldLink R_Mo 166 "SureFunctionsModel" "clauses" "I" : Cond) ∈ gw := gw_of (List.mem_append_right _ (List.mem_append_right _ (List.mem_append_right _ (List.mem_append_left _ (List.mem_of_getElem? (i := 230) (by decide +kernel)))))) rfl
theorem gm_709 : (Cond.fieldLink R_Mo 40 "SureFunctionsModel" "clauseOf" "[I" : Cond) ∈ gw := gw_of (List.mem_append_right _ (List.mem_append_right _ (List.mem_append_right _ (List.mem_append_left _ (List.mem_of_getElem? (i := 231) (by decide +kernel)))))) rfl
theorem gm_710 : (Cond.fieldLink R_Mo 43 "SureFunctionsModel" "pattern" "[I" : Cond) ∈ gw := gw_of (List.mem_append_right _ (List.mem_append_right _ (List.mem_append_right _ (List.mem_append_left _ (List.mem_of_getElem? (i := 232) (by decide +kernel)))))) rfl
theorem gm_711 : (Cond.fieldLink R_Mo 46 "SureFunctionsModel" "body" "[I" : Cond) ∈ gw := gw_of (List.mem_append_right _ (List.mem_append_right _ (List.mem_append_right _ (List.mem_append_left _ (List.mem_of_getElem? (i := 233) (by decide +kernel)))))) rfl
theorem gm_712 : (Cond.fieldLink R_Mo 123 "SureFunctionsModel" "good" "Z" : Cond) ∈ gw := gw_of (List.mem_append_right _ (List.mem_append_right _ (List.mem_append_right _ (List.mem_append_left _ (List.mem_of_getElem? (i := 234) (by decide +kernel)))))) rfl
theorem gm_713 : (Cond.fieldLink R_Mo 192 "SureFunctionsModel" "graphs" "I" : Cond) ∈ gw := gw_of (List.mem_append_right _ (List.mem_append_right _ (List.mem_append_right _ (List.mem_append_left _ (List.mem_of_getElem? (i := 235) (by decide +kernel)))))) rfl
theorem gm_714 : (Cond.fieldLink R_Mo 49 "SureFunctionsModel" "graphFrom" "[I" : Cond) ∈ gw := gw_of (List.mem_append_right _ (List.mem_append_right _ (List.mem_append_right _ (List.mem_append_left _ (List.mem_of_getElem? (i := 236) (by decide +kernel)))))) rfl
theorem gm_715 : (Cond.fieldLink R_Mo 52 "SureFunctionsModel" "graphTo" "[I" : Cond) ∈ gw := gw_of (List.mem_append_right _ (List.mem_append_right _ (List.mem_append_right _ (List.mem_append_left _ (List.mem_of_getElem? (i := 237) (by decide +kernel)))))) rfl
theorem gm_716 : (Cond.fieldLink R_Mo 55 "SureFunctionsModel" "graphArcs" "[I" : Cond) ∈ gw := gw_of (List.mem_append_right _ (List.mem_append_right _ (List.mem_append_right _ (List.mem_append_left _ (List.mem_of_getElem? (i := 238) (by decide +kernel)))))) rfl
theorem gm_717 : (Cond.fieldLink R_Mo 141 "SureFunctionsModel" "open" "I" : Cond) ∈ gw := gw_of (List.mem_append_right _ (List.mem_append_right _ (List.mem_append_right _ (List.mem_append_left _ (List.mem_of_getElem? (i := 239) (by decide +kernel)))))) rfl
theorem gm_718 : (Cond.fieldLink R_Mo 58 "SureFunctionsModel" "first" "[I" : Cond) ∈ gw := gw_of (List.mem_append_right _ (List.mem_append_right _ (List.mem_append_right _ (List.mem_append_right _ (List.mem_append_left _ (List.mem_of_getElem? (i := 0) (by decide +kernel))))))) rfl
theorem gm_719 : (Cond.fieldLink R_Mo 61 "SureFunctionsModel" "second" "[I" : Cond) ∈ gw := gw_of (List.mem_append_right _ (List.mem_append_right _ (List.mem_append_right _ (List.mem_append_right _ (List.mem_append_left _ (List.mem_of_getElem? (i := 1) (by decide +kernel))))))) rfl
theorem gm_720 : (Cond.fieldLink R_Mo 64 "SureFunctionsModel" "seen" "[Z" : Cond) ∈ gw := gw_of (List.mem_append_right _ (List.mem_append_right _ (List.mem_append_right _ (List.mem_append_right _ (List.mem_append_left _ (List.mem_of_getElem? (i := 2) (by decide +kernel))))))) rfl
theorem gm_721 : (Cond.fieldLink R_Mo 68 "SureFunctionsModel" "typeOf" "[I" : Cond) ∈ gw := gw_of (List.mem_append_right _ (List.mem_append_right _ (List.mem_append_right _ (List.mem_append_right _ (List.mem_append_left _ (List.mem_of_getElem? (i := 3) (by decide +kernel))))))) rfl
theorem gm_722 : (Cond.fieldLink R_Mo 71 "SureFunctionsModel" "inhabited" "[Z" : Cond) ∈ gw := gw_of (List.mem_append_right _ (List.mem_append_right _ (List.mem_append_right _ (List.mem_append_right _ (List.mem_append_left _ (List.mem_of_getElem? (i := 4) (by decide +kernel))))))) rfl
theorem gm_723 : (Cond.fieldLink R_Mo 74 "SureFunctionsModel" "row" "[I" : Cond) ∈ gw := gw_of (List.mem_append_right _ (List.mem_append_right _ (List.mem_append_right _ (List.mem_append_right _ (List.mem_append_left _ (List.mem_of_getElem? (i := 5) (by decide +kernel))))))) rfl
theorem gm_724 : (Cond.fieldLink R_Mo 237 "SureFunctionsModel" "values" "I" : Cond) ∈ gw := gw_of (List.mem_append_right _ (List.mem_append_right _ (List.mem_append_right _ (List.mem_append_right _ (List.mem_append_left _ (List.mem_of_getElem? (i := 6) (by decide +kernel))))))) rfl
theorem gm_725 : (Cond.fieldLink R_Mo 77 "SureFunctionsModel" "made" "[I" : Cond) ∈ gw := gw_of (List.mem_append_right _ (List.mem_append_right _ (List.mem_append_right _ (List.mem_append_right _ (List.mem_append_left _ (List.mem_of_getElem? (i := 7) (by decide +kernel))))))) rfl
theorem gm_726 : (Cond.fieldLink R_Mo 80 "SureFunctionsModel" "child" "[I" : Cond) ∈ gw := gw_of (List.mem_append_right _ (List.mem_append_right _ (List.mem_append_right _ (List.mem_append_right _ (List.mem_append_left _ (List.mem_of_getElem? (i := 8) (by decide +kernel))))))) rfl
theorem gm_727 : (Cond.fieldLink R_Mo 83 "SureFunctionsModel" "weight" "[I" : Cond) ∈ gw := gw_of (List.mem_append_right _ (List.mem_append_right _ (List.mem_append_right _ (List.mem_append_right _ (List.mem_append_left _ (List.mem_of_getElem? (i := 9) (by decide +kernel))))))) rfl
theorem gm_728 : (Cond.fieldLink R_Mo 256 "SureFunctionsModel" "built" "I" : Cond) ∈ gw := gw_of (List.mem_append_right _ (List.mem_append_right _ (List.mem_append_right _ (List.mem_append_right _ (List.mem_append_left _ (List.mem_of_getElem? (i := 10) (by decide +kernel))))))) rfl
theorem gm_729 : (Cond.fieldLink R_Mo 243 "SureFunctionsModel" "steps" "I" : Cond) ∈ gw := gw_of (List.mem_append_right _ (List.mem_append_right _ (List.mem_append_right _ (List.mem_append_right _ (List.mem_append_left _ (List.mem_of_getElem? (i := 11) (by decide +kernel))))))) rfl
theorem gm_730 : (Cond.fieldLink R_Mo 231 "SureFunctionsModel" "todo" "I" : Cond) ∈ gw := gw_of (List.mem_append_right _ (List.mem_append_right _ (List.mem_append_right _ (List.mem_append_right _ (List.mem_append_left _ (List.mem_of_getElem? (i := 12) (by decide +kernel))))))) rfl
theorem gm_731 : (Cond.fieldLink R_Mo 86 "SureFunctionsModel" "todoTerm" "[I" : Cond) ∈ gw := gw_of (List.mem_append_right _ (List.mem_append_right _ (List.mem_append_right _ (List.mem_append_right _ (List.mem_append_left _ (List.mem_of_getElem? (i := 13) (by decide +kernel))))))) rfl
theorem gm_732 : (Cond.fieldLink R_Mo 89 "SureFunctionsModel" "todoFrame" "[I" : Cond) ∈ gw := gw_of (List.mem_append_right _ (List.mem_append_right _ (List.mem_append_right _ (List.mem_append_right _ (List.mem_append_left _ (List.mem_of_getElem? (i := 14) (by decide +kernel))))))) rfl
theorem gm_733 : (Cond.fieldLink R_Mo 234 "SureFunctionsModel" "held" "I" : Cond) ∈ gw := gw_of (List.mem_append_right _ (List.mem_append_right _ (List.mem_append_right _ (List.mem_append_right _ (List.mem_append_left _ (List.mem_of_getElem? (i := 15) (by decide +kernel))))))) rfl
theorem gm_734 : (Cond.fieldLink R_Mo 92 "SureFunctionsModel" "value" "[I" : Cond) ∈ gw := gw_of (List.mem_append_right _ (List.mem_append_right _ (List.mem_append_right _ (List.mem_append_right _ (List.mem_append_left _ (List.mem_of_getElem? (i := 16) (by decide +kernel))))))) rfl
theorem gm_735 : (Cond.fieldLink R_Mo 95 "SureFunctionsModel" "binding" "[I" : Cond) ∈ gw := gw_of (List.mem_append_right _ (List.mem_append_right _ (List.mem_append_right _ (List.mem_append_right _ (List.mem_append_left _ (List.mem_of_getElem? (i := 17) (by decide +kernel))))))) rfl
theorem gm_736 : (Cond.fieldLink R_Mo 98 "SureFunctionsModel" "given" "[I" : Cond) ∈ gw := gw_of (List.mem_append_right _ (List.mem_append_right _ (List.mem_append_right _ (List.mem_append_right _ (List.mem_append_left _ (List.mem_of_getElem? (i := 18) (by decide +kernel))))))) rfl
theorem gm_737 : (Cond.fieldLink R_Mo 262 "SureFunctionsModel" "answerSize" "I" : Cond) ∈ gw := gw_of (List.mem_append_right _ (List.mem_append_right _ (List.mem_append_right _ (List.mem_append_right _ (List.mem_append_left _ (List.mem_of_getElem? (i := 19) (by decide +kernel))))))) rfl
theorem gm_738 : (Cond.fieldLink R_Mo 101 "SureFunctionsModel" "answer" "[I" : Cond) ∈ gw := gw_of (List.mem_append_right _ (List.mem_append_right _ (List.mem_append_right _ (List.mem_append_right _ (List.mem_append_left _ (List.mem_of_getElem? (i := 20) (by decide +kernel))))))) rfl
theorem gm_739 : (Cond.fieldLink R_Mo 104 "SureFunctionsModel" "thrown" "I" : Cond) ∈ gw := gw_of (List.mem_append_right _ (List.mem_append_right _ (List.mem_append_right _ (List.mem_append_right _ (List.mem_append_left _ (List.mem_of_getElem? (i := 21) (by decide +kernel))))))) rfl
theorem gm_740 : (Cond.lays R_Mo "SureFunctionsModel" "constructors" "I" : Cond) ∈ gw := gw_of (List.mem_append_right _ (List.mem_append_right _ (List.mem_append_right _ (List.mem_append_right _ (List.mem_append_left _ (List.mem_of_getElem? (i := 22) (by decide +kernel))))))) rfl
theorem gm_741 : (Cond.laysFinal R_Mo "SureFunctionsModel" "makes" "[I" : Cond) ∈ gw := gw_of (List.mem_append_right _ (List.mem_append_right _ (List.mem_append_right _ (List.mem_append_right _ (List.mem_append_left _ (List.mem_of_getElem? (i := 24) (by decide +kernel))))))) rfl
theorem gm_742 : (Cond.laysFinal R_Mo "SureFunctionsModel" "parts" "[I" : Cond) ∈ gw := gw_of (List.mem_append_right _ (List.mem_append_right _ (List.mem_append_right _ (List.mem_append_right _ (List.mem_append_left _ (List.mem_of_getElem? (i := 26) (by decide +kernel))))))) rfl
theorem gm_743 : (Cond.laysFinal R_Mo "SureFunctionsModel" "partType" "[I" : Cond) ∈ gw := gw_of (List.mem_append_right _ (List.mem_append_right _ (List.mem_append_right _ (List.mem_append_right _ (List.mem_append_left _ (List.mem_of_getElem? (i := 28) (by decide +kernel))))))) rfl
theorem gm_744 : (Cond.lays R_Mo "SureFunctionsModel" "functions" "I" : Cond) ∈ gw := gw_of (List.mem_append_right _ (List.mem_append_right _ (List.mem_append_right _ (List.mem_append_right _ (List.mem_append_left _ (List.mem_of_getElem? (i := 30) (by decide +kernel))))))) rfl
theorem gm_745 : (Cond.laysFinal R_Mo "SureFunctionsModel" "answers" "[I" : Cond) ∈ gw := gw_of (List.mem_append_right _ (List.mem_append_right _ (List.mem_append_right _ (List.mem_append_right _ (List.mem_append_left _ (List.mem_of_getElem? (i := 32) (by decide +kernel))))))) rfl
theorem gm_746 : (Cond.laysFinal R_Mo "SureFunctionsModel" "arguments" "[I" : Cond) ∈ gw := gw_of (List.mem_append_right _ (List.mem_append_right _ (List.mem_append_right _ (List.mem_append_right _ (List.mem_append_left _ (List.mem_of_getElem? (i := 34) (by decide +kernel))))))) rfl
theorem gm_747 : (Cond.laysFinal R_Mo "SureFunctionsModel" "argumentType" "[I" : Cond) ∈ gw := gw_of (List.mem_append_right _ (List.mem_append_right _ (List.mem_append_right _ (List.mem_append_right _ (List.mem_append_left _ (List.mem_of_getElem? (i := 36) (by decide +kernel))))))) rfl
theorem gm_748 : (Cond.lays R_Mo "SureFunctionsModel" "terms" "I" : Cond) ∈ gw := gw_of (List.mem_append_right _ (List.mem_append_right _ (List.mem_append_right _ (List.mem_append_right _ (List.mem_append_left _ (List.mem_of_getElem? (i := 38) (by decide +kernel))))))) rfl
theorem gm_749 : (Cond.laysFinal R_Mo "SureFunctionsModel" "head" "[I" : Cond) ∈ gw := gw_of (List.mem_append_right _ (List.mem_append_right _ (List.mem_append_right _ (List.mem_append_right _ (List.mem_append_left _ (List.mem_of_getElem? (i := 40) (by decide +kernel))))))) rfl
theorem gm_750 : (Cond.laysFinal R_Mo "SureFunctionsModel" "below" "[I" : Cond) ∈ gw := gw_of (List.mem_append_right _ (List.mem_append_right _ (List.mem_append_right _ (List.mem_append_right _ (List.mem_append_left _ (List.mem_of_getElem? (i := 42) (by decide +kernel))))))) rfl
theorem gm_751 : (Cond.laysFinal R_Mo "SureFunctionsModel" "height" "[I" : Cond) ∈ gw := gw_of (List.mem_append_right _ (List.mem_append_right _ (List.mem_append_right _ (List.mem_append_right _ (List.mem_append_left _ (List.mem_of_getElem? (i := 44) (by decide +kernel))))))) rfl
theorem gm_752 : (Cond.laysFinal R_Mo "SureFunctionsModel" "size" "[I" : Cond) ∈ gw := gw_of (List.mem_append_right _ (List.mem_append_right _ (List.mem_append_right _ (List.mem_append_right _ (List.mem_append_left _ (List.mem_of_getElem? (i := 46) (by decide +kernel))))))) rfl
theorem gm_753 : (Cond.lays R_Mo "SureFunctionsModel" "clauses" "I" : Cond) ∈ gw := gw_of (List.mem_append_right _ (List.mem_append_right _ (List.mem_append_right _ (List.mem_append_right _ (List.mem_append_left _ (List.mem_of_getElem? (i := 48) (by decide +kernel))))))) rfl
theorem gm_754 : (Cond.laysFinal R_Mo "SureFunctionsModel" "clauseOf" "[I" : Cond) ∈ gw := gw_of (List.mem_append_right _ (List.mem_append_right _ (List.mem_append_right _ (List.mem_append_right _ (List.mem_append_left _ (List.mem_of_getElem? (i := 50) (by decide +kernel))))))) rfl
theorem gm_755 : (Cond.laysFinal R_Mo "SureFunctionsModel" "pattern" "[I" : Cond) ∈ gw := gw_of (List.mem_append_right _ (List.mem_append_right _ (List.mem_append_right _ (List.mem_append_right _ (List.mem_append_left _ (List.mem_of_getElem? (i := 52) (by decide +kernel))))))) rfl
theorem gm_756 : (Cond.laysFinal R_Mo "SureFunctionsModel" "body" "[I" : Cond) ∈ gw := gw_of (List.mem_append_right _ (List.mem_append_right _ (List.mem_append_right _ (List.mem_append_right _ (List.mem_append_left _ (List.mem_of_getElem? (i := 54) (by decide +kernel))))))) rfl
theorem gm_757 : (Cond.lays R_Mo "SureFunctionsModel" "good" "Z" : Cond) ∈ gw := gw_of (List.mem_append_right _ (List.mem_append_right _ (List.mem_append_right _ (List.mem_append_right _ (List.mem_append_left _ (List.mem_of_getElem? (i := 56) (by decide +kernel))))))) rfl
theorem gm_758 : (Cond.lays R_Mo "SureFunctionsModel" "graphs" "I" : Cond) ∈ gw := gw_of (List.mem_append_right _ (List.mem_append_right _ (List.mem_append_right _ (List.mem_append_right _ (List.mem_append_left _ (List.mem_of_getElem? (i := 58) (by decide +kernel))))))) rfl
theorem gm_759 : (Cond.laysFinal R_Mo "SureFunctionsModel" "graphFrom" "[I" : Cond) ∈ gw := gw_of (List.mem_append_right _ (List.mem_append_right _ (List.mem_append_right _ (List.mem_append_right _ (List.mem_append_left _ (List.mem_of_getElem? (i := 60) (by decide +kernel))))))) rfl
theorem gm_760 : (Cond.laysFinal R_Mo "SureFunctionsModel" "graphTo" "[I" : Cond) ∈ gw := gw_of (List.mem_append_right _ (List.mem_append_right _ (List.mem_append_right _ (List.mem_append_right _ (List.mem_append_left _ (List.mem_of_getElem? (i := 62) (by decide +kernel))))))) rfl
theorem gm_761 : (Cond.laysFinal R_Mo "SureFunctionsModel" "graphArcs" "[I" : Cond) ∈ gw := gw_of (List.mem_append_right _ (List.mem_append_right _ (List.mem_append_right _ (List.mem_append_right _ (List.mem_append_left _ (List.mem_of_getElem? (i := 64) (by decide +kernel))))))) rfl
theorem gm_762 : (Cond.lays R_Mo "SureFunctionsModel" "open" "I" : Cond) ∈ gw := gw_of (List.mem_append_right _ (List.mem_append_right _ (List.mem_append_right _ (List.mem_append_right _ (List.mem_append_left _ (List.mem_of_getElem? (i := 66) (by decide +kernel))))))) rfl
theorem gm_763 : (Cond.laysFinal R_Mo "SureFunctionsModel" "first" "[I" : Cond) ∈ gw := gw_of (List.mem_append_right _ (List.mem_append_right _ (List.mem_append_right _ (List.mem_append_right _ (List.mem_append_left _ (List.mem_of_getElem? (i := 68) (by decide +kernel))))))) rfl
theorem gm_764 : (Cond.laysFinal R_Mo "SureFunctionsModel" "second" "[I" : Cond) ∈ gw := gw_of (List.mem_append_right _ (List.mem_append_right _ (List.mem_append_right _ (List.mem_append_right _ (List.mem_append_left _ (List.mem_of_getElem? (i := 70) (by decide +kernel))))))) rfl
theorem gm_765 : (Cond.laysFinal R_Mo "SureFunctionsModel" "seen" "[Z" : Cond) ∈ gw := gw_of (List.mem_append_right _ (List.mem_append_right _ (List.mem_append_right _ (List.mem_append_right _ (List.mem_append_left _ (List.mem_of_getElem? (i := 72) (by decide +kernel))))))) rfl
theorem gm_766 : (Cond.laysFinal R_Mo "SureFunctionsModel" "typeOf" "[I" : Cond) ∈ gw := gw_of (List.mem_append_right _ (List.mem_append_right _ (List.mem_append_right _ (List.mem_append_right _ (List.mem_append_left _ (List.mem_of_getElem? (i := 74) (by decide +kernel))))))) rfl
theorem gm_767 : (Cond.laysFinal R_Mo "SureFunctionsModel" "inhabited" "[Z" : Cond) ∈ gw := gw_of (List.mem_append_right _ (List.mem_append_right _ (List.mem_append_right _ (List.mem_append_right _ (List.mem_append_left _ (List.mem_of_getElem? (i := 76) (by decide +kernel))))))) rfl
theorem gm_768 : (Cond.laysFinal R_Mo "SureFunctionsModel" "row" "[I" : Cond) ∈ gw := gw_of (List.mem_append_right _ (List.mem_append_right _ (List.mem_append_right _ (List.mem_append_right _ (List.mem_append_left _ (List.mem_of_getElem? (i := 78) (by decide +kernel))))))) rfl
theorem gm_769 : (Cond.lays R_Mo "SureFunctionsModel" "values" "I" : Cond) ∈ gw := gw_of (List.mem_append_right _ (List.mem_append_right _ (List.mem_append_right _ (List.mem_append_right _ (List.mem_append_left _ (List.mem_of_getElem? (i := 80) (by decide +kernel))))))) rfl
theorem gm_770 : (Cond.laysFinal R_Mo "SureFunctionsModel" "made" "[I" : Cond) ∈ gw := gw_of (List.mem_append_right _ (List.mem_append_right _ (List.mem_append_right _ (List.mem_append_right _ (List.mem_append_left _ (List.mem_of_getElem? (i := 82) (by decide +kernel))))))) rfl
theorem gm_771 : (Cond.laysFinal R_Mo "SureFunctionsModel" "child" "[I" : Cond) ∈ gw := gw_of (List.mem_append_right _ (List.mem_append_right _ (List.mem_append_right _ (List.mem_append_right _ (List.mem_append_left _ (List.mem_of_getElem? (i := 84) (by decide +kernel))))))) rfl
theorem gm_772 : (Cond.laysFinal R_Mo "SureFunctionsModel" "weight" "[I" : Cond) ∈ gw := gw_of (List.mem_append_right _ (List.mem_append_right _ (List.mem_append_right _ (List.mem_append_right _ (List.mem_append_left _ (List.mem_of_getElem? (i := 86) (by decide +kernel))))))) rfl
theorem gm_773 : (Cond.lays R_Mo "SureFunctionsModel" "built" "I" : Cond) ∈ gw := gw_of (List.mem_append_right _ (List.mem_append_right _ (List.mem_append_right _ (List.mem_append_right _ (List.mem_append_left _ (List.mem_of_getElem? (i := 88) (by decide +kernel))))))) rfl
theorem gm_774 : (Cond.lays R_Mo "SureFunctionsModel" "steps" "I" : Cond) ∈ gw := gw_of (List.mem_append_right _ (List.mem_append_right _ (List.mem_append_right _ (List.mem_append_right _ (List.mem_append_left _ (List.mem_of_getElem? (i := 90) (by decide +kernel))))))) rfl
theorem gm_775 : (Cond.lays R_Mo "SureFunctionsModel" "todo" "I" : Cond) ∈ gw := gw_of (List.mem_append_right _ (List.mem_append_right _ (List.mem_append_right _ (List.mem_append_right _ (List.mem_append_left _ (List.mem_of_getElem? (i := 92) (by decide +kernel))))))) rfl
theorem gm_776 : (Cond.laysFinal R_Mo "SureFunctionsModel" "todoTerm" "[I" : Cond) ∈ gw := gw_of (List.mem_append_right _ (List.mem_append_right _ (List.mem_append_right _ (List.mem_append_right _ (List.mem_append_left _ (List.mem_of_getElem? (i := 94) (by decide +kernel))))))) rfl
theorem gm_777 : (Cond.laysFinal R_Mo "SureFunctionsModel" "todoFrame" "[I" : Cond) ∈ gw := gw_of (List.mem_append_right _ (List.mem_append_right _ (List.mem_append_right _ (List.mem_append_right _ (List.mem_append_left _ (List.mem_of_getElem? (i := 96) (by decide +kernel))))))) rfl
theorem gm_778 : (Cond.lays R_Mo "SureFunctionsModel" "held" "I" : Cond) ∈ gw := gw_of (List.mem_append_right _ (List.mem_append_right _ (List.mem_append_right _ (List.mem_append_right _ (List.mem_append_left _ (List.mem_of_getElem? (i := 98) (by decide +kernel))))))) rfl
theorem gm_779 : (Cond.laysFinal R_Mo "SureFunctionsModel" "value" "[I" : Cond) ∈ gw := gw_of (List.mem_append_right _ (List.mem_append_right _ (List.mem_append_right _ (List.mem_append_right _ (List.mem_append_left _ (List.mem_of_getElem? (i := 100) (by decide +kernel))))))) rfl
theorem gm_780 : (Cond.laysFinal R_Mo "SureFunctionsModel" "binding" "[I" : Cond) ∈ gw := gw_of (List.mem_append_right _ (List.mem_append_right _ (List.mem_append_right _ (List.mem_append_right _ (List.mem_append_left _ (List.mem_of_getElem? (i := 102) (by decide +kernel))))))) rfl
theorem gm_781 : (Cond.laysFinal R_Mo "SureFunctionsModel" "given" "[I" : Cond) ∈ gw := gw_of (List.mem_append_right _ (List.mem_append_right _ (List.mem_append_right _ (List.mem_append_right _ (List.mem_append_left _ (List.mem_of_getElem? (i := 104) (by decide +kernel))))))) rfl
theorem gm_782 : (Cond.lays R_Mo "SureFunctionsModel" "answerSize" "I" : Cond) ∈ gw := gw_of (List.mem_append_right _ (List.mem_append_right _ (List.mem_append_right _ (List.mem_append_right _ (List.mem_append_left _ (List.mem_of_getElem? (i := 106) (by decide +kernel))))))) rfl
theorem gm_783 : (Cond.laysFinal R_Mo "SureFunctionsModel" "answer" "[I" : Cond) ∈ gw := gw_of (List.mem_append_right _ (List.mem_append_right _ (List.mem_append_right _ (List.mem_append_right _ (List.mem_append_left _ (List.mem_of_getElem? (i := 108) (by decide +kernel))))))) rfl
theorem gm_784 : (Cond.lays R_Mo "SureFunctionsModel" "thrown" "I" : Cond) ∈ gw := gw_of (List.mem_append_right _ (List.mem_append_right _ (List.mem_append_right _ (List.mem_append_right _ (List.mem_append_left _ (List.mem_of_getElem? (i := 110) (by decide +kernel))))))) rfl
theorem gm_785 : (Cond.methodLink R_La 55 y_Mo_thrown : Cond) ∈ gw := gw_of (List.mem_append_right _ (List.mem_append_right _ (List.mem_append_right _ (List.mem_append_right _ (List.mem_append_left _ (List.mem_of_getElem? (i := 113) (by decide +kernel))))))) rfl
theorem gm_786 : (Cond.instanceMethod y_Mo_thrown : Cond) ∈ gw := gw_of (List.mem_append_right _ (List.mem_append_right _ (List.mem_append_right _ (List.mem_append_right _ (List.mem_append_left _ (List.mem_of_getElem? (i := 114) (by decide +kernel))))))) rfl
theorem gm_787 : (Cond.selects R_Mo y_Mo_thrown y_Mo_thrown : Cond) ∈ gw := gw_of (List.mem_append_right _ (List.mem_append_right _ (List.mem_append_right _ (List.mem_append_right _ (List.mem_append_left _ (List.mem_of_getElem? (i := 115) (by decide +kernel))))))) rfl
theorem gm_788 : (Cond.code y_Mo_thrown b_Mo_thrown 1 (some .int) : Cond) ∈ gw := gw_of (List.mem_append_right _ (List.mem_append_right _ (List.mem_append_right _ (List.mem_append_right _ (List.mem_append_left _ (List.mem_of_getElem? (i := 116) (by decide +kernel))))))) rfl
theorem gm_789 : (Cond.methodLink R_La 54 y_Mo_constructor : Cond) ∈ gw := gw_of (List.mem_append_right _ (List.mem_append_right _ (List.mem_append_right _ (List.mem_append_right _ (List.mem_append_left _ (List.mem_of_getElem? (i := 117) (by decide +kernel))))))) rfl
theorem gm_790 : (Cond.instanceMethod y_Mo_constructor : Cond) ∈ gw := gw_of (List.mem_append_right _ (List.mem_append_right _ (List.mem_append_right _ (List.mem_append_right _ (List.mem_append_left _ (List.mem_of_getElem? (i := 118) (by decide +kernel))))))) rfl
theorem gm_791 : (Cond.selects R_Mo y_Mo_constructor y_Mo_constructor : Cond) ∈ gw := gw_of (List.mem_append_right _ (List.mem_append_right _ (List.mem_append_right _ (List.mem_append_right _ (List.mem_append_left _ (List.mem_of_getElem? (i := 119) (by decide +kernel))))))) rfl
theorem gm_792 : (Cond.code y_Mo_constructor b_Mo_constructor 5 (some .int) : Cond) ∈ gw := gw_of (List.mem_append_right _ (List.mem_append_right _ (List.mem_append_right _ (List.mem_append_right _ (List.mem_append_left _ (List.mem_of_getElem? (i := 120) (by decide +kernel))))))) rfl
theorem gm_793 : (Cond.methodLink R_Mo 112 y_Mo_wrongTypes : Cond) ∈ gw := gw_of (List.mem_append_right _ (List.mem_append_right _ (List.mem_append_right _ (List.mem_append_right _ (List.mem_append_left _ (List.mem_of_getElem? (i := 121) (by decide +kernel))))))) rfl
theorem gm_794 : (Cond.static y_Mo_wrongTypes : Cond) ∈ gw := gw_of (List.mem_append_right _ (List.mem_append_right _ (List.mem_append_right _ (List.mem_append_right _ (List.mem_append_left _ (List.mem_of_getElem? (i := 122) (by decide +kernel))))))) rfl
theorem gm_795 : (Cond.code y_Mo_wrongTypes b_Mo_wrongTypes 7 (some .boolean) : Cond) ∈ gw := gw_of (List.mem_append_right _ (List.mem_append_right _ (List.mem_append_right _ (List.mem_append_right _ (List.mem_append_left _ (List.mem_of_getElem? (i := 123) (by decide +kernel))))))) rfl
theorem gm_796 : (Cond.methodLink R_Mo 108 y_Mo_outside : Cond) ∈ gw := gw_of (List.mem_append_right _ (List.mem_append_right _ (List.mem_append_right _ (List.mem_append_right _ (List.mem_append_left _ (List.mem_of_getElem? (i := 124) (by decide +kernel))))))) rfl
theorem gm_797 : (Cond.static y_Mo_outside : Cond) ∈ gw := gw_of (List.mem_append_right _ (List.mem_append_right _ (List.mem_append_right _ (List.mem_append_right _ (List.mem_append_left _ (List.mem_of_getElem? (i := 125) (by decide +kernel))))))) rfl
theorem gm_798 : (Cond.code y_Mo_outside b_Mo_outside 2 (some .boolean) : Cond) ∈ gw := gw_of (List.mem_append_right _ (List.mem_append_right _ (List.mem_append_right _ (List.mem_append_right _ (List.mem_append_left _ (List.mem_of_getElem? (i := 126) (by decide +kernel))))))) rfl
theorem gm_799 : (Cond.methodLink R_Mo 119 y_Mo_many : Cond) ∈ gw := gw_of (List.mem_append_right _ (List.mem_append_right _ (List.mem_append_right _ (List.mem_append_right _ (List.mem_append_left _ (List.mem_of_getElem? (i := 127) (by decide +kernel))))))) rfl
theorem gm_800 : (Cond.static y_Mo_many : Cond) ∈ gw := gw_of (List.mem_append_right _ (List.mem_append_right _ (List.mem_append_right _ (List.mem_append_right _ (List.mem_append_left _ (List.mem_of_getElem? (i := 128) (by decide +kernel))))))) rfl
theorem gm_801 : (Cond.code y_Mo_many b_Mo_many 3 (some .int) : Cond) ∈ gw := gw_of (List.mem_append_right _ (List.mem_append_right _ (List.mem_append_right _ (List.mem_append_right _ (List.mem_append_left _ (List.mem_of_getElem? (i := 129) (by decide +kernel))))))) rfl
theorem gm_802 : (Cond.methodLink R_La 61 y_Mo_function : Cond) ∈ gw := gw_of (List.mem_append_right _ (List.mem_append_right _ (List.mem_append_right _ (List.mem_append_right _ (List.mem_append_left _ (List.mem_of_getElem? (i := 130) (by decide +kernel))))))) rfl
theorem gm_803 : (Cond.instanceMethod y_Mo_function : Cond) ∈ gw := gw_of (List.mem_append_right _ (List.mem_append_right _ (List.mem_append_right _ (List.mem_append_right _ (List.mem_append_left _ (List.mem_of_getElem? (i := 131) (by decide +kernel))))))) rfl
theorem gm_804 : (Cond.selects R_Mo y_Mo_function y_Mo_function : Cond) ∈ gw := gw_of (List.mem_append_right _ (List.mem_append_right _ (List.mem_append_right _ (List.mem_append_right _ (List.mem_append_left _ (List.mem_of_getElem? (i := 132) (by decide +kernel))))))) rfl
theorem gm_805 : (Cond.code y_Mo_function b_Mo_function 5 (some .int) : Cond) ∈ gw := gw_of (List.mem_append_right _ (List.mem_append_right _ (List.mem_append_right _ (List.mem_append_right _ (List.mem_append_left _ (List.mem_of_getElem? (i := 133) (by decide +kernel))))))) rfl
theorem gm_806 : (Cond.methodLink R_La 65 y_Mo_variable : Cond) ∈ gw := gw_of (List.mem_append_right _ (List.mem_append_right _ (List.mem_append_right _ (List.mem_append_right _ (List.mem_append_left _ (List.mem_of_getElem? (i := 134) (by decide +kernel))))))) rfl
theorem gm_807 : (Cond.instanceMethod y_Mo_variable : Cond) ∈ gw := gw_of (List.mem_append_right _ (List.mem_append_right _ (List.mem_append_right _ (List.mem_append_right _ (List.mem_append_left _ (List.mem_of_getElem? (i := 135) (by decide +kernel))))))) rfl
theorem gm_808 : (Cond.selects R_Mo y_Mo_variable y_Mo_variable : Cond) ∈ gw := gw_of (List.mem_append_right _ (List.mem_append_right _ (List.mem_append_right _ (List.mem_append_right _ (List.mem_append_left _ (List.mem_of_getElem? (i := 136) (by decide +kernel))))))) rfl
theorem gm_809 : (Cond.code y_Mo_variable b_Mo_variable 2 (some .int) : Cond) ∈ gw := gw_of (List.mem_append_right _ (List.mem_append_right _ (List.mem_append_right _ (List.mem_append_right _ (List.mem_append_left _ (List.mem_of_getElem? (i := 137) (by decide +kernel))))))) rfl
theorem gm_810 : (Cond.methodLink R_La 68 y_Mo_make : Cond) ∈ gw := gw_of (List.mem_append_right _ (List.mem_append_right _ (List.mem_append_right _ (List.mem_append_right _ (List.mem_append_left _ (List.mem_of_getElem? (i := 138) (by decide +kernel))))))) rfl
theorem gm_811 : (Cond.instanceMethod y_Mo_make : Cond) ∈ gw := gw_of (List.mem_append_right _ (List.mem_append_right _ (List.mem_append_right _ (List.mem_append_right _ (List.mem_append_left _ (List.mem_of_getElem? (i := 139) (by decide +kernel))))))) rfl
theorem gm_812 : (Cond.selects R_Mo y_Mo_make y_Mo_make : Cond) ∈ gw := gw_of (List.mem_append_right _ (List.mem_append_right _ (List.mem_append_right _ (List.mem_append_right _ (List.mem_append_left _ (List.mem_of_getElem? (i := 140) (by decide +kernel))))))) rfl
theorem gm_813 : (Cond.code y_Mo_make b_Mo_make 5 (some .int) : Cond) ∈ gw := gw_of (List.mem_append_right _ (List.mem_append_right _ (List.mem_append_right _ (List.mem_append_right _ (List.mem_append_left _ (List.mem_of_getElem? (i := 141) (by decide +kernel))))))) rfl
theorem gm_814 : (Cond.methodLink R_Mo 137 y_Mo_build : Cond) ∈ gw := gw_of (List.mem_append_right _ (List.mem_append_right _ (List.mem_append_right _ (List.mem_append_right _ (List.mem_append_left _ (List.mem_of_getElem? (i := 142) (by decide +kernel))))))) rfl
theorem gm_815 : (Cond.instanceMethod y_Mo_build : Cond) ∈ gw := gw_of (List.mem_append_right _ (List.mem_append_right _ (List.mem_append_right _ (List.mem_append_right _ (List.mem_append_left _ (List.mem_of_getElem? (i := 144) (by decide +kernel))))))) rfl
theorem gm_816 : (Cond.code y_Mo_build b_Mo_build 11 (some .int) : Cond) ∈ gw := gw_of (List.mem_append_right _ (List.mem_append_right _ (List.mem_append_right _ (List.mem_append_right _ (List.mem_append_left _ (List.mem_of_getElem? (i := 145) (by decide +kernel))))))) rfl
theorem gm_817 : (Cond.methodLink R_Mo 133 y_Mo_isTerm : Cond) ∈ gw := gw_of (List.mem_append_right _ (List.mem_append_right _ (List.mem_append_right _ (List.mem_append_right _ (List.mem_append_left _ (List.mem_of_getElem? (i := 146) (by decide +kernel))))))) rfl
theorem gm_818 : (Cond.instanceMethod y_Mo_isTerm : Cond) ∈ gw := gw_of (List.mem_append_right _ (List.mem_append_right _ (List.mem_append_right _ (List.mem_append_right _ (List.mem_append_left _ (List.mem_of_getElem? (i := 148) (by decide +kernel))))))) rfl
theorem gm_819 : (Cond.code y_Mo_isTerm b_Mo_isTerm 2 (some .boolean) : Cond) ∈ gw := gw_of (List.mem_append_right _ (List.mem_append_right _ (List.mem_append_right _ (List.mem_append_right _ (List.mem_append_left _ (List.mem_of_getElem? (i := 149) (by decide +kernel))))))) rfl
theorem gm_820 : (Cond.methodLink R_La 71 y_Mo_call : Cond) ∈ gw := gw_of (List.mem_append_right _ (List.mem_append_right _ (List.mem_append_right _ (List.mem_append_right _ (List.mem_append_left _ (List.mem_of_getElem? (i := 150) (by decide +kernel))))))) rfl
theorem gm_821 : (Cond.instanceMethod y_Mo_call : Cond) ∈ gw := gw_of (List.mem_append_right _ (List.mem_append_right _ (List.mem_append_right _ (List.mem_append_right _ (List.mem_append_left _ (List.mem_of_getElem? (i := 151) (by decide +kernel))))))) rfl
theorem gm_822 : (Cond.selects R_Mo y_Mo_call y_Mo_call : Cond) ∈ gw := gw_of (List.mem_append_right _ (List.mem_append_right _ (List.mem_append_right _ (List.mem_append_right _ (List.mem_append_left _ (List.mem_of_getElem? (i := 152) (by decide +kernel))))))) rfl
theorem gm_823 : (Cond.code y_Mo_call b_Mo_call 5 (some .int) : Cond) ∈ gw := gw_of (List.mem_append_right _ (List.mem_append_right _ (List.mem_append_right _ (List.mem_append_right _ (List.mem_append_left _ (List.mem_of_getElem? (i := 153) (by decide +kernel))))))) rfl
theorem gm_824 : (Cond.methodLink R_La 75 y_Mo_clause : Cond) ∈ gw := gw_of (List.mem_append_right _ (List.mem_append_right _ (List.mem_append_right _ (List.mem_append_right _ (List.mem_append_left _ (List.mem_of_getElem? (i := 154) (by decide +kernel))))))) rfl
theorem gm_825 : (Cond.instanceMethod y_Mo_clause : Cond) ∈ gw := gw_of (List.mem_append_right _ (List.mem_append_right _ (List.mem_append_right _ (List.mem_append_right _ (List.mem_append_left _ (List.mem_of_getElem? (i := 155) (by decide +kernel))))))) rfl
theorem gm_826 : (Cond.selects R_Mo y_Mo_clause y_Mo_clause : Cond) ∈ gw := gw_of (List.mem_append_right _ (List.mem_append_right _ (List.mem_append_right _ (List.mem_append_right _ (List.mem_append_left _ (List.mem_of_getElem? (i := 156) (by decide +kernel))))))) rfl
theorem gm_827 : (Cond.code y_Mo_clause b_Mo_clause 9 (some .int) : Cond) ∈ gw := gw_of (List.mem_append_right _ (List.mem_append_right _ (List.mem_append_right _ (List.mem_append_right _ (List.mem_append_left _ (List.mem_of_getElem? (i := 157) (by decide +kernel))))))) rfl
theorem gm_828 : (Cond.methodLink R_Mo 162 y_Mo_isClause : Cond) ∈ gw := gw_of (List.mem_append_right _ (List.mem_append_right _ (List.mem_append_right _ (List.mem_append_right _ (List.mem_append_left _ (List.mem_of_getElem? (i := 158) (by decide +kernel))))))) rfl
theorem gm_829 : (Cond.instanceMethod y_Mo_isClause : Cond) ∈ gw := gw_of (List.mem_append_right _ (List.mem_append_right _ (List.mem_append_right _ (List.mem_append_right _ (List.mem_append_left _ (List.mem_of_getElem? (i := 160) (by decide +kernel))))))) rfl
theorem gm_830 : (Cond.code y_Mo_isClause b_Mo_isClause 8 (some .boolean) : Cond) ∈ gw := gw_of (List.mem_append_right _ (List.mem_append_right _ (List.mem_append_right _ (List.mem_append_right _ (List.mem_append_left _ (List.mem_of_getElem? (i := 161) (by decide +kernel))))))) rfl
theorem gm_831 : (Cond.methodLink R_Mo 156 y_Mo_isPattern : Cond) ∈ gw := gw_of (List.mem_append_right _ (List.mem_append_right _ (List.mem_append_right _ (List.mem_append_right _ (List.mem_append_left _ (List.mem_of_getElem? (i := 162) (by decide +kernel))))))) rfl
theorem gm_832 : (Cond.instanceMethod y_Mo_isPattern : Cond) ∈ gw := gw_of (List.mem_append_right _ (List.mem_append_right _ (List.mem_append_right _ (List.mem_append_right _ (List.mem_append_left _ (List.mem_of_getElem? (i := 164) (by decide +kernel))))))) rfl
theorem gm_833 : (Cond.code y_Mo_isPattern b_Mo_isPattern 3 (some .boolean) : Cond) ∈ gw := gw_of (List.mem_append_right _ (List.mem_append_right _ (List.mem_append_right _ (List.mem_append_right _ (List.mem_append_left _ (List.mem_of_getElem? (i := 165) (by decide +kernel))))))) rfl
theorem gm_834 : (Cond.methodLink R_Mo 148 y_Mo_push : Cond) ∈ gw := gw_of (List.mem_append_right _ (List.mem_append_right _ (List.mem_append_right _ (List.mem_append_right _ (List.mem_append_left _ (List.mem_of_getElem? (i := 166) (by decide +kernel))))))) rfl
theorem gm_835 : (Cond.instanceMethod y_Mo_push : Cond) ∈ gw := gw_of (List.mem_append_right _ (List.mem_append_right _ (List.mem_append_right _ (List.mem_append_right _ (List.mem_append_left _ (List.mem_of_getElem? (i := 168) (by decide +kernel))))))) rfl
theorem gm_836 : (Cond.code y_Mo_push b_Mo_push 3 none : Cond) ∈ gw := gw_of (List.mem_append_right _ (List.mem_append_right _ (List.mem_append_right _ (List.mem_append_right _ (List.mem_append_left _ (List.mem_of_getElem? (i := 169) (by decide +kernel))))))) rfl
theorem gm_837 : (Cond.methodLink R_Mo 152 y_Mo_pushBelow : Cond) ∈ gw := gw_of (List.mem_append_right _ (List.mem_append_right _ (List.mem_append_right _ (List.mem_append_right _ (List.mem_append_left _ (List.mem_of_getElem? (i := 170) (by decide +kernel))))))) rfl
theorem gm_838 : (Cond.instanceMethod y_Mo_pushBelow : Cond) ∈ gw := gw_of (List.mem_append_right _ (List.mem_append_right _ (List.mem_append_right _ (List.mem_append_right _ (List.mem_append_left _ (List.mem_of_getElem? (i := 172) (by decide +kernel))))))) rfl
theorem gm_839 : (Cond.code y_Mo_pushBelow b_Mo_pushBelow 3 none : Cond) ∈ gw := gw_of (List.mem_append_right _ (List.mem_append_right _ (List.mem_append_right _ (List.mem_append_right _ (List.mem_append_left _ (List.mem_of_getElem? (i := 173) (by decide +kernel))))))) rfl
theorem gm_840 : (Cond.methodLink R_Mo 144 y_Mo_places : Cond) ∈ gw := gw_of (List.mem_append_right _ (List.mem_append_right _ (List.mem_append_right _ (List.mem_append_right _ (List.mem_append_left _ (List.mem_of_getElem? (i := 174) (by decide +kernel))))))) rfl
theorem gm_841 : (Cond.instanceMethod y_Mo_places : Cond) ∈ gw := gw_of (List.mem_append_right _ (List.mem_append_right _ (List.mem_append_right _ (List.mem_append_right _ (List.mem_append_left _ (List.mem_of_getElem? (i := 176) (by decide +kernel))))))) rfl
theorem gm_842 : (Cond.code y_Mo_places b_Mo_places 3 (some .int) : Cond) ∈ gw := gw_of (List.mem_append_right _ (List.mem_append_right _ (List.mem_append_right _ (List.mem_append_right _ (List.mem_append_left _ (List.mem_of_getElem? (i := 177) (by decide +kernel))))))) rfl
theorem gm_843 : (Cond.methodLink R_Mo 159 y_Mo_isBody : Cond) ∈ gw := gw_of (List.mem_append_right _ (List.mem_append_right _ (List.mem_append_right _ (List.mem_append_right _ (List.mem_append_left _ (List.mem_of_getElem? (i := 178) (by decide +kernel))))))) rfl
theorem gm_844 : (Cond.instanceMethod y_Mo_isBody : Cond) ∈ gw := gw_of (List.mem_append_right _ (List.mem_append_right _ (List.mem_append_right _ (List.mem_append_right _ (List.mem_append_left _ (List.mem_of_getElem? (i := 180) (by decide +kernel))))))) rfl
theorem gm_845 : (Cond.code y_Mo_isBody b_Mo_isBody 3 (some .boolean) : Cond) ∈ gw := gw_of (List.mem_append_right _ (List.mem_append_right _ (List.mem_append_right _ (List.mem_append_right _ (List.mem_append_left _ (List.mem_of_getElem? (i := 181) (by decide +kernel))))))) rfl
theorem gm_846 : (Cond.methodLink R_La 79 y_Mo_check : Cond) ∈ gw := gw_of (List.mem_append_right _ (List.mem_append_right _ (List.mem_append_right _ (List.mem_append_right _ (List.mem_append_left _ (List.mem_of_getElem? (i := 182) (by decide +kernel))))))) rfl
theorem gm_847 : (Cond.instanceMethod y_Mo_check : Cond) ∈ gw := gw_of (List.mem_append_right _ (List.mem_append_right _ (List.mem_append_right _ (List.mem_append_right _ (List.mem_append_left _ (List.mem_of_getElem? (i := 183) (by decide +kernel))))))) rfl
theorem gm_848 : (Cond.selects R_Mo y_Mo_check y_Mo_check : Cond) ∈ gw := gw_of (List.mem_append_right _ (List.mem_append_right _ (List.mem_append_right _ (List.mem_append_right _ (List.mem_append_left _ (List.mem_of_getElem? (i := 184) (by decide +kernel))))))) rfl
theorem gm_849 : (Cond.code y_Mo_check b_Mo_check 3 (some .int) : Cond) ∈ gw := gw_of (List.mem_append_right _ (List.mem_append_right _ (List.mem_append_right _ (List.mem_append_right _ (List.mem_append_left _ (List.mem_of_getElem? (i := 185) (by decide +kernel))))))) rfl
theorem gm_850 : (Cond.methodLink R_Mo 215 y_Mo_allInhabited : Cond) ∈ gw := gw_of (List.mem_append_right _ (List.mem_append_right _ (List.mem_append_right _ (List.mem_append_right _ (List.mem_append_left _ (List.mem_of_getElem? (i := 186) (by decide +kernel))))))) rfl
theorem gm_851 : (Cond.instanceMethod y_Mo_allInhabited : Cond) ∈ gw := gw_of (List.mem_append_right _ (List.mem_append_right _ (List.mem_append_right _ (List.mem_append_right _ (List.mem_append_left _ (List.mem_of_getElem? (i := 188) (by decide +kernel))))))) rfl
theorem gm_852 : (Cond.code y_Mo_allInhabited b_Mo_allInhabited 5 (some .boolean) : Cond) ∈ gw := gw_of (List.mem_append_right _ (List.mem_append_right _ (List.mem_append_right _ (List.mem_append_right _ (List.mem_append_left _ (List.mem_of_getElem? (i := 189) (by decide +kernel))))))) rfl
theorem gm_853 : (Cond.methodLink R_Mo 219 y_Mo_allTyped : Cond) ∈ gw := gw_of (List.mem_append_right _ (List.mem_append_right _ (List.mem_append_right _ (List.mem_append_right _ (List.mem_append_left _ (List.mem_of_getElem? (i := 190) (by decide +kernel))))))) rfl
theorem gm_854 : (Cond.instanceMethod y_Mo_allTyped : Cond) ∈ gw := gw_of (List.mem_append_right _ (List.mem_append_right _ (List.mem_append_right _ (List.mem_append_right _ (List.mem_append_left _ (List.mem_of_getElem? (i := 192) (by decide +kernel))))))) rfl
theorem gm_855 : (Cond.code y_Mo_allTyped b_Mo_allTyped 4 (some .boolean) : Cond) ∈ gw := gw_of (List.mem_append_right _ (List.mem_append_right _ (List.mem_append_right _ (List.mem_append_right _ (List.mem_append_left _ (List.mem_of_getElem? (i := 193) (by decide +kernel))))))) rfl
theorem gm_856 : (Cond.methodLink R_Mo 169 y_Mo_isTyped : Cond) ∈ gw := gw_of (List.mem_append_right _ (List.mem_append_right _ (List.mem_append_right _ (List.mem_append_right _ (List.mem_append_left _ (List.mem_of_getElem? (i := 194) (by decide +kernel))))))) rfl
theorem gm_857 : (Cond.instanceMethod y_Mo_isTyped : Cond) ∈ gw := gw_of (List.mem_append_right _ (List.mem_append_right _ (List.mem_append_right _ (List.mem_append_right _ (List.mem_append_left _ (List.mem_of_getElem? (i := 196) (by decide +kernel))))))) rfl
theorem gm_858 : (Cond.code y_Mo_isTyped b_Mo_isTyped 8 (some .boolean) : Cond) ∈ gw := gw_of (List.mem_append_right _ (List.mem_append_right _ (List.mem_append_right _ (List.mem_append_right _ (List.mem_append_left _ (List.mem_of_getElem? (i := 197) (by decide +kernel))))))) rfl
theorem gm_859 : (Cond.methodLink R_Mo 222 y_Mo_isCovered : Cond) ∈ gw := gw_of (List.mem_append_right _ (List.mem_append_right _ (List.mem_append_right _ (List.mem_append_right _ (List.mem_append_left _ (List.mem_of_getElem? (i := 198) (by decide +kernel))))))) rfl
theorem gm_860 : (Cond.instanceMethod y_Mo_isCovered : Cond) ∈ gw := gw_of (List.mem_append_right _ (List.mem_append_right _ (List.mem_append_right _ (List.mem_append_right _ (List.mem_append_left _ (List.mem_of_getElem? (i := 200) (by decide +kernel))))))) rfl
theorem gm_861 : (Cond.code y_Mo_isCovered b_Mo_isCovered 7 (some .boolean) : Cond) ∈ gw := gw_of (List.mem_append_right _ (List.mem_append_right _ (List.mem_append_right _ (List.mem_append_right _ (List.mem_append_left _ (List.mem_of_getElem? (i := 201) (by decide +kernel))))))) rfl
theorem gm_862 : (Cond.methodLink R_Mo 177 y_Mo_stands : Cond) ∈ gw := gw_of (List.mem_append_right _ (List.mem_append_right _ (List.mem_append_right _ (List.mem_append_right _ (List.mem_append_left _ (List.mem_of_getElem? (i := 202) (by decide +kernel))))))) rfl
theorem gm_863 : (Cond.instanceMethod y_Mo_stands : Cond) ∈ gw := gw_of (List.mem_append_right _ (List.mem_append_right _ (List.mem_append_right _ (List.mem_append_right _ (List.mem_append_left _ (List.mem_of_getElem? (i := 204) (by decide +kernel))))))) rfl
theorem gm_864 : (Cond.code y_Mo_stands b_Mo_stands 7 (some .int) : Cond) ∈ gw := gw_of (List.mem_append_right _ (List.mem_append_right _ (List.mem_append_right _ (List.mem_append_right _ (List.mem_append_left _ (List.mem_of_getElem? (i := 205) (by decide +kernel))))))) rfl
theorem gm_865 : (Cond.methodLink R_Mo 173 y_Mo_wants : Cond) ∈ gw := gw_of (List.mem_append_right _ (List.mem_append_right _ (List.mem_append_right _ (List.mem_append_right _ (List.mem_append_left _ (List.mem_of_getElem? (i := 206) (by decide +kernel))))))) rfl
theorem gm_866 : (Cond.instanceMethod y_Mo_wants : Cond) ∈ gw := gw_of (List.mem_append_right _ (List.mem_append_right _ (List.mem_append_right _ (List.mem_append_right _ (List.mem_append_left _ (List.mem_of_getElem? (i := 208) (by decide +kernel))))))) rfl
theorem gm_867 : (Cond.code y_Mo_wants b_Mo_wants 5 (some .int) : Cond) ∈ gw := gw_of (List.mem_append_right _ (List.mem_append_right _ (List.mem_append_right _ (List.mem_append_right _ (List.mem_append_left _ (List.mem_of_getElem? (i := 209) (by decide +kernel))))))) rfl
theorem gm_868 : (Cond.methodLink R_Mo 180 y_Mo_splitAt : Cond) ∈ gw := gw_of (List.mem_append_right _ (List.mem_append_right _ (List.mem_append_right _ (List.mem_append_right _ (List.mem_append_left _ (List.mem_of_getElem? (i := 210) (by decide +kernel))))))) rfl
theorem gm_869 : (Cond.instanceMethod y_Mo_splitAt : Cond) ∈ gw := gw_of (List.mem_append_right _ (List.mem_append_right _ (List.mem_append_right _ (List.mem_append_right _ (List.mem_append_left _ (List.mem_of_getElem? (i := 212) (by decide +kernel))))))) rfl
theorem gm_870 : (Cond.code y_Mo_splitAt b_Mo_splitAt 8 (some .int) : Cond) ∈ gw := gw_of (List.mem_append_right _ (List.mem_append_right _ (List.mem_append_right _ (List.mem_append_right _ (List.mem_append_left _ (List.mem_of_getElem? (i := 213) (by decide +kernel))))))) rfl
theorem gm_871 : (Cond.methodLink R_Mo 183 y_Mo_typeAt : Cond) ∈ gw := gw_of (List.mem_append_right _ (List.mem_append_right _ (List.mem_append_right _ (List.mem_append_right _ (List.mem_append_left _ (List.mem_of_getElem? (i := 214) (by decide +kernel))))))) rfl
theorem gm_872 : (Cond.instanceMethod y_Mo_typeAt : Cond) ∈ gw := gw_of (List.mem_append_right _ (List.mem_append_right _ (List.mem_append_right _ (List.mem_append_right _ (List.mem_append_left _ (List.mem_of_getElem? (i := 216) (by decide +kernel))))))) rfl
theorem gm_873 : (Cond.code y_Mo_typeAt b_Mo_typeAt 4 (some .int) : Cond) ∈ gw := gw_of (List.mem_append_right _ (List.mem_append_right _ (List.mem_append_right _ (List.mem_append_right _ (List.mem_append_left _ (List.mem_of_getElem? (i := 217) (by decide +kernel))))))) rfl
theorem gm_874 : (Cond.methodLink R_Mo 225 y_Mo_isEnding : Cond) ∈ gw := gw_of (List.mem_append_right _ (List.mem_append_right _ (List.mem_append_right _ (List.mem_append_right _ (List.mem_append_left _ (List.mem_of_getElem? (i := 218) (by decide +kernel))))))) rfl
theorem gm_875 : (Cond.instanceMethod y_Mo_isEnding : Cond) ∈ gw := gw_of (List.mem_append_right _ (List.mem_append_right _ (List.mem_append_right _ (List.mem_append_right _ (List.mem_append_left _ (List.mem_of_getElem? (i := 220) (by decide +kernel))))))) rfl
theorem gm_876 : (Cond.code y_Mo_isEnding b_Mo_isEnding 4 (some .boolean) : Cond) ∈ gw := gw_of (List.mem_append_right _ (List.mem_append_right _ (List.mem_append_right _ (List.mem_append_right _ (List.mem_append_left _ (List.mem_of_getElem? (i := 221) (by decide +kernel))))))) rfl
theorem gm_877 : (Cond.methodLink R_Mo 209 y_Mo_callGraphs : Cond) ∈ gw := gw_of (List.mem_append_right _ (List.mem_append_right _ (List.mem_append_right _ (List.mem_append_right _ (List.mem_append_left _ (List.mem_of_getElem? (i := 222) (by decide +kernel))))))) rfl
theorem gm_878 : (Cond.instanceMethod y_Mo_callGraphs : Cond) ∈ gw := gw_of (List.mem_append_right _ (List.mem_append_right _ (List.mem_append_right _ (List.mem_append_right _ (List.mem_append_left _ (List.mem_of_getElem? (i := 224) (by decide +kernel))))))) rfl
theorem gm_879 : (Cond.code y_Mo_callGraphs b_Mo_callGraphs 8 none : Cond) ∈ gw := gw_of (List.mem_append_right _ (List.mem_append_right _ (List.mem_append_right _ (List.mem_append_right _ (List.mem_append_left _ (List.mem_of_getElem? (i := 225) (by decide +kernel))))))) rfl
theorem gm_880 : (Cond.methodLink R_Mo 198 y_Mo_callOf : Cond) ∈ gw := gw_of (List.mem_append_right _ (List.mem_append_right _ (List.mem_append_right _ (List.mem_append_right _ (List.mem_append_left _ (List.mem_of_getElem? (i := 226) (by decide +kernel))))))) rfl
theorem gm_881 : (Cond.instanceMethod y_Mo_callOf : Cond) ∈ gw := gw_of (List.mem_append_right _ (List.mem_append_right _ (List.mem_append_right _ (List.mem_append_right _ (List.mem_append_left _ (List.mem_of_getElem? (i := 228) (by decide +kernel))))))) rfl
theorem gm_882 : (Cond.code y_Mo_callOf b_Mo_callOf 5 (some .int) : Cond) ∈ gw := gw_of (List.mem_append_right _ (List.mem_append_right _ (List.mem_append_right _ (List.mem_append_right _ (List.mem_append_left _ (List.mem_of_getElem? (i := 229) (by decide +kernel))))))) rfl
theorem gm_883 : (Cond.methodLink R_Mo 201 y_Mo_arcOf : Cond) ∈ gw := gw_of (List.mem_append_right _ (List.mem_append_right _ (List.mem_append_right _ (List.mem_append_right _ (List.mem_append_left _ (List.mem_of_getElem? (i := 230) (by decide +kernel))))))) rfl
theorem gm_884 : (Cond.instanceMethod y_Mo_arcOf : Cond) ∈ gw := gw_of (List.mem_append_right _ (List.mem_append_right _ (List.mem_append_right _ (List.mem_append_right _ (List.mem_append_left _ (List.mem_of_getElem? (i := 232) (by decide +kernel))))))) rfl
theorem gm_885 : (Cond.code y_Mo_arcOf b_Mo_arcOf 5 (some .int) : Cond) ∈ gw := gw_of (List.mem_append_right _ (List.mem_append_right _ (List.mem_append_right _ (List.mem_append_right _ (List.mem_append_left _ (List.mem_of_getElem? (i := 233) (by decide +kernel))))))) rfl
theorem gm_886 : (Cond.methodLink R_Mo 189 y_Mo_inside : Cond) ∈ gw := gw_of (List.mem_append_right _ (List.mem_append_right _ (List.mem_append_right _ (List.mem_append_right _ (List.mem_append_left _ (List.mem_of_getElem? (i := 234) (by decide +kernel))))))) rfl
theorem gm_887 : (Cond.instanceMethod y_Mo_inside : Cond) ∈ gw := gw_of (List.mem_append_right _ (List.mem_append_right _ (List.mem_append_right _ (List.mem_append_right _ (List.mem_append_left _ (List.mem_of_getElem? (i := 236) (by decide +kernel))))))) rfl
theorem gm_888 : (Cond.code y_Mo_inside b_Mo_inside 7 (some .int) : Cond) ∈ gw := gw_of (List.mem_append_right _ (List.mem_append_right _ (List.mem_append_right _ (List.mem_append_right _ (List.mem_append_left _ (List.mem_of_getElem? (i := 237) (by decide +kernel))))))) rfl
theorem gm_889 : (Cond.methodLink R_Mo 186 y_Mo_alike : Cond) ∈ gw := gw_of (List.mem_append_right _ (List.mem_append_right _ (List.mem_append_right _ (List.mem_append_right _ (List.mem_append_left _ (List.mem_of_getElem? (i := 238) (by decide +kernel))))))) rfl
theorem gm_890 : (Cond.instanceMethod y_Mo_alike : Cond) ∈ gw := gw_of (List.mem_append_right _ (List.mem_append_right _ (List.mem_append_right _ (List.mem_append_right _ (List.mem_append_right _ (List.mem_of_getElem? (i := 0) (by decide +kernel))))))) rfl
theorem gm_891 : (Cond.code y_Mo_alike b_Mo_alike 6 (some .boolean) : Cond) ∈ gw := gw_of (List.mem_append_right _ (List.mem_append_right _ (List.mem_append_right _ (List.mem_append_right _ (List.mem_append_right _ (List.mem_of_getElem? (i := 1) (by decide +kernel))))))) rfl
theorem gm_892 : (Cond.methodLink R_Mo 205 y_Mo_addGraph : Cond) ∈ gw := gw_of (List.mem_append_right _ (List.mem_append_right _ (List.mem_append_right _ (List.mem_append_right _ (List.mem_append_right _ (List.mem_of_getElem? (i := 2) (by decide +kernel))))))) rfl
theorem gm_893 : (Cond.instanceMethod y_Mo_addGraph : Cond) ∈ gw := gw_of (List.mem_append_right _ (List.mem_append_right _ (List.mem_append_right _ (List.mem_append_right _ (List.mem_append_right _ (List.mem_of_getElem? (i := 4) (by decide +kernel))))))) rfl
theorem gm_894 : (Cond.code y_Mo_addGraph b_Mo_addGraph 5 none : Cond) ∈ gw := gw_of (List.mem_append_right _ (List.mem_append_right _ (List.mem_append_right _ (List.mem_append_right _ (List.mem_append_right _ (List.mem_of_getElem? (i := 5) (by decide +kernel))))))) rfl
theorem gm_895 : (Cond.methodLink R_Mo 212 y_Mo_composed : Cond) ∈ gw := gw_of (List.mem_append_right _ (List.mem_append_right _ (List.mem_append_right _ (List.mem_append_right _ (List.mem_append_right _ (List.mem_of_getElem? (i := 6) (by decide +kernel))))))) rfl
theorem gm_896 : (Cond.static y_Mo_composed : Cond) ∈ gw := gw_of (List.mem_append_right _ (List.mem_append_right _ (List.mem_append_right _ (List.mem_append_right _ (List.mem_append_right _ (List.mem_of_getElem? (i := 7) (by decide +kernel))))))) rfl
theorem gm_897 : (Cond.code y_Mo_composed b_Mo_composed 10 (some .int) : Cond) ∈ gw := gw_of (List.mem_append_right _ (List.mem_append_right _ (List.mem_append_right _ (List.mem_append_right _ (List.mem_append_right _ (List.mem_of_getElem? (i := 8) (by decide +kernel))))))) rfl
theorem gm_898 : (Cond.methodLink R_Mo 195 y_Mo_arcAt : Cond) ∈ gw := gw_of (List.mem_append_right _ (List.mem_append_right _ (List.mem_append_right _ (List.mem_append_right _ (List.mem_append_right _ (List.mem_of_getElem? (i := 9) (by decide +kernel))))))) rfl
theorem gm_899 : (Cond.static y_Mo_arcAt : Cond) ∈ gw := gw_of (List.mem_append_right _ (List.mem_append_right _ (List.mem_append_right _ (List.mem_append_right _ (List.mem_append_right _ (List.mem_of_getElem? (i := 10) (by decide +kernel))))))) rfl
theorem gm_900 : (Cond.code y_Mo_arcAt b_Mo_arcAt 3 (some .int) : Cond) ∈ gw := gw_of (List.mem_append_right _ (List.mem_append_right _ (List.mem_append_right _ (List.mem_append_right _ (List.mem_append_right _ (List.mem_of_getElem? (i := 11) (by decide +kernel))))))) rfl
theorem gm_901 : (Cond.methodLink R_La 83 y_Mo_graphs : Cond) ∈ gw := gw_of (List.mem_append_right _ (List.mem_append_right _ (List.mem_append_right _ (List.mem_append_right _ (List.mem_append_right _ (List.mem_of_getElem? (i := 12) (by decide +kernel))))))) rfl
theorem gm_902 : (Cond.instanceMethod y_Mo_graphs : Cond) ∈ gw := gw_of (List.mem_append_right _ (List.mem_append_right _ (List.mem_append_right _ (List.mem_append_right _ (List.mem_append_right _ (List.mem_of_getElem? (i := 13) (by decide +kernel))))))) rfl
theorem gm_903 : (Cond.selects R_Mo y_Mo_graphs y_Mo_graphs : Cond) ∈ gw := gw_of (List.mem_append_right _ (List.mem_append_right _ (List.mem_append_right _ (List.mem_append_right _ (List.mem_append_right _ (List.mem_of_getElem? (i := 14) (by decide +kernel))))))) rfl
theorem gm_904 : (Cond.code y_Mo_graphs b_Mo_graphs 1 (some .int) : Cond) ∈ gw := gw_of (List.mem_append_right _ (List.mem_append_right _ (List.mem_append_right _ (List.mem_append_right _ (List.mem_append_right _ (List.mem_of_getElem? (i := 15) (by decide +kernel))))))) rfl
theorem gm_905 : (Cond.methodLink R_La 86 y_Mo_arc : Cond) ∈ gw := gw_of (List.mem_append_right _ (List.mem_append_right _ (List.mem_append_right _ (List.mem_append_right _ (List.mem_append_right _ (List.mem_of_getElem? (i := 16) (by decide +kernel))))))) rfl
theorem gm_906 : (Cond.instanceMethod y_Mo_arc : Cond) ∈ gw := gw_of (List.mem_append_right _ (List.mem_append_right _ (List.mem_append_right _ (List.mem_append_right _ (List.mem_append_right _ (List.mem_of_getElem? (i := 17) (by decide +kernel))))))) rfl
theorem gm_907 : (Cond.selects R_Mo y_Mo_arc y_Mo_arc : Cond) ∈ gw := gw_of (List.mem_append_right _ (List.mem_append_right _ (List.mem_append_right _ (List.mem_append_right _ (List.mem_append_right _ (List.mem_of_getElem? (i := 18) (by decide +kernel))))))) rfl
theorem gm_908 : (Cond.code y_Mo_arc b_Mo_arc 8 (some .int) : Cond) ∈ gw := gw_of (List.mem_append_right _ (List.mem_append_right _ (List.mem_append_right _ (List.mem_append_right _ (List.mem_append_right _ (List.mem_of_getElem? (i := 19) (by decide +kernel))))))) rfl
theorem gm_909 : (Cond.methodLink R_La 91 y_Mo_isValue : Cond) ∈ gw := gw_of (List.mem_append_right _ (List.mem_append_right _ (List.mem_append_right _ (List.mem_append_right _ (List.mem_append_right _ (List.mem_of_getElem? (i := 20) (by decide +kernel))))))) rfl
theorem gm_910 : (Cond.instanceMethod y_Mo_isValue : Cond) ∈ gw := gw_of (List.mem_append_right _ (List.mem_append_right _ (List.mem_append_right _ (List.mem_append_right _ (List.mem_append_right _ (List.mem_of_getElem? (i := 21) (by decide +kernel))))))) rfl
theorem gm_911 : (Cond.selects R_Mo y_Mo_isValue y_Mo_isValue : Cond) ∈ gw := gw_of (List.mem_append_right _ (List.mem_append_right _ (List.mem_append_right _ (List.mem_append_right _ (List.mem_append_right _ (List.mem_of_getElem? (i := 22) (by decide +kernel))))))) rfl
theorem gm_912 : (Cond.code y_Mo_isValue b_Mo_isValue 3 (some .boolean) : Cond) ∈ gw := gw_of (List.mem_append_right _ (List.mem_append_right _ (List.mem_append_right _ (List.mem_append_right _ (List.mem_append_right _ (List.mem_of_getElem? (i := 23) (by decide +kernel))))))) rfl
theorem gm_913 : (Cond.methodLink R_Mo 228 y_Mo_isClosed : Cond) ∈ gw := gw_of (List.mem_append_right _ (List.mem_append_right _ (List.mem_append_right _ (List.mem_append_right _ (List.mem_append_right _ (List.mem_of_getElem? (i := 24) (by decide +kernel))))))) rfl
theorem gm_914 : (Cond.instanceMethod y_Mo_isClosed : Cond) ∈ gw := gw_of (List.mem_append_right _ (List.mem_append_right _ (List.mem_append_right _ (List.mem_append_right _ (List.mem_append_right _ (List.mem_of_getElem? (i := 26) (by decide +kernel))))))) rfl
theorem gm_915 : (Cond.code y_Mo_isClosed b_Mo_isClosed 3 (some .boolean) : Cond) ∈ gw := gw_of (List.mem_append_right _ (List.mem_append_right _ (List.mem_append_right _ (List.mem_append_right _ (List.mem_append_right _ (List.mem_of_getElem? (i := 27) (by decide +kernel))))))) rfl
theorem gm_916 : (Cond.methodLink R_La 94 y_Mo_run : Cond) ∈ gw := gw_of (List.mem_append_right _ (List.mem_append_right _ (List.mem_append_right _ (List.mem_append_right _ (List.mem_append_right _ (List.mem_of_getElem? (i := 28) (by decide +kernel))))))) rfl
theorem gm_917 : (Cond.instanceMethod y_Mo_run : Cond) ∈ gw := gw_of (List.mem_append_right _ (List.mem_append_right _ (List.mem_append_right _ (List.mem_append_right _ (List.mem_append_right _ (List.mem_of_getElem? (i := 29) (by decide +kernel))))))) rfl
theorem gm_918 : (Cond.selects R_Mo y_Mo_run y_Mo_run : Cond) ∈ gw := gw_of (List.mem_append_right _ (List.mem_append_right _ (List.mem_append_right _ (List.mem_append_right _ (List.mem_append_right _ (List.mem_of_getElem? (i := 30) (by decide +kernel))))))) rfl
theorem gm_919 : (Cond.code y_Mo_run b_Mo_run 7 (some .int) : Cond) ∈ gw := gw_of (List.mem_append_right _ (List.mem_append_right _ (List.mem_append_right _ (List.mem_append_right _ (List.mem_append_right _ (List.mem_of_getElem? (i := 31) (by decide +kernel))))))) rfl
theorem gm_920 : (Cond.methodLink R_Mo 265 y_Mo_isValue : Cond) ∈ gw := gw_of (List.mem_append_right _ (List.mem_append_right _ (List.mem_append_right _ (List.mem_append_right _ (List.mem_append_right _ (List.mem_of_getElem? (i := 32) (by decide +kernel))))))) rfl
theorem gm_921 : (Cond.methodLink R_Mo 268 y_Mo_give : Cond) ∈ gw := gw_of (List.mem_append_right _ (List.mem_append_right _ (List.mem_append_right _ (List.mem_append_right _ (List.mem_append_right _ (List.mem_of_getElem? (i := 33) (by decide +kernel))))))) rfl
theorem gm_922 : (Cond.instanceMethod y_Mo_give : Cond) ∈ gw := gw_of (List.mem_append_right _ (List.mem_append_right _ (List.mem_append_right _ (List.mem_append_right _ (List.mem_append_right _ (List.mem_of_getElem? (i := 35) (by decide +kernel))))))) rfl
theorem gm_923 : (Cond.code y_Mo_give b_Mo_give 3 none : Cond) ∈ gw := gw_of (List.mem_append_right _ (List.mem_append_right _ (List.mem_append_right _ (List.mem_append_right _ (List.mem_append_right _ (List.mem_of_getElem? (i := 36) (by decide +kernel))))))) rfl
theorem gm_924 : (Cond.methodLink R_Mo 240 y_Mo_doLater : Cond) ∈ gw := gw_of (List.mem_append_right _ (List.mem_append_right _ (List.mem_append_right _ (List.mem_append_right _ (List.mem_append_right _ (List.mem_of_getElem? (i := 37) (by decide +kernel))))))) rfl
theorem gm_925 : (Cond.instanceMethod y_Mo_doLater : Cond) ∈ gw := gw_of (List.mem_append_right _ (List.mem_append_right _ (List.mem_append_right _ (List.mem_append_right _ (List.mem_append_right _ (List.mem_of_getElem? (i := 39) (by decide +kernel))))))) rfl
theorem gm_926 : (Cond.code y_Mo_doLater b_Mo_doLater 3 none : Cond) ∈ gw := gw_of (List.mem_append_right _ (List.mem_append_right _ (List.mem_append_right _ (List.mem_append_right _ (List.mem_append_right _ (List.mem_of_getElem? (i := 40) (by decide +kernel))))))) rfl
theorem gm_927 : (Cond.methodLink R_Mo 250 y_Mo_evaluate : Cond) ∈ gw := gw_of (List.mem_append_right _ (List.mem_append_right _ (List.mem_append_right _ (List.mem_append_right _ (List.mem_append_right _ (List.mem_of_getElem? (i := 41) (by decide +kernel))))))) rfl
theorem gm_928 : (Cond.instanceMethod y_Mo_evaluate : Cond) ∈ gw := gw_of (List.mem_append_right _ (List.mem_append_right _ (List.mem_append_right _ (List.mem_append_right _ (List.mem_append_right _ (List.mem_of_getElem? (i := 43) (by decide +kernel))))))) rfl
theorem gm_929 : (Cond.code y_Mo_evaluate b_Mo_evaluate 5 none : Cond) ∈ gw := gw_of (List.mem_append_right _ (List.mem_append_right _ (List.mem_append_right _ (List.mem_append_right _ (List.mem_append_right _ (List.mem_of_getElem? (i := 44) (by decide +kernel))))))) rfl
theorem gm_930 : (Cond.methodLink R_Mo 259 y_Mo_hold : Cond) ∈ gw := gw_of (List.mem_append_right _ (List.mem_append_right _ (List.mem_append_right _ (List.mem_append_right _ (List.mem_append_right _ (List.mem_of_getElem? (i := 45) (by decide +kernel))))))) rfl
theorem gm_931 : (Cond.instanceMethod y_Mo_hold : Cond) ∈ gw := gw_of (List.mem_append_right _ (List.mem_append_right _ (List.mem_append_right _ (List.mem_append_right _ (List.mem_append_right _ (List.mem_of_getElem? (i := 47) (by decide +kernel))))))) rfl
theorem gm_932 : (Cond.code y_Mo_hold b_Mo_hold 6 none : Cond) ∈ gw := gw_of (List.mem_append_right _ (List.mem_append_right _ (List.mem_append_right _ (List.mem_append_right _ (List.mem_append_right _ (List.mem_of_getElem? (i := 48) (by decide +kernel))))))) rfl
theorem gm_933 : (Cond.methodLink R_Mo 271 y_Mo_finished : Cond) ∈ gw := gw_of (List.mem_append_right _ (List.mem_append_right _ (List.mem_append_right _ (List.mem_append_right _ (List.mem_append_right _ (List.mem_of_getElem? (i := 49) (by decide +kernel))))))) rfl
theorem gm_934 : (Cond.instanceMethod y_Mo_finished : Cond) ∈ gw := gw_of (List.mem_append_right _ (List.mem_append_right _ (List.mem_append_right _ (List.mem_append_right _ (List.mem_append_right _ (List.mem_of_getElem? (i := 51) (by decide +kernel))))))) rfl
theorem gm_935 : (Cond.code y_Mo_finished b_Mo_finished 3 (some .boolean) : Cond) ∈ gw := gw_of (List.mem_append_right _ (List.mem_append_right _ (List.mem_append_right _ (List.mem_append_right _ (List.mem_append_right _ (List.mem_of_getElem? (i := 52) (by decide +kernel))))))) rfl
theorem gm_936 : (Cond.methodLink R_Mo 253 y_Mo_enter : Cond) ∈ gw := gw_of (List.mem_append_right _ (List.mem_append_right _ (List.mem_append_right _ (List.mem_append_right _ (List.mem_append_right _ (List.mem_of_getElem? (i := 53) (by decide +kernel))))))) rfl
theorem gm_937 : (Cond.instanceMethod y_Mo_enter : Cond) ∈ gw := gw_of (List.mem_append_right _ (List.mem_append_right _ (List.mem_append_right _ (List.mem_append_right _ (List.mem_append_right _ (List.mem_of_getElem? (i := 55) (by decide +kernel))))))) rfl
theorem gm_938 : (Cond.code y_Mo_enter b_Mo_enter 7 (some .boolean) : Cond) ∈ gw := gw_of (List.mem_append_right _ (List.mem_append_right _ (List.mem_append_right _ (List.mem_append_right _ (List.mem_append_right _ (List.mem_of_getElem? (i := 56) (by decide +kernel))))))) rfl
theorem gm_939 : (Cond.methodLink R_Mo 246 y_Mo_matches : Cond) ∈ gw := gw_of (List.mem_append_right _ (List.mem_append_right _ (List.mem_append_right _ (List.mem_append_right _ (List.mem_append_right _ (List.mem_of_getElem? (i := 57) (by decide +kernel))))))) rfl
theorem gm_940 : (Cond.instanceMethod y_Mo_matches : Cond) ∈ gw := gw_of (List.mem_append_right _ (List.mem_append_right _ (List.mem_append_right _ (List.mem_append_right _ (List.mem_append_right _ (List.mem_of_getElem? (i := 59) (by decide +kernel))))))) rfl
theorem gm_941 : (Cond.code y_Mo_matches b_Mo_matches 8 (some .boolean) : Cond) ∈ gw := gw_of (List.mem_append_right _ (List.mem_append_right _ (List.mem_append_right _ (List.mem_append_right _ (List.mem_append_right _ (List.mem_of_getElem? (i := 60) (by decide +kernel))))))) rfl
theorem gm_942 : (Cond.methodLink R_Mo 274 y_Mo_write : Cond) ∈ gw := gw_of (List.mem_append_right _ (List.mem_append_right _ (List.mem_append_right _ (List.mem_append_right _ (List.mem_append_right _ (List.mem_of_getElem? (i := 61) (by decide +kernel))))))) rfl
theorem gm_943 : (Cond.instanceMethod y_Mo_write : Cond) ∈ gw := gw_of (List.mem_append_right _ (List.mem_append_right _ (List.mem_append_right _ (List.mem_append_right _ (List.mem_append_right _ (List.mem_of_getElem? (i := 63) (by decide +kernel))))))) rfl
theorem gm_944 : (Cond.code y_Mo_write b_Mo_write 4 none : Cond) ∈ gw := gw_of (List.mem_append_right _ (List.mem_append_right _ (List.mem_append_right _ (List.mem_append_right _ (List.mem_append_right _ (List.mem_of_getElem? (i := 64) (by decide +kernel))))))) rfl
theorem gm_945 : (Cond.methodLink R_La 97 y_Mo_answer : Cond) ∈ gw := gw_of (List.mem_append_right _ (List.mem_append_right _ (List.mem_append_right _ (List.mem_append_right _ (List.mem_append_right _ (List.mem_of_getElem? (i := 65) (by decide +kernel))))))) rfl
theorem gm_946 : (Cond.instanceMethod y_Mo_answer : Cond) ∈ gw := gw_of (List.mem_append_right _ (List.mem_append_right _ (List.mem_append_right _ (List.mem_append_right _ (List.mem_append_right _ (List.mem_of_getElem? (i := 66) (by decide +kernel))))))) rfl
theorem gm_947 : (Cond.selects R_Mo y_Mo_answer y_Mo_answer : Cond) ∈ gw := gw_of (List.mem_append_right _ (List.mem_append_right _ (List.mem_append_right _ (List.mem_append_right _ (List.mem_append_right _ (List.mem_of_getElem? (i := 67) (by decide +kernel))))))) rfl
theorem gm_948 : (Cond.code y_Mo_answer b_Mo_answer 2 (some .int) : Cond) ∈ gw := gw_of (List.mem_append_right _ (List.mem_append_right _ (List.mem_append_right _ (List.mem_append_right _ (List.mem_append_right _ (List.mem_of_getElem? (i := 68) (by decide +kernel))))))) rfl
theorem gm_949 : (Cond.methodLink R_La 101 y_Mo_count : Cond) ∈ gw := gw_of (List.mem_append_right _ (List.mem_append_right _ (List.mem_append_right _ (List.mem_append_right _ (List.mem_append_right _ (List.mem_of_getElem? (i := 69) (by decide +kernel))))))) rfl
theorem gm_950 : (Cond.instanceMethod y_Mo_count : Cond) ∈ gw := gw_of (List.mem_append_right _ (List.mem_append_right _ (List.mem_append_right _ (List.mem_append_right _ (List.mem_append_right _ (List.mem_of_getElem? (i := 70) (by decide +kernel))))))) rfl
theorem gm_951 : (Cond.selects R_Mo y_Mo_count y_Mo_count : Cond) ∈ gw := gw_of (List.mem_append_right _ (List.mem_append_right _ (List.mem_append_right _ (List.mem_append_right _ (List.mem_append_right _ (List.mem_of_getElem? (i := 71) (by decide +kernel))))))) rfl
theorem gm_952 : (Cond.code y_Mo_count b_Mo_count 2 (some .int) : Cond) ∈ gw := gw_of (List.mem_append_right _ (List.mem_append_right _ (List.mem_append_right _ (List.mem_append_right _ (List.mem_append_right _ (List.mem_of_getElem? (i := 72) (by decide +kernel))))))) rfl
theorem gm_953 : (Cond.arrayClass .long : Cond) ∈ gw := gw_of (List.mem_append_right _ (List.mem_append_right _ (List.mem_append_right _ (List.mem_append_right _ (List.mem_append_right _ (List.mem_of_getElem? (i := 73) (by decide +kernel))))))) rfl
theorem gm_954 : (Cond.selects R_Fu y_Fu_findWhatIsWrong y_Fu_findWhatIsWrong : Cond) ∈ gw := gw_sel (q := (y_Fu_findWhatIsWrong, 10)) (List.mem_append_left _ (List.mem_of_getElem? (i := 0) (by decide +kernel))) rfl
theorem gm_955 : (Cond.selects R_Ty y_Ty_typesWithValues y_Ty_typesWithValues : Cond) ∈ gw := gw_sel (q := (y_Ty_typesWithValues, 5)) (List.mem_append_left _ (List.mem_of_getElem? (i := 1) (by decide +kernel))) rfl
theorem gm_956 : (Cond.selects R_Ty y_Ty_isTyped y_Ty_isTyped : Cond) ∈ gw := gw_sel (q := (y_Ty_isTyped, 5)) (List.mem_append_left _ (List.mem_of_getElem? (i := 2) (by decide +kernel))) rfl
theorem gm_957 : (Cond.selects R_Ty y_Ty_isPatternOfType y_Ty_isPatternOfType : Cond) ∈ gw := gw_sel (q := (y_Ty_isPatternOfType, 5)) (List.mem_append_left _ (List.mem_of_getElem? (i := 3) (by decide +kernel))) rfl
theorem gm_958 : (Cond.selects R_Ty y_Ty_isOfType y_Ty_isOfType : Cond) ∈ gw := gw_sel (q := (y_Ty_isOfType, 5)) (List.mem_append_left _ (List.mem_of_getElem? (i := 4) (by decide +kernel))) rfl
theorem gm_959 : (Cond.selects R_Co y_Co_readPatterns y_Co_readPatterns : Cond) ∈ gw := gw_sel (q := (y_Co_readPatterns, 6)) (List.mem_append_left _ (List.mem_of_getElem? (i := 5) (by decide +kernel))) rfl
theorem gm_960 : (Cond.selects R_Co y_Co_readPattern y_Co_readPattern : Cond) ∈ gw := gw_sel (q := (y_Co_readPattern, 6)) (List.mem_append_left _ (List.mem_of_getElem? (i := 6) (by decide +kernel))) rfl
theorem gm_961 : (Cond.selects R_Co y_Co_isCovered y_Co_isCovered : Cond) ∈ gw := gw_sel (q := (y_Co_isCovered, 6)) (List.mem_append_left _ (List.mem_of_getElem? (i := 7) (by decide +kernel))) rfl
theorem gm_962 : (Cond.selects R_Co y_Co_compare y_Co_compare : Cond) ∈ gw := gw_sel (q := (y_Co_compare, 6)) (List.mem_append_left _ (List.mem_of_getElem? (i := 8) (by decide +kernel))) rfl
theorem gm_963 : (Cond.selects R_Co y_Co_isCoveredWhenSplit y_Co_isCoveredWhenSplit : Cond) ∈ gw := gw_sel (q := (y_Co_isCoveredWhenSplit, 6)) (List.mem_append_left _ (List.mem_of_getElem? (i := 9) (by decide +kernel))) rfl
theorem gm_964 : (Cond.selects R_Co y_Co_slotType y_Co_slotType : Cond) ∈ gw := gw_sel (q := (y_Co_slotType, 6)) (List.mem_append_left _ (List.mem_of_getElem? (i := 10) (by decide +kernel))) rfl
theorem gm_965 : (Cond.selects R_Co y_Co_constructorThatNoneNames y_Co_constructorThatNoneNames : Cond) ∈ gw := gw_sel (q := (y_Co_constructorThatNoneNames, 6)) (List.mem_append_left _ (List.mem_of_getElem? (i := 11) (by decide +kernel))) rfl
theorem gm_966 : (Cond.selects R_Co y_Co_isNamed y_Co_isNamed : Cond) ∈ gw := gw_sel (q := (y_Co_isNamed, 6)) (List.mem_append_left _ (List.mem_of_getElem? (i := 12) (by decide +kernel))) rfl
theorem gm_967 : (Cond.selects R_En y_En_collectCalls y_En_collectCalls : Cond) ∈ gw := gw_sel (q := (y_En_collectCalls, 9)) (List.mem_append_left _ (List.mem_of_getElem? (i := 13) (by decide +kernel))) rfl
theorem gm_968 : (Cond.selects R_En y_En_collectCallsIn y_En_collectCallsIn : Cond) ∈ gw := gw_sel (q := (y_En_collectCallsIn, 9)) (List.mem_append_left _ (List.mem_of_getElem? (i := 14) (by decide +kernel))) rfl
theorem gm_969 : (Cond.selects R_En y_En_graphOf y_En_graphOf : Cond) ∈ gw := gw_sel (q := (y_En_graphOf, 9)) (List.mem_append_left _ (List.mem_of_getElem? (i := 15) (by decide +kernel))) rfl
theorem gm_970 : (Cond.selects R_En y_En_isSame y_En_isSame : Cond) ∈ gw := gw_sel (q := (y_En_isSame, 9)) (List.mem_append_right _ (List.mem_append_left _ (List.mem_of_getElem? (i := 0) (by decide +kernel)))) rfl
theorem gm_971 : (Cond.selects R_En y_En_isInside y_En_isInside : Cond) ∈ gw := gw_sel (q := (y_En_isInside, 9)) (List.mem_append_right _ (List.mem_append_left _ (List.mem_of_getElem? (i := 1) (by decide +kernel)))) rfl
theorem gm_972 : (Cond.selects R_En y_En_addGraph y_En_addGraph : Cond) ∈ gw := gw_sel (q := (y_En_addGraph, 9)) (List.mem_append_right _ (List.mem_append_left _ (List.mem_of_getElem? (i := 2) (by decide +kernel)))) rfl
theorem gm_973 : (Cond.selects R_En y_En_addCompositions y_En_addCompositions : Cond) ∈ gw := gw_sel (q := (y_En_addCompositions, 9)) (List.mem_append_right _ (List.mem_append_left _ (List.mem_of_getElem? (i := 3) (by decide +kernel)))) rfl
theorem gm_974 : (Cond.selects R_Te y_Te_join y_Te_join : Cond) ∈ gw := gw_sel (q := (y_Te_join, 10)) (List.mem_append_right _ (List.mem_append_left _ (List.mem_of_getElem? (i := 5) (by decide +kernel)))) rfl
theorem gm_975 : (Cond.selects R_Fu y_Fu_areArguments y_Fu_areArguments : Cond) ∈ gw := gw_sel (q := (y_Fu_areArguments, 10)) (List.mem_append_right _ (List.mem_append_left _ (List.mem_of_getElem? (i := 6) (by decide +kernel)))) rfl
theorem gm_976 : (Cond.selects R_Ma y_Ma_hold y_Ma_hold : Cond) ∈ gw := gw_sel (q := (y_Ma_hold, 15)) (List.mem_append_right _ (List.mem_append_left _ (List.mem_of_getElem? (i := 7) (by decide +kernel)))) rfl
theorem gm_977 : (Cond.selects R_Ma y_Ma_step y_Ma_step : Cond) ∈ gw := gw_sel (q := (y_Ma_step, 15)) (List.mem_append_right _ (List.mem_append_left _ (List.mem_of_getElem? (i := 8) (by decide +kernel)))) rfl
theorem gm_978 : (Cond.selects R_Ma y_Ma_matchesAll y_Ma_matchesAll : Cond) ∈ gw := gw_sel (q := (y_Ma_matchesAll, 15)) (List.mem_append_right _ (List.mem_append_left _ (List.mem_of_getElem? (i := 9) (by decide +kernel)))) rfl
theorem gm_979 : (Cond.selects R_Ma y_Ma_matches y_Ma_matches : Cond) ∈ gw := gw_sel (q := (y_Ma_matches, 15)) (List.mem_append_right _ (List.mem_append_left _ (List.mem_of_getElem? (i := 10) (by decide +kernel)))) rfl
theorem gm_980 : (Cond.selects R_Ma y_Ma_open y_Ma_open : Cond) ∈ gw := gw_sel (q := (y_Ma_open, 15)) (List.mem_append_right _ (List.mem_append_left _ (List.mem_of_getElem? (i := 11) (by decide +kernel)))) rfl
theorem gm_981 : (Cond.selects R_Ma y_Ma_turn y_Ma_turn : Cond) ∈ gw := gw_sel (q := (y_Ma_turn, 15)) (List.mem_append_right _ (List.mem_append_left _ (List.mem_of_getElem? (i := 12) (by decide +kernel)))) rfl
theorem gm_982 : (Cond.selects R_Ma y_Ma_build y_Ma_build : Cond) ∈ gw := gw_sel (q := (y_Ma_build, 15)) (List.mem_append_right _ (List.mem_append_left _ (List.mem_of_getElem? (i := 13) (by decide +kernel)))) rfl
theorem gm_983 : (Cond.selects R_Ma y_Ma_writeAnswer y_Ma_writeAnswer : Cond) ∈ gw := gw_sel (q := (y_Ma_writeAnswer, 15)) (List.mem_append_right _ (List.mem_append_left _ (List.mem_of_getElem? (i := 14) (by decide +kernel)))) rfl
theorem gm_984 : (Cond.selects R_Mo y_Mo_build y_Mo_build : Cond) ∈ gw := gw_sel (q := (y_Mo_build, 45)) (List.mem_append_right _ (List.mem_append_left _ (List.mem_of_getElem? (i := 15) (by decide +kernel)))) rfl
theorem gm_985 : (Cond.selects R_Mo y_Mo_isTerm y_Mo_isTerm : Cond) ∈ gw := gw_sel (q := (y_Mo_isTerm, 45)) (List.mem_append_right _ (List.mem_append_right _ (List.mem_append_left _ (List.mem_of_getElem? (i := 0) (by decide +kernel))))) rfl
theorem gm_986 : (Cond.selects R_Mo y_Mo_isClause y_Mo_isClause : Cond) ∈ gw := gw_sel (q := (y_Mo_isClause, 45)) (List.mem_append_right _ (List.mem_append_right _ (List.mem_append_left _ (List.mem_of_getElem? (i := 1) (by decide +kernel))))) rfl
theorem gm_987 : (Cond.selects R_Mo y_Mo_isPattern y_Mo_isPattern : Cond) ∈ gw := gw_sel (q := (y_Mo_isPattern, 45)) (List.mem_append_right _ (List.mem_append_right _ (List.mem_append_left _ (List.mem_of_getElem? (i := 2) (by decide +kernel))))) rfl
theorem gm_988 : (Cond.selects R_Mo y_Mo_push y_Mo_push : Cond) ∈ gw := gw_sel (q := (y_Mo_push, 45)) (List.mem_append_right _ (List.mem_append_right _ (List.mem_append_left _ (List.mem_of_getElem? (i := 3) (by decide +kernel))))) rfl
theorem gm_989 : (Cond.selects R_Mo y_Mo_pushBelow y_Mo_pushBelow : Cond) ∈ gw := gw_sel (q := (y_Mo_pushBelow, 45)) (List.mem_append_right _ (List.mem_append_right _ (List.mem_append_left _ (List.mem_of_getElem? (i := 4) (by decide +kernel))))) rfl
theorem gm_990 : (Cond.selects R_Mo y_Mo_places y_Mo_places : Cond) ∈ gw := gw_sel (q := (y_Mo_places, 45)) (List.mem_append_right _ (List.mem_append_right _ (List.mem_append_left _ (List.mem_of_getElem? (i := 5) (by decide +kernel))))) rfl
theorem gm_991 : (Cond.selects R_Mo y_Mo_isBody y_Mo_isBody : Cond) ∈ gw := gw_sel (q := (y_Mo_isBody, 45)) (List.mem_append_right _ (List.mem_append_right _ (List.mem_append_left _ (List.mem_of_getElem? (i := 6) (by decide +kernel))))) rfl
theorem gm_992 : (Cond.selects R_Mo y_Mo_allInhabited y_Mo_allInhabited : Cond) ∈ gw := gw_sel (q := (y_Mo_allInhabited, 45)) (List.mem_append_right _ (List.mem_append_right _ (List.mem_append_left _ (List.mem_of_getElem? (i := 7) (by decide +kernel))))) rfl
theorem gm_993 : (Cond.selects R_Mo y_Mo_allTyped y_Mo_allTyped : Cond) ∈ gw := gw_sel (q := (y_Mo_allTyped, 45)) (List.mem_append_right _ (List.mem_append_right _ (List.mem_append_left _ (List.mem_of_getElem? (i := 8) (by decide +kernel))))) rfl
theorem gm_994 : (Cond.selects R_Mo y_Mo_isTyped y_Mo_isTyped : Cond) ∈ gw := gw_sel (q := (y_Mo_isTyped, 45)) (List.mem_append_right _ (List.mem_append_right _ (List.mem_append_left _ (List.mem_of_getElem? (i := 9) (by decide +kernel))))) rfl
theorem gm_995 : (Cond.selects R_Mo y_Mo_isCovered y_Mo_isCovered : Cond) ∈ gw := gw_sel (q := (y_Mo_isCovered, 45)) (List.mem_append_right _ (List.mem_append_right _ (List.mem_append_left _ (List.mem_of_getElem? (i := 10) (by decide +kernel))))) rfl
theorem gm_996 : (Cond.selects R_Mo y_Mo_stands y_Mo_stands : Cond) ∈ gw := gw_sel (q := (y_Mo_stands, 45)) (List.mem_append_right _ (List.mem_append_right _ (List.mem_append_left _ (List.mem_of_getElem? (i := 11) (by decide +kernel))))) rfl
theorem gm_997 : (Cond.selects R_Mo y_Mo_wants y_Mo_wants : Cond) ∈ gw := gw_sel (q := (y_Mo_wants, 45)) (List.mem_append_right _ (List.mem_append_right _ (List.mem_append_left _ (List.mem_of_getElem? (i := 12) (by decide +kernel))))) rfl
theorem gm_998 : (Cond.selects R_Mo y_Mo_splitAt y_Mo_splitAt : Cond) ∈ gw := gw_sel (q := (y_Mo_splitAt, 45)) (List.mem_append_right _ (List.mem_append_right _ (List.mem_append_left _ (List.mem_of_getElem? (i := 13) (by decide +kernel))))) rfl
theorem gm_999 : (Cond.selects R_Mo y_Mo_typeAt y_Mo_typeAt : Cond) ∈ gw := gw_sel (q := (y_Mo_typeAt, 45)) (List.mem_append_right _ (List.mem_append_right _ (List.mem_append_left _ (List.mem_of_getElem? (i := 14) (by decide +kernel))))) rfl
theorem gm_1000 : (Cond.selects R_Mo y_Mo_isEnding y_Mo_isEnding : Cond) ∈ gw := gw_sel (q := (y_Mo_isEnding, 45)) (List.mem_append_right _ (List.mem_append_right _ (List.mem_append_left _ (List.mem_of_getElem? (i := 15) (by decide +kernel))))) rfl
theorem gm_1001 : (Cond.selects R_Mo y_Mo_callGraphs y_Mo_callGraphs : Cond) ∈ gw := gw_sel (q := (y_Mo_callGraphs, 45)) (List.mem_append_right _ (List.mem_append_right _ (List.mem_append_right _ (List.mem_of_getElem? (i := 0) (by decide +kernel))))) rfl
theorem gm_1002 : (Cond.selects R_Mo y_Mo_callOf y_Mo_callOf : Cond) ∈ gw := gw_sel (q := (y_Mo_callOf, 45)) (List.mem_append_right _ (List.mem_append_right _ (List.mem_append_right _ (List.mem_of_getElem? (i := 1) (by decide +kernel))))) rfl
theorem gm_1003 : (Cond.selects R_Mo y_Mo_arcOf y_Mo_arcOf : Cond) ∈ gw := gw_sel (q := (y_Mo_arcOf, 45)) (List.mem_append_right _ (List.mem_append_right _ (List.mem_append_right _ (List.mem_of_getElem? (i := 2) (by decide +kernel))))) rfl
theorem gm_1004 : (Cond.selects R_Mo y_Mo_inside y_Mo_inside : Cond) ∈ gw := gw_sel (q := (y_Mo_inside, 45)) (List.mem_append_right _ (List.mem_append_right _ (List.mem_append_right _ (List.mem_of_getElem? (i := 3) (by decide +kernel))))) rfl
theorem gm_1005 : (Cond.selects R_Mo y_Mo_alike y_Mo_alike : Cond) ∈ gw := gw_sel (q := (y_Mo_alike, 45)) (List.mem_append_right _ (List.mem_append_right _ (List.mem_append_right _ (List.mem_of_getElem? (i := 4) (by decide +kernel))))) rfl
theorem gm_1006 : (Cond.selects R_Mo y_Mo_addGraph y_Mo_addGraph : Cond) ∈ gw := gw_sel (q := (y_Mo_addGraph, 45)) (List.mem_append_right _ (List.mem_append_right _ (List.mem_append_right _ (List.mem_of_getElem? (i := 5) (by decide +kernel))))) rfl
theorem gm_1007 : (Cond.selects R_Mo y_Mo_isClosed y_Mo_isClosed : Cond) ∈ gw := gw_sel (q := (y_Mo_isClosed, 45)) (List.mem_append_right _ (List.mem_append_right _ (List.mem_append_right _ (List.mem_of_getElem? (i := 6) (by decide +kernel))))) rfl
theorem gm_1008 : (Cond.selects R_Mo y_Mo_give y_Mo_give : Cond) ∈ gw := gw_sel (q := (y_Mo_give, 45)) (List.mem_append_right _ (List.mem_append_right _ (List.mem_append_right _ (List.mem_of_getElem? (i := 7) (by decide +kernel))))) rfl
theorem gm_1009 : (Cond.selects R_Mo y_Mo_doLater y_Mo_doLater : Cond) ∈ gw := gw_sel (q := (y_Mo_doLater, 45)) (List.mem_append_right _ (List.mem_append_right _ (List.mem_append_right _ (List.mem_of_getElem? (i := 8) (by decide +kernel))))) rfl
theorem gm_1010 : (Cond.selects R_Mo y_Mo_evaluate y_Mo_evaluate : Cond) ∈ gw := gw_sel (q := (y_Mo_evaluate, 45)) (List.mem_append_right _ (List.mem_append_right _ (List.mem_append_right _ (List.mem_of_getElem? (i := 9) (by decide +kernel))))) rfl
theorem gm_1011 : (Cond.selects R_Mo y_Mo_hold y_Mo_hold : Cond) ∈ gw := gw_sel (q := (y_Mo_hold, 45)) (List.mem_append_right _ (List.mem_append_right _ (List.mem_append_right _ (List.mem_of_getElem? (i := 10) (by decide +kernel))))) rfl
theorem gm_1012 : (Cond.selects R_Mo y_Mo_finished y_Mo_finished : Cond) ∈ gw := gw_sel (q := (y_Mo_finished, 45)) (List.mem_append_right _ (List.mem_append_right _ (List.mem_append_right _ (List.mem_of_getElem? (i := 11) (by decide +kernel))))) rfl
theorem gm_1013 : (Cond.selects R_Mo y_Mo_enter y_Mo_enter : Cond) ∈ gw := gw_sel (q := (y_Mo_enter, 45)) (List.mem_append_right _ (List.mem_append_right _ (List.mem_append_right _ (List.mem_of_getElem? (i := 12) (by decide +kernel))))) rfl
theorem gm_1014 : (Cond.selects R_Mo y_Mo_matches y_Mo_matches : Cond) ∈ gw := gw_sel (q := (y_Mo_matches, 45)) (List.mem_append_right _ (List.mem_append_right _ (List.mem_append_right _ (List.mem_of_getElem? (i := 13) (by decide +kernel))))) rfl
theorem gm_1015 : (Cond.selects R_Mo y_Mo_write y_Mo_write : Cond) ∈ gw := gw_sel (q := (y_Mo_write, 45)) (List.mem_append_right _ (List.mem_append_right _ (List.mem_append_right _ (List.mem_of_getElem? (i := 14) (by decide +kernel))))) rfl
theorem uk_Fu : ∀ k, k < 10 → u_lay R_Fu T_Fu k ∈ gw
  | 0, _ => gm_208
  | 1, _ => gm_209
  | 2, _ => gm_210
  | 3, _ => gm_211
  | 4, _ => gm_212
  | 5, _ => gm_213
  | 6, _ => gm_214
  | 7, _ => gm_215
  | 8, _ => gm_216
  | 9, _ => gm_217
  | k + 10, h => absurd h (by omega)
theorem uw_Fu : ∀ w ∈ u_ws R_Fu T_Fu 10, w ∈ gw := fun w h => (List.mem_map.mp h).elim fun k hk => hk.2 ▸ uk_Fu k (List.mem_range.mp hk.1)
theorem uk_Sg : ∀ k, k < 5 → u_lay R_Sg T_Sg k ∈ gw
  | 0, _ => gm_31
  | 1, _ => gm_32
  | 2, _ => gm_33
  | 3, _ => gm_34
  | 4, _ => gm_35
  | k + 5, h => absurd h (by omega)
theorem uw_Sg : ∀ w ∈ u_ws R_Sg T_Sg 5, w ∈ gw := fun w h => (List.mem_map.mp h).elim fun k hk => hk.2 ▸ uk_Sg k (List.mem_range.mp hk.1)
theorem uk_Te : ∀ k, k < 10 → u_lay R_Te T_Te k ∈ gw
  | 0, _ => gm_53
  | 1, _ => gm_54
  | 2, _ => gm_55
  | 3, _ => gm_56
  | 4, _ => gm_57
  | 5, _ => gm_58
  | 6, _ => gm_59
  | 7, _ => gm_60
  | 8, _ => gm_61
  | 9, _ => gm_62
  | k + 10, h => absurd h (by omega)
theorem uw_Te : ∀ w ∈ u_ws R_Te T_Te 10, w ∈ gw := fun w h => (List.mem_map.mp h).elim fun k hk => hk.2 ▸ uk_Te k (List.mem_range.mp hk.1)
theorem uk_Cl : ∀ k, k < 8 → u_lay R_Cl T_Cl k ∈ gw
  | 0, _ => gm_78
  | 1, _ => gm_79
  | 2, _ => gm_80
  | 3, _ => gm_81
  | 4, _ => gm_82
  | 5, _ => gm_83
  | 6, _ => gm_84
  | 7, _ => gm_85
  | k + 8, h => absurd h (by omega)
theorem uw_Cl : ∀ w ∈ u_ws R_Cl T_Cl 8, w ∈ gw := fun w h => (List.mem_map.mp h).elim fun k hk => hk.2 ▸ uk_Cl k (List.mem_range.mp hk.1)
theorem uk_Ty : ∀ k, k < 5 → u_lay R_Ty T_Ty k ∈ gw
  | 0, _ => gm_97
  | 1, _ => gm_98
  | 2, _ => gm_99
  | 3, _ => gm_100
  | 4, _ => gm_101
  | k + 5, h => absurd h (by omega)
theorem uw_Ty : ∀ w ∈ u_ws R_Ty T_Ty 5, w ∈ gw := fun w h => (List.mem_map.mp h).elim fun k hk => hk.2 ▸ uk_Ty k (List.mem_range.mp hk.1)
theorem uk_Co : ∀ k, k < 6 → u_lay R_Co T_Co k ∈ gw
  | 0, _ => gm_114
  | 1, _ => gm_115
  | 2, _ => gm_116
  | 3, _ => gm_117
  | 4, _ => gm_118
  | 5, _ => gm_119
  | k + 6, h => absurd h (by omega)
theorem uw_Co : ∀ w ∈ u_ws R_Co T_Co 6, w ∈ gw := fun w h => (List.mem_map.mp h).elim fun k hk => hk.2 ▸ uk_Co k (List.mem_range.mp hk.1)
theorem uk_En : ∀ k, k < 9 → u_lay R_En T_En k ∈ gw
  | 0, _ => gm_135
  | 1, _ => gm_136
  | 2, _ => gm_137
  | 3, _ => gm_138
  | 4, _ => gm_139
  | 5, _ => gm_140
  | 6, _ => gm_141
  | 7, _ => gm_142
  | 8, _ => gm_143
  | k + 9, h => absurd h (by omega)
theorem uw_En : ∀ w ∈ u_ws R_En T_En 9, w ∈ gw := fun w h => (List.mem_map.mp h).elim fun k hk => hk.2 ▸ uk_En k (List.mem_range.mp hk.1)
theorem uk_Va : ∀ k, k < 6 → u_lay R_Va T_Va k ∈ gw
  | 0, _ => gm_162
  | 1, _ => gm_163
  | 2, _ => gm_164
  | 3, _ => gm_165
  | 4, _ => gm_166
  | 5, _ => gm_167
  | k + 6, h => absurd h (by omega)
theorem uw_Va : ∀ w ∈ u_ws R_Va T_Va 6, w ∈ gw := fun w h => (List.mem_map.mp h).elim fun k hk => hk.2 ▸ uk_Va k (List.mem_range.mp hk.1)
theorem uk_Ma : ∀ k, k < 15 → u_lay R_Ma T_Ma k ∈ gw
  | 0, _ => gm_183
  | 1, _ => gm_184
  | 2, _ => gm_185
  | 3, _ => gm_186
  | 4, _ => gm_187
  | 5, _ => gm_188
  | 6, _ => gm_189
  | 7, _ => gm_190
  | 8, _ => gm_191
  | 9, _ => gm_192
  | 10, _ => gm_193
  | 11, _ => gm_194
  | 12, _ => gm_195
  | 13, _ => gm_196
  | 14, _ => gm_197
  | k + 15, h => absurd h (by omega)
theorem uw_Ma : ∀ w ∈ u_ws R_Ma T_Ma 15, w ∈ gw := fun w h => (List.mem_map.mp h).elim fun k hk => hk.2 ▸ uk_Ma k (List.mem_range.mp hk.1)
theorem uk_Mo : ∀ k, k < 45 → u_lay R_Mo T_Mo k ∈ gw
  | 0, _ => gm_740
  | 1, _ => gm_741
  | 2, _ => gm_742
  | 3, _ => gm_743
  | 4, _ => gm_744
  | 5, _ => gm_745
  | 6, _ => gm_746
  | 7, _ => gm_747
  | 8, _ => gm_748
  | 9, _ => gm_749
  | 10, _ => gm_750
  | 11, _ => gm_751
  | 12, _ => gm_752
  | 13, _ => gm_753
  | 14, _ => gm_754
  | 15, _ => gm_755
  | 16, _ => gm_756
  | 17, _ => gm_757
  | 18, _ => gm_758
  | 19, _ => gm_759
  | 20, _ => gm_760
  | 21, _ => gm_761
  | 22, _ => gm_762
  | 23, _ => gm_763
  | 24, _ => gm_764
  | 25, _ => gm_765
  | 26, _ => gm_766
  | 27, _ => gm_767
  | 28, _ => gm_768
  | 29, _ => gm_769
  | 30, _ => gm_770
  | 31, _ => gm_771
  | 32, _ => gm_772
  | 33, _ => gm_773
  | 34, _ => gm_774
  | 35, _ => gm_775
  | 36, _ => gm_776
  | 37, _ => gm_777
  | 38, _ => gm_778
  | 39, _ => gm_779
  | 40, _ => gm_780
  | 41, _ => gm_781
  | 42, _ => gm_782
  | 43, _ => gm_783
  | 44, _ => gm_784
  | k + 45, h => absurd h (by omega)
theorem uw_Mo : ∀ w ∈ u_ws R_Mo T_Mo 45, w ∈ gw := fun w h => (List.mem_map.mp h).elim fun k hk => hk.2 ▸ uk_Mo k (List.mem_range.mp hk.1)
end
section
/-! what the tables and the statics hold that a throw needs, carried from state to state -/
section XST
def x_S (n d : String) (A : Nat → Prop) (U : State) (H : Heap) : Prop := ∃ (c : ClassId) (k : Class) (i : Nat) (f : Field) (a : Nat) (cell : Cell) (v : Value), U.vm.findClass Bundle.tN = some c ∧ U.fieldFound? Bundle.tN n d = some (c, k, i, f) ∧ f.isStatic = true ∧ k.statics = some a ∧ H[a]? = some cell ∧ cell.vm.isStatics = true ∧ cell.cls = c ∧ f.slot < cell.slots.size ∧ k.staticTypes[f.slot]? = some f.type ∧ cell.slots[f.slot]? = some v ∧ v.isRef = true ∧ ¬ A a
theorem x_S.moved {n d : String} {A : Nat → Prop} {u U : State} {H : Heap} (hvm : u.vm.Alike U.vm) (h : x_S n d A u H) : x_S n d A U H := by
  obtain ⟨c, k, i, f, a, cell, v, h0, h1, h2, h3, h4, h5, h6, h7, h8, h9⟩ := h
  obtain ⟨k', hi', he⟩ := State.fieldFound?_setVm hvm h1
  exact ⟨c, k', i, f, a, cell, v, by rw [hvm.findClass]; exact h0, hi', h2, by rw [he]; exact h3, h4, h5, h6, h7, by rw [he]; exact h8, h9⟩
theorem x_S.kept {n d : String} {A : Nat → Prop} {U : State} {H H1 : Heap} (h : x_S n d A U H) (hq : ∀ a : Nat, a < H.size → ¬ A a → H1[a]? = H[a]?) : x_S n d A U H1 := by
  obtain ⟨c, k, i, f, a, cell, v, h0, h1, h2, h3, h4, h5, h6, h7, h8, h9, h10, h11⟩ := h
  exact ⟨c, k, i, f, a, cell, v, h0, h1, h2, h3, by rw [hq a (Array.getElem?_eq_some_iff.mp h4).1 h11]; exact h4, h5, h6, h7, h8, h9, h10, h11⟩
theorem x_S.narrow {n d : String} {A B : Nat → Prop} {U : State} {H : Heap} (h : x_S n d A U H) (hAB : ∀ q, B q → A q) : x_S n d B U H := by
  obtain ⟨c, k, i, f, a, cell, v, h0, h1, h2, h3, h4, h5, h6, h7, h8, h9, h10, h11⟩ := h
  exact ⟨c, k, i, f, a, cell, v, h0, h1, h2, h3, h4, h5, h6, h7, h8, h9, h10, fun z => h11 (hAB a z)⟩
theorem x_S.lays {n d : String} {A : Nat → Prop} {U : State} {args : Array Value} (h : x_S n d A U U.heap) : (Cond.laysStatic Bundle.tN n d).before args U = true := by
  obtain ⟨c, k, i, f, a, cell, v, h0, h1, h2, h3, h4, h5, h6, h7, h8, h9, h10, h11⟩ := h
  simp [Cond.before, Cond.holds, Cond.value, h0, h1, h2, h3, h4, h5, h6, h7, h8]
theorem x_S.isRef {n d : String} {A : Nat → Prop} {U : State} {args : Array Value} (h : x_S n d A U U.heap) : (Cond.isRef (.static Bundle.tN n d)).before args U = true := by
  obtain ⟨c, k, i, f, a, cell, v, h0, h1, h2, h3, h4, h5, h6, h7, h8, h9, h10, h11⟩ := h
  have e : (Term.static Bundle.tN n d).eval args U none [] U = some v := by
    simp [Term.eval, State.fieldNamed?, h1, h2, h3, h4, h5, h9]
  cases v <;> simp [Value.isRef] at h10 <;> simp [Cond.before, Cond.holds, Cond.value, e]
def x_Z (A : Nat → Prop) (U : State) (H : Heap) : Prop := x_S "UNASSIGNED_STACK" Bundle.steD A U H ∧ x_S "SUPPRESSED_SENTINEL" Bundle.listD A U H
theorem x_Z.moved {A : Nat → Prop} {u U : State} {H : Heap} (hvm : u.vm.Alike U.vm) (h : x_Z A u H) : x_Z A U H := ⟨h.1.moved hvm, h.2.moved hvm⟩
theorem x_Z.kept {A : Nat → Prop} {U : State} {H H1 : Heap} (h : x_Z A U H) (hq : ∀ a : Nat, a < H.size → ¬ A a → H1[a]? = H[a]?) : x_Z A U H1 := ⟨h.1.kept hq, h.2.kept hq⟩
theorem x_Z.narrow {A B : Nat → Prop} {U : State} {H : Heap} (h : x_Z A U H) (hAB : ∀ q, B q → A q) : x_Z B U H := ⟨h.1.narrow hAB, h.2.narrow hAB⟩
/-- no cell that may be written is one of statics -/
def x_no (A : Nat → Prop) (s : State) : Prop := ∀ q, A q → ∀ cell, s.heap[q]? = some cell → cell.vm.isStatics = false
theorem x_no_of {D : va_G} {cl : List vw_C} {ws : va_W} {s : State} (h : va_P D cl ws s.heap) : x_no (va_A ws s.heap.size) s := by
  intro q hq cell hc
  rcases hq with ⟨k, e, hk⟩ | hq
  · have h1 := h k (q, e) hk
    rcases e with ⟨cA, n, a⟩ | o
    · have h2 : s.heap[q]? = some (vp_cell cA (n, a)) := h1
      rw [hc] at h2
      cases h2
      rcases a with f | f | f | f | f <;> rfl
    · obtain ⟨r, -, cell', h2, -, h3, -⟩ := h1
      have h4 : s.heap[q]? = some cell' := h2
      rw [hc] at h4
      cases h4
      rw [h3]
      rfl
  · have := (Array.getElem?_eq_some_iff.mp hc).1
    omega
def x_E1 : String := "java/lang/IllegalArgumentException"
def x_E2 : String := "java/lang/IllegalStateException"
def x_E3 : String := "java/lang/IndexOutOfBoundsException"
def x_cast : List String := [x_E1, x_E2, x_E3]
def x_decl : List MethodName := [Bundle.initS "java/lang/RuntimeException", Bundle.initS "java/lang/Exception", Bundle.initS Bundle.tN]
def x_nc : List (String × String) := [(x_E1, x_E2), (x_E2, x_E1)]
def x_str : List (Nat × String) := [(79, "no such type"), (90, "there are eight constructors"), (97, "there are six functions"), (99, "no such variable"), (102, "there are 100 terms"), (118, "no such constructor or part, or too high or great"), (124, "no such function or argument, or too high or great"), (133, "no such function or term, or no clause"), (137, "there are six clauses of the function, or 24 in all"), (150, "no such clause"), (156, "no such call"), (162, "no such argument"), (181, "the program is not checked, or wrong"), (186, "no such function, or an argument is no value of its type"), (196, "no such constructor of an answer")]
def x_N (U : State) : Prop := (∀ c ∈ x_cast, va_Nw (.castable c c) U) ∧ (∀ y ∈ x_decl, va_Nw (.declares y) U) ∧ (∀ q ∈ x_nc, va_Nc q.1 q.2 U) ∧ ∀ q ∈ x_str, ∃ a, vk_R R_Fu q.1 q.2 a U
theorem x_N.moved {s U : State} (hW : s.WarmedH U.vm) (h : x_N s) : x_N U :=
  ⟨fun c hc => va_Nw.warmC hW (h.1 c hc), fun y hy => va_Nw.warmD hW (h.2.1 y hy), fun q hq => (h.2.2.1 q hq).moved hW.alike, fun q hq => by
    obtain ⟨a, ha⟩ := h.2.2.2 q hq
    exact ⟨a, vk_R.warm hW ha⟩⟩
theorem x_N.same {u U : State} (hv : U.vm = u.vm) (h : x_N u) : x_N U :=
  ⟨fun c hc => va_Nw.same rfl hv.symm (h.1 c hc), fun y hy => va_Nw.same rfl hv.symm (h.2.1 y hy), fun q hq => (h.2.2.1 q hq).moved (by rw [hv]; exact Vm.Alike.refl _), fun q hq => by
    obtain ⟨a, ha⟩ := h.2.2.2 q hq
    exact ⟨a, vk_R.same hv ha⟩⟩
end XST
end
section
/-! The judgement Ev: a method's walk over abstract cells. A cell has a number; memory is a function of cell and place; numbers are Ints. -/
section GEN
abbrev g_v : Type := Int ⊕ (Nat ⊕ (Int ⊕ Nat))
abbrev g_i (z : Int) : g_v := .inl z
abbrev g_r (k : Nat) : g_v := .inr (.inl k)
abbrev g_j (z : Int) : g_v := .inr (.inr (.inl z))
abbrev g_o (a : Nat) : g_v := .inr (.inr (.inr a))
abbrev g_M : Type := Nat → Nat → Int
abbrev g_F : Type := Option (Option Nat)
abbrev g_C : Type := (Nat × Nat) ⊕ (Nat × List g_F)
abbrev g_L : Type := List g_C
abbrev g_cs : Type := ClassId × ClassId × ClassId
abbrev g_Ls : Type := List (Option g_v)
def g_rg (z : Int) : Prop := -2147483648 ≤ z ∧ z ≤ 2147483647
/-- what 32 bits keep of a number -/
def g_w (z : Int) : Int := (Int32.ofInt z).toInt
def g_b (f : Int32 → Int32 → Int32) (x y : Int) : Int := (f (Int32.ofInt x) (Int32.ofInt y)).toInt
def g_up (M : g_M) (k i : Nat) (z : Int) : g_M := fun a b => if a = k ∧ b = i then z else M a b
def g_val (ad : Nat → Nat) (v : g_v) : Value := match v with
  | .inl z => .int (Int32.ofInt z)
  | .inr (.inl k) => .ref (ad k)
  | .inr (.inr (.inl z)) => .long (Int64.ofInt z)
  | .inr (.inr (.inr a)) => .ref a
def g_fld (ad : Nat → Nat) (f : Nat → Int) (i : Nat) (x : g_F) : Value := match x with
  | none => .int (Int32.ofInt (f i))
  | some none => .null
  | some (some k) => .ref (ad k)
def g_arr (cs : g_cs) (t n : Nat) (f : Nat → Int) : va_E := match t with
  | 0 => .inl (cs.1, n, .inl (fun j => Int32.ofInt (f j)))
  | 1 => .inl (cs.2.1, n, .inl (fun j => Int32.ofInt (f j)))
  | _ => .inl (cs.2.2, n, .inr (.inl (fun j => Int64.ofInt (f j))))
def g_ent (cs : g_cs) (ad : Nat → Nat) (M : g_M) (k : Nat) (c : g_C) : Nat × va_E := match c with
  | .inl (t, n) => (ad k, g_arr cs t n (M k))
  | .inr (ci, fs) => (ad k, .inr (ci, fs.mapIdx (g_fld ad (M k))))
def g_W (cs : g_cs) (ad : Nat → Nat) (L : g_L) (M : g_M) : va_W := L.mapIdx (g_ent cs ad M)
def g_tys (cs : g_cs) : List (ClassId × FieldType) := [(cs.1, .int), (cs.2.1, .boolean), (cs.2.2, .long)]
def g_ok (n : Nat) (v : g_v) : Prop := match v with
  | .inl z => g_rg z
  | .inr (.inl k) => k < n
  | .inr (.inr (.inl z)) => g_rg z
  | .inr (.inr (.inr _)) => True
def g_okl (n : Nat) (v : g_v) : Prop := match v with
  | .inl z => g_rg z
  | .inr (.inl k) => k < n
  | .inr (.inr (.inl _)) => False
  | .inr (.inr (.inr _)) => True
def g_wf (L : g_L) : Prop := ∀ (k ci : Nat) (fs : List g_F) (i j : Nat), L[k]? = some (.inr (ci, fs)) → fs[i]? = some (some (some j)) → j < L.length
def g_H (D : va_G) (cs : g_cs) (A : Nat → Prop) (H0 : Heap) (ad : Nat → Nat) (L : g_L) (M : g_M) (H : Heap) (locs : List Loc) : Prop :=
  va_P D vwCl (g_W cs ad L M) H ∧ va_D A (g_W cs ad L M) ∧ va_S A H0 H locs ∧ (∀ k j, g_rg (M k j)) ∧ g_wf L
def g_V (ad : Nat → Nat) (n nL : Nat) (lsA : Array Slot) (ls : g_Ls) (st : List g_v) : Prop :=
  (lsA.size = nL ∧ lv_wf lsA ∧ ∀ (i : Nat) (v : g_v), ls[i]? = some (some v) → lsA[i]? = some (.val (g_val ad v))) ∧ (∀ (i : Nat) (v : g_v), ls[i]? = some (some v) → g_okl n v) ∧ ∀ v ∈ st, g_ok n v
/-- the tables, as a state has them: classes, arrays, and the links between nest mates -/
def g_K (D : va_G) (cs : g_cs) (U : State) : Prop := va_K D vwCl (g_tys cs) U ∧ (∀ q ∈ g_nest, va_Nw (.methodLinkNest q.1 q.2.1 q.2.2.1 q.2.2.2) U) ∧ x_N U
theorem g_K.moved {D : va_G} {cs : g_cs} {s U : State} (hW : s.WarmedH U.vm) (h : g_K D cs s) : g_K D cs U := ⟨va_K.moved hW.alike h.1, fun q hq => va_Nw.warmM hW (h.2.1 q hq), x_N.moved hW h.2.2⟩
abbrev g_Me : Type := String × ByteArray × Nat × Option FieldType × (Launch → State → Code → (Nat → Prop) → Prop) × String
def g_Cx (Me : g_Me) (p : Program) (l : Launch) (s : State) (m : MethodId) (args : Array Value) (meth : Method) (c : Code) (D : va_G) (cs : g_cs) (A : Nat → Prop) : Prop :=
  CallFix p m c Me.2.1 Me.2.2.1 s args gw Me.1 ∧ meth.sig.returnType = Me.2.2.2.1 ∧ meth.locks = false ∧ g_K D cs s ∧ (∀ q, s.heap.size ≤ q → A q) ∧ (x_Z A s s.heap ∧ x_no A s ∧ Me.2.2.2.2.1 l s c A) ∧ meth.name = Me.2.2.2.2.2
abbrev g_Fin : Type := Nat → g_Ls → List g_v → g_L → g_M → Nat → Nat → Prop
/-- from here the method comes to a place of Fi -/
def Ev (Me : g_Me) (R : Room) (Fi : g_Fin) (pc : Nat) (ls : g_Ls) (st : List g_v) (L : g_L) (M : g_M) (nc ns : Nat) : Prop :=
  ∀ (p : Program) (l : Launch) (e : Env) (s : State) (m : MethodId) (args : Array Value) (below : List Frame) (meth : Method) (c : Code) (Q : State → Prop) (D : va_G) (cs : g_cs) (A : Nat → Prop), g_Cx Me p l s m args meth c D cs A →
  ∀ (ad : Nat → Nat) (H : Heap) (locs : List Loc) (lsA : Array Slot), g_H D cs A s.heap ad L M H locs → g_V ad L.length Me.2.2.1 lsA ls st →
  (∀ (pc' : Nat) (ls' : g_Ls) (st' : List g_v) (L' : g_L) (M' : g_M) (nc' ns' : Nat) (ad' : Nat → Nat) (H' : Heap) (locs' : List Loc) (lsA' : Array Slot), Fi pc' ls' st' L' M' nc' ns' → (∀ k, k < L.length → ad' k = ad k) → L.length ≤ L'.length → g_H D cs A s.heap ad' L' M' H' locs' → g_V ad' L'.length Me.2.2.1 lsA' ls' st' → W p l e R s m args below meth c H' locs' nc' ns' Q (F0 m pc' lsA' (st'.map (g_val ad')))) →
  W p l e R s m args below meth c H locs nc ns Q (F0 m pc lsA (st.map (g_val ad)))
/-! numbers -/
theorem g_rg_toInt (x : Int32) : g_rg x.toInt := ⟨x.le_toInt, by have := x.toInt_lt; omega⟩
theorem g_w_rg (z : Int) : g_rg (g_w z) := g_rg_toInt _
theorem g_b_rg (f : Int32 → Int32 → Int32) (x y : Int) : g_rg (g_b f x y) := g_rg_toInt _
theorem g_t {z : Int} (h : g_rg z) : (Int32.ofInt z).toInt = z := Int32.toInt_ofInt_of_le h.1 (by have := h.2; omega)
theorem g_w_id {z : Int} (h : g_rg z) : g_w z = z := g_t h
theorem g_ofw (z : Int) : Int32.ofInt (g_w z) = Int32.ofInt z := Int32.ofInt_toInt _
theorem g_ofb (f : Int32 → Int32 → Int32) (x y : Int) : Int32.ofInt (g_b f x y) = f (Int32.ofInt x) (Int32.ofInt y) := Int32.ofInt_toInt _
theorem g_eqI {x y : Int} (hx : g_rg x) (hy : g_rg y) : Int32.ofInt x = Int32.ofInt y ↔ x = y := by
  rw [← Int32.toInt_inj, g_t hx, g_t hy]
theorem g_ltI {x y : Int} (hx : g_rg x) (hy : g_rg y) : Int32.ofInt x < Int32.ofInt y ↔ x < y := by
  rw [Int32.lt_iff_toInt_lt, g_t hx, g_t hy]
theorem g_leI {x y : Int} (hx : g_rg x) (hy : g_rg y) : Int32.ofInt x ≤ Int32.ofInt y ↔ x ≤ y := by
  rw [Int32.le_iff_toInt_le, g_t hx, g_t hy]
theorem g_rg0 : g_rg 0 := by unfold g_rg; omega
theorem g_cl {z : Int} (h : g_rg z) (h0 : 0 ≤ z) : (Int32.ofInt z).toNatClampNeg = z.toNat := Int32.toNatClampNeg_ofInt_of_le h.1 (by have := h.2; omega)
theorem g_in {z : Int} {n : Nat} (h : g_rg z) (h0 : 0 ≤ z) (hn : z < n) : vp_in (Int32.ofInt z) n := by
  unfold vp_in
  rw [g_cl h h0]
  have e : Int32.ofInt z < 0 ↔ z < 0 := by
    have := g_ltI h g_rg0
    simpa using this
  rw [e]
  omega
theorem g_up_rg {M : g_M} {k i : Nat} {z : Int} (h : ∀ k j, g_rg (M k j)) (hz : g_rg z) : ∀ a b, g_rg (g_up M k i z a b) := by
  intro a b
  unfold g_up
  split
  · exact hz
  · exact h a b
theorem g_upN {M : g_M} {k i : Nat} {z : Int} {a : Nat} (h : a ≠ k) : g_up M k i z a = M a := by
  funext b
  simp [g_up, h]
theorem g_W_at {cs : g_cs} {ad : Nat → Nat} {L : g_L} {M : g_M} {k : Nat} {c : g_C} (h : L[k]? = some c) : (g_W cs ad L M)[k]? = some (g_ent cs ad M k c) := by
  simp [g_W, List.getElem?_mapIdx, h]
theorem g_ent_1 (cs : g_cs) (ad : Nat → Nat) (M : g_M) (k : Nat) (c : g_C) : (g_ent cs ad M k c).1 = ad k := by
  unfold g_ent
  split <;> rfl
theorem g_ent_N {cs : g_cs} {ad : Nat → Nat} {M N : g_M} {k : Nat} {c : g_C} (h : N k = M k) : g_ent cs ad N k c = g_ent cs ad M k c := by
  unfold g_ent
  rw [h]
theorem g_W_set {cs : g_cs} {ad : Nat → Nat} {L : g_L} {M N : g_M} {k : Nat} {c : g_C} (h : L[k]? = some c) (hN : ∀ a, a ≠ k → N a = M a) : (g_W cs ad L M).set k (g_ent cs ad N k c) = g_W cs ad L N := by
  apply List.ext_getElem?
  intro j
  by_cases hj : j = k
  · subst hj
    have hl : j < (g_W cs ad L M).length := by
      have := (List.getElem?_eq_some_iff.mp h).1
      simpa [g_W] using this
    rw [List.getElem?_set_self hl, g_W_at h]
  · rw [List.getElem?_set_ne (Ne.symm hj)]
    simp only [g_W, List.getElem?_mapIdx]
    cases hL : L[j]? with
    | none => rfl
    | some x => simp only [Option.map_some]; rw [g_ent_N (hN j hj)]
theorem g_okl_ok {n : Nat} {v : g_v} (h : g_okl n v) : g_ok n v := by
  rcases v with z | k | z | a
  · exact h
  · exact h
  · exact absurd h id
  · exact trivial
theorem g_ok_le {n n' : Nat} {v : g_v} (h : g_ok n v) (hn : n ≤ n') : g_ok n' v := by
  rcases v with z | k | z | a
  · exact h
  · exact Nat.lt_of_lt_of_le h hn
  · exact h
  · exact trivial
theorem g_okl_le {n n' : Nat} {v : g_v} (h : g_okl n v) (hn : n ≤ n') : g_okl n' v := by
  rcases v with z | k | z | a
  · exact h
  · exact Nat.lt_of_lt_of_le h hn
  · exact absurd h id
  · exact trivial
theorem g_val_ad {ad ad' : Nat → Nat} {n : Nat} {v : g_v} (h : g_ok n v) (ha : ∀ k, k < n → ad' k = ad k) : g_val ad' v = g_val ad v := by
  rcases v with z | k | z | a
  · rfl
  · show Value.ref (ad' k) = Value.ref (ad k)
    rw [ha k h]
  · rfl
  · rfl
theorem g_map_ad {ad ad' : Nat → Nat} {n : Nat} {st : List g_v} (h : ∀ v ∈ st, g_ok n v) (ha : ∀ k, k < n → ad' k = ad k) : st.map (g_val ad') = st.map (g_val ad) :=
  List.map_congr_left fun v hv => g_val_ad (h v hv) ha
theorem g_cat {ad : Nat → Nat} {n : Nat} {v : g_v} (h : g_okl n v) : (g_val ad v).category = 1 := by
  rcases v with z | k | z | a
  · rfl
  · rfl
  · exact absurd h id
  · rfl
/-- the known places as the kit lists them -/
def g_lst (ad : Nat → Nat) (ls : g_Ls) : List (Nat × Value) := (List.range ls.length).filterMap (fun j => match ls[j]? with
  | some (some w) => some (j, g_val ad w)
  | _ => none)
theorem g_lst_mem {ad : Nat → Nat} {ls : g_Ls} {i : Nat} {v : g_v} (h : ls[i]? = some (some v)) : (i, g_val ad v) ∈ g_lst ad ls :=
  List.mem_filterMap.mpr ⟨i, List.mem_range.mpr (List.getElem?_eq_some_iff.mp h).1, by simp [h]⟩
theorem g_has {ad : Nat → Nat} {n nL : Nat} {lsA : Array Slot} {ls : g_Ls} {st : List g_v} (h : g_V ad n nL lsA ls st) : lv_has lsA nL (g_lst ad ls) := by
  refine ⟨h.1.1, h.1.2.1, fun q hq => ?_⟩
  obtain ⟨j, -, hj⟩ := List.mem_filterMap.mp hq
  split at hj
  next w hw => cases hj; exact h.1.2.2 j w hw
  next => cases hj
theorem g_back {ad : Nat → Nat} {n nL : Nat} {lsA lsA' : Array Slot} {ls : g_Ls} {v : g_v} {st : List g_v} {i : Nat} (h : g_V ad n nL lsA ls (v :: st)) (hv : g_okl n v)
    (h' : lv_has lsA' nL ((i, g_val ad v) :: (g_lst ad ls).filter (fun q => !(q.1 == i) && !(q.1 + 1 == i && q.2.category == 2)))) : g_V ad n nL lsA' (ls.set i (some v)) st := by
  obtain ⟨e2, e3, e4⟩ := h'
  refine ⟨⟨e2, e3, fun j w hj => ?_⟩, fun j w hj => ?_, fun w hw => h.2.2 w (List.mem_cons_of_mem _ hw)⟩
  · by_cases hji : j = i
    · subst hji
      have hl : j < ls.length := by
        have := (List.getElem?_eq_some_iff.mp hj).1
        simpa using this
      rw [List.getElem?_set_self hl] at hj
      cases hj
      exact e4 _ List.mem_cons_self
    · rw [List.getElem?_set_ne (Ne.symm hji)] at hj
      refine e4 (j, g_val ad w) (List.mem_cons_of_mem _ (List.mem_filter.mpr ⟨g_lst_mem hj, ?_⟩))
      have := g_cat (ad := ad) (h.2.1 j w hj)
      simp [hji, this]
  · by_cases hji : j = i
    · subst hji
      have hl : j < ls.length := by
        have := (List.getElem?_eq_some_iff.mp hj).1
        simpa using this
      rw [List.getElem?_set_self hl] at hj
      cases hj
      exact hv
    · rw [List.getElem?_set_ne (Ne.symm hji)] at hj
      exact h.2.1 j w hj
/-- no long -/
def g_nj (v : g_v) : Bool := match v with
  | .inr (.inr (.inl _)) => false
  | _ => true
theorem g_nj_cat {ad : Nat → Nat} {v : g_v} (h : g_nj v = true) : (g_val ad v).category = 1 := by
  rcases v with z | k | z | a
  · rfl
  · rfl
  · cases h
  · rfl
theorem g_nj_okl {n : Nat} {v : g_v} (h : g_nj v = true) (hv : g_ok n v) : g_okl n v := by
  rcases v with z | k | z | a
  · exact hv
  · exact hv
  · cases h
  · exact trivial
theorem g_V_st {ad : Nat → Nat} {n nL : Nat} {lsA : Array Slot} {ls : g_Ls} {st st' : List g_v} (h : g_V ad n nL lsA ls st) (hs : ∀ v ∈ st', g_ok n v) : g_V ad n nL lsA ls st' := ⟨h.1, h.2.1, hs⟩
end GEN
end
section
section GEN2
variable {Me : g_Me} {R : Room} {Fi : g_Fin} {pc q : Nat} {ls : g_Ls} {st : List g_v} {L : g_L} {M : g_M} {nc ns : Nat}
theorem ev_done (h : Fi pc ls st L M nc ns) : Ev Me R Fi pc ls st L M nc ns := by
  intro p l e s m args below meth c Q D cs A C ad H locs lsA hH hV hF
  exact hF pc ls st L M nc ns ad H locs lsA h (fun _ _ => rfl) (Nat.le_refl _) hH hV
theorem ev_trans {Fi1 : g_Fin} (h : Ev Me R Fi1 pc ls st L M nc ns) (k : ∀ pc' ls' st' L' M' nc' ns', Fi1 pc' ls' st' L' M' nc' ns' → Ev Me R Fi pc' ls' st' L' M' nc' ns') : Ev Me R Fi pc ls st L M nc ns := by
  intro p l e s m args below meth c Q D cs A C ad H locs lsA hH hV hF
  refine h p l e s m args below meth c Q D cs A C ad H locs lsA hH hV ?_
  intro pc' ls' st' L' M' nc' ns' ad' H' locs' lsA' h1 h2 h3 h4 h5
  refine k pc' ls' st' L' M' nc' ns' h1 p l e s m args below meth c Q D cs A C ad' H' locs' lsA' h4 h5 ?_
  intro pc2 ls2 st2 L2 M2 nc2 ns2 ad2 H2 locs2 lsA2 g1 g2 g3 g4 g5
  exact hF pc2 ls2 st2 L2 M2 nc2 ns2 ad2 H2 locs2 lsA2 g1 (fun k hk => (g2 k (Nat.lt_of_lt_of_le hk h3)).trans (h2 k hk)) (Nat.le_trans h3 g3) g4 g5
/-- fewer known places -/
theorem ev_less {ls' : g_Ls} (h : ∀ (i : Nat) (v : g_v), ls'[i]? = some (some v) → ls[i]? = some (some v)) (k : Ev Me R Fi pc ls' st L M nc ns) : Ev Me R Fi pc ls st L M nc ns := by
  intro p l e s m args below meth c Q D cs A C ad H locs lsA hH hV hF
  exact k p l e s m args below meth c Q D cs A C ad H locs lsA hH ⟨⟨hV.1.1, hV.1.2.1, fun i v hi => hV.1.2.2 i v (h i v hi)⟩, fun i v hi => hV.2.1 i v (h i v hi), hV.2.2⟩ hF
/-- what holds of every state: numbers of memory are in range, and those of the stack -/
theorem ev_rg (k : (∀ a b, g_rg (M a b)) → (∀ v ∈ st, g_ok L.length v) → (∀ (i : Nat) (v : g_v), ls[i]? = some (some v) → g_okl L.length v) → Ev Me R Fi pc ls st L M nc ns) : Ev Me R Fi pc ls st L M nc ns := by
  intro p l e s m args below meth c Q D cs A C ad H locs lsA hH hV hF
  exact k hH.2.2.2.1 hV.2.2 hV.2.1 p l e s m args below meth c Q D cs A C ad H locs lsA hH hV hF
/-- a top that is the same number otherwise told -/
theorem ev_top {x y : Int} (h : x = y) (k : Ev Me R Fi pc ls (g_i y :: st) L M nc ns) : Ev Me R Fi pc ls (g_i x :: st) L M nc ns := h ▸ k
theorem g_st1 {n : Nat} {v : g_v} {st : List g_v} (hv : g_ok n v) (h : ∀ w ∈ st, g_ok n w) : ∀ w ∈ v :: st, g_ok n w := fun w hw => (List.mem_cons.mp hw).elim (fun e => e ▸ hv) (h w)
theorem g_tl {n : Nat} {v : g_v} {st : List g_v} (h : ∀ w ∈ v :: st, g_ok n w) : ∀ w ∈ st, g_ok n w := fun w hw => h w (List.mem_cons_of_mem _ hw)
theorem g_hd {n : Nat} {v : g_v} {st : List g_v} (h : ∀ w ∈ v :: st, g_ok n w) : g_ok n v := h v List.mem_cons_self

theorem ev_iconst {n : Int} (h : decode Me.2.1 pc = .ok (.iconst n, 1)) (hq : pc + 1 = q) (hn : g_rg n) (k : Ev Me R Fi q ls (g_i n :: st) L M nc ns) : Ev Me R Fi pc ls st L M nc ns := by
  subst hq
  intro p l e s m args below meth c Q D cs A C ad H locs lsA hH hV hF
  refine lv_iconst C.1.1 C.1.2.1 h rfl ?_
  exact k p l e s m args below meth c Q D cs A C ad H locs lsA hH (g_V_st hV (g_st1 hn hV.2.2)) hF

theorem ev_bipush {n : Int} (h : decode Me.2.1 pc = .ok (.bipush n, 2)) (hq : pc + 2 = q) (hv : (Int8.ofInt n).toInt32 = Int32.ofInt n) (hn : g_rg n) (k : Ev Me R Fi q ls (g_i n :: st) L M nc ns) : Ev Me R Fi pc ls st L M nc ns := by
  subst hq
  intro p l e s m args below meth c Q D cs A C ad H locs lsA hH hV hF
  refine lv_bipush C.1.1 C.1.2.1 h hv ?_
  exact k p l e s m args below meth c Q D cs A C ad H locs lsA hH (g_V_st hV (g_st1 hn hV.2.2)) hF

theorem ev_sipush {n : Int} (h : decode Me.2.1 pc = .ok (.sipush n, 3)) (hq : pc + 3 = q) (hv : (Int16.ofInt n).toInt32 = Int32.ofInt n) (hn : g_rg n) (k : Ev Me R Fi q ls (g_i n :: st) L M nc ns) : Ev Me R Fi pc ls st L M nc ns := by
  subst hq
  intro p l e s m args below meth c Q D cs A C ad H locs lsA hH hV hF
  refine lv_sipush C.1.1 C.1.2.1 h hv ?_
  exact k p l e s m args below meth c Q D cs A C ad H locs lsA hH (g_V_st hV (g_st1 hn hV.2.2)) hF

theorem ev_ldc {idx : Nat} {v : Int32} {n : Int} (h : decode Me.2.1 pc = .ok (.ldc idx, 2)) (hq : pc + 2 = q) (hc : Jvm.Cond.constant Me.1 idx v ∈ gw) (hv : v = Int32.ofInt n) (hn : g_rg n) (k : Ev Me R Fi q ls (g_i n :: st) L M nc ns) : Ev Me R Fi pc ls st L M nc ns := by
  subst hq
  subst hv
  intro p l e s m args below meth c Q D cs A C ad H locs lsA hH hV hF
  refine lv_ldc C.1.1 C.1.2.1 C.1.2.2.2.1 (C.1.2.2.2.2 _ hc) h ?_
  exact k p l e s m args below meth c Q D cs A C ad H locs lsA hH (g_V_st hV (g_st1 hn hV.2.2)) hF

theorem ev_iload_n {i : Nat} {k0 : Fin 4} {x : Int} (h : decode Me.2.1 pc = .ok (.iload_n k0, 1)) (hq : pc + 1 = q) (hi : (k0 : Nat) = i) (hl : ls[i]? = some (some (g_i x))) (k : Ev Me R Fi q ls (g_i x :: st) L M nc ns) : Ev Me R Fi pc ls st L M nc ns := by
  subst hq
  intro p l e s m args below meth c Q D cs A C ad H locs lsA hH hV hF
  refine lv_iload_n C.1.1 C.1.2.1 h hi (hV.1.2.2 i _ hl) ?_
  exact k p l e s m args below meth c Q D cs A C ad H locs lsA hH (g_V_st hV (g_st1 (g_okl_ok (hV.2.1 i _ hl)) hV.2.2)) hF

theorem ev_iload {i : Nat} {x : Int} (h : decode Me.2.1 pc = .ok (.iload i, 2)) (hq : pc + 2 = q) (hl : ls[i]? = some (some (g_i x))) (k : Ev Me R Fi q ls (g_i x :: st) L M nc ns) : Ev Me R Fi pc ls st L M nc ns := by
  subst hq
  intro p l e s m args below meth c Q D cs A C ad H locs lsA hH hV hF
  refine lv_iload C.1.1 C.1.2.1 h (hV.1.2.2 i _ hl) ?_
  exact k p l e s m args below meth c Q D cs A C ad H locs lsA hH (g_V_st hV (g_st1 (g_okl_ok (hV.2.1 i _ hl)) hV.2.2)) hF

theorem ev_aload_n {i : Nat} {k0 : Fin 4} {x : Nat} (h : decode Me.2.1 pc = .ok (.aload_n k0, 1)) (hq : pc + 1 = q) (hi : (k0 : Nat) = i) (hl : ls[i]? = some (some (g_r x))) (k : Ev Me R Fi q ls (g_r x :: st) L M nc ns) : Ev Me R Fi pc ls st L M nc ns := by
  subst hq
  intro p l e s m args below meth c Q D cs A C ad H locs lsA hH hV hF
  refine lv_aload_n C.1.1 C.1.2.1 h hi (hV.1.2.2 i _ hl) ?_
  exact k p l e s m args below meth c Q D cs A C ad H locs lsA hH (g_V_st hV (g_st1 (g_okl_ok (hV.2.1 i _ hl)) hV.2.2)) hF

theorem ev_aload {i : Nat} {x : Nat} (h : decode Me.2.1 pc = .ok (.aload i, 2)) (hq : pc + 2 = q) (hl : ls[i]? = some (some (g_r x))) (k : Ev Me R Fi q ls (g_r x :: st) L M nc ns) : Ev Me R Fi pc ls st L M nc ns := by
  subst hq
  intro p l e s m args below meth c Q D cs A C ad H locs lsA hH hV hF
  refine lv_aload C.1.1 C.1.2.1 h (hV.1.2.2 i _ hl) ?_
  exact k p l e s m args below meth c Q D cs A C ad H locs lsA hH (g_V_st hV (g_st1 (g_okl_ok (hV.2.1 i _ hl)) hV.2.2)) hF

theorem ev_aload_nO {i : Nat} {k0 : Fin 4} {x : Nat} (h : decode Me.2.1 pc = .ok (.aload_n k0, 1)) (hq : pc + 1 = q) (hi : (k0 : Nat) = i) (hl : ls[i]? = some (some (g_o x))) (k : Ev Me R Fi q ls (g_o x :: st) L M nc ns) : Ev Me R Fi pc ls st L M nc ns := by
  subst hq
  intro p l e s m args below meth c Q D cs A C ad H locs lsA hH hV hF
  refine lv_aload_n C.1.1 C.1.2.1 h hi (hV.1.2.2 i _ hl) ?_
  exact k p l e s m args below meth c Q D cs A C ad H locs lsA hH (g_V_st hV (g_st1 (g_okl_ok (hV.2.1 i _ hl)) hV.2.2)) hF

theorem ev_aloadO {i : Nat} {x : Nat} (h : decode Me.2.1 pc = .ok (.aload i, 2)) (hq : pc + 2 = q) (hl : ls[i]? = some (some (g_o x))) (k : Ev Me R Fi q ls (g_o x :: st) L M nc ns) : Ev Me R Fi pc ls st L M nc ns := by
  subst hq
  intro p l e s m args below meth c Q D cs A C ad H locs lsA hH hV hF
  refine lv_aload C.1.1 C.1.2.1 h (hV.1.2.2 i _ hl) ?_
  exact k p l e s m args below meth c Q D cs A C ad H locs lsA hH (g_V_st hV (g_st1 (g_okl_ok (hV.2.1 i _ hl)) hV.2.2)) hF

theorem ev_istore_n {i : Nat} {k0 : Fin 4} {x : Int} {ls' : g_Ls} (h : decode Me.2.1 pc = .ok (.istore_n k0, 1)) (hq : pc + 1 = q) (hi : (k0 : Nat) = i) (hn : i < Me.2.2.1) (hs : ls.set i (some (g_i x)) = ls') (k : Ev Me R Fi q ls' st L M nc ns) : Ev Me R Fi pc ls (g_i x :: st) L M nc ns := by
  subst hq
  subst hs
  intro p l e s m args below meth c Q D cs A C ad H locs lsA hH hV hF
  have hv : g_okl L.length (g_i x) := g_hd hV.2.2
  refine lv_istore_n C.1.1 C.1.2.1 h hi (g_has hV) hn rfl fun lsA' h' => ?_
  exact k p l e s m args below meth c Q D cs A C ad H locs lsA' hH (g_back (v := g_i x) hV hv h') hF

theorem ev_istore {i : Nat} {x : Int} {ls' : g_Ls} (h : decode Me.2.1 pc = .ok (.istore i, 2)) (hq : pc + 2 = q) (hn : i < Me.2.2.1) (hs : ls.set i (some (g_i x)) = ls') (k : Ev Me R Fi q ls' st L M nc ns) : Ev Me R Fi pc ls (g_i x :: st) L M nc ns := by
  subst hq
  subst hs
  intro p l e s m args below meth c Q D cs A C ad H locs lsA hH hV hF
  have hv : g_okl L.length (g_i x) := g_hd hV.2.2
  refine lv_istore C.1.1 C.1.2.1 h (g_has hV) hn rfl fun lsA' h' => ?_
  exact k p l e s m args below meth c Q D cs A C ad H locs lsA' hH (g_back (v := g_i x) hV hv h') hF

theorem ev_astore_n {i : Nat} {k0 : Fin 4} {x : Nat} {ls' : g_Ls} (h : decode Me.2.1 pc = .ok (.astore_n k0, 1)) (hq : pc + 1 = q) (hi : (k0 : Nat) = i) (hn : i < Me.2.2.1) (hs : ls.set i (some (g_r x)) = ls') (k : Ev Me R Fi q ls' st L M nc ns) : Ev Me R Fi pc ls (g_r x :: st) L M nc ns := by
  subst hq
  subst hs
  intro p l e s m args below meth c Q D cs A C ad H locs lsA hH hV hF
  have hv : g_okl L.length (g_r x) := g_hd hV.2.2
  refine lv_astore_n C.1.1 C.1.2.1 h hi (g_has hV) hn rfl fun lsA' h' => ?_
  exact k p l e s m args below meth c Q D cs A C ad H locs lsA' hH (g_back (v := g_r x) hV hv h') hF

theorem ev_astore {i : Nat} {x : Nat} {ls' : g_Ls} (h : decode Me.2.1 pc = .ok (.astore i, 2)) (hq : pc + 2 = q) (hn : i < Me.2.2.1) (hs : ls.set i (some (g_r x)) = ls') (k : Ev Me R Fi q ls' st L M nc ns) : Ev Me R Fi pc ls (g_r x :: st) L M nc ns := by
  subst hq
  subst hs
  intro p l e s m args below meth c Q D cs A C ad H locs lsA hH hV hF
  have hv : g_okl L.length (g_r x) := g_hd hV.2.2
  refine lv_astore C.1.1 C.1.2.1 h (g_has hV) hn rfl fun lsA' h' => ?_
  exact k p l e s m args below meth c Q D cs A C ad H locs lsA' hH (g_back (v := g_r x) hV hv h') hF

theorem ev_astore_nO {i : Nat} {k0 : Fin 4} {x : Nat} {ls' : g_Ls} (h : decode Me.2.1 pc = .ok (.astore_n k0, 1)) (hq : pc + 1 = q) (hi : (k0 : Nat) = i) (hn : i < Me.2.2.1) (hs : ls.set i (some (g_o x)) = ls') (k : Ev Me R Fi q ls' st L M nc ns) : Ev Me R Fi pc ls (g_o x :: st) L M nc ns := by
  subst hq
  subst hs
  intro p l e s m args below meth c Q D cs A C ad H locs lsA hH hV hF
  have hv : g_okl L.length (g_o x) := g_hd hV.2.2
  refine lv_astore_n C.1.1 C.1.2.1 h hi (g_has hV) hn rfl fun lsA' h' => ?_
  exact k p l e s m args below meth c Q D cs A C ad H locs lsA' hH (g_back (v := g_o x) hV hv h') hF

theorem ev_astoreO {i : Nat} {x : Nat} {ls' : g_Ls} (h : decode Me.2.1 pc = .ok (.astore i, 2)) (hq : pc + 2 = q) (hn : i < Me.2.2.1) (hs : ls.set i (some (g_o x)) = ls') (k : Ev Me R Fi q ls' st L M nc ns) : Ev Me R Fi pc ls (g_o x :: st) L M nc ns := by
  subst hq
  subst hs
  intro p l e s m args below meth c Q D cs A C ad H locs lsA hH hV hF
  have hv : g_okl L.length (g_o x) := g_hd hV.2.2
  refine lv_astore C.1.1 C.1.2.1 h (g_has hV) hn rfl fun lsA' h' => ?_
  exact k p l e s m args below meth c Q D cs A C ad H locs lsA' hH (g_back (v := g_o x) hV hv h') hF

theorem ev_iinc {i : Nat} {n x z : Int} {ls' : g_Ls} (h : decode Me.2.1 pc = .ok (.iinc i n, 3)) (hq : pc + 3 = q) (hl : ls[i]? = some (some (g_i x))) (hn : i < Me.2.2.1) (hz : g_w (x + n) = z) (hs : ls.set i (some (g_i z)) = ls') (k : Ev Me R Fi q ls' st L M nc ns) : Ev Me R Fi pc ls st L M nc ns := by
  subst hq
  subst hs
  subst hz
  intro p l e s m args below meth c Q D cs A C ad H locs lsA hH hV hF
  obtain ⟨j, hj⟩ := List.getElem?_of_mem (g_lst_mem (ad := ad) hl)
  refine lv_iinc (v := Int32.ofInt (g_w (x + n))) C.1.1 C.1.2.1 h (g_has hV) hj (by rw [g_ofw, Int32.ofInt_add]) hn rfl fun lsA' h' => ?_
  exact k p l e s m args below meth c Q D cs A C ad H locs lsA' hH (g_back (v := g_i (g_w (x + n))) (g_V_st hV (g_st1 (g_w_rg _) hV.2.2)) (g_w_rg _) h') hF

theorem ev_iadd {x y z : Int} (h : decode Me.2.1 pc = .ok (.iadd, 1)) (hq : pc + 1 = q) (hz : g_w (x + y) = z) (k : Ev Me R Fi q ls (g_i z :: st) L M nc ns) : Ev Me R Fi pc ls (g_i y :: g_i x :: st) L M nc ns := by
  subst hq
  subst hz
  intro p l e s m args below meth c Q D cs A C ad H locs lsA hH hV hF
  have hx := g_hd (g_tl hV.2.2)
  have hy := g_hd hV.2.2
  have hk := k p l e s m args below meth c Q D cs A C ad H locs lsA hH (g_V_st hV (g_st1 (v := g_i (g_w (x + y))) (g_w_rg _) (g_tl (g_tl hV.2.2)))) hF
  have e9 : g_val ad (g_i (g_w (x + y))) = .int (Int32.ofInt x + Int32.ofInt y) := by
    show Value.int (Int32.ofInt (g_w (x + y))) = _
    rw [g_ofw, Int32.ofInt_add]
  rw [List.map_cons, e9] at hk
  exact lv_iadd C.1.1 C.1.2.1 h hk

theorem ev_isub {x y z : Int} (h : decode Me.2.1 pc = .ok (.isub, 1)) (hq : pc + 1 = q) (hz : g_w (x - y) = z) (k : Ev Me R Fi q ls (g_i z :: st) L M nc ns) : Ev Me R Fi pc ls (g_i y :: g_i x :: st) L M nc ns := by
  subst hq
  subst hz
  intro p l e s m args below meth c Q D cs A C ad H locs lsA hH hV hF
  have hx := g_hd (g_tl hV.2.2)
  have hy := g_hd hV.2.2
  have hk := k p l e s m args below meth c Q D cs A C ad H locs lsA hH (g_V_st hV (g_st1 (v := g_i (g_w (x - y))) (g_w_rg _) (g_tl (g_tl hV.2.2)))) hF
  have e9 : g_val ad (g_i (g_w (x - y))) = .int (Int32.ofInt x - Int32.ofInt y) := by
    show Value.int (Int32.ofInt (g_w (x - y))) = _
    rw [g_ofw, Int32.ofInt_sub]
  rw [List.map_cons, e9] at hk
  exact lv_isub C.1.1 C.1.2.1 h hk

theorem ev_imul {x y z : Int} (h : decode Me.2.1 pc = .ok (.imul, 1)) (hq : pc + 1 = q) (hz : g_w (x * y) = z) (k : Ev Me R Fi q ls (g_i z :: st) L M nc ns) : Ev Me R Fi pc ls (g_i y :: g_i x :: st) L M nc ns := by
  subst hq
  subst hz
  intro p l e s m args below meth c Q D cs A C ad H locs lsA hH hV hF
  have hx := g_hd (g_tl hV.2.2)
  have hy := g_hd hV.2.2
  have hk := k p l e s m args below meth c Q D cs A C ad H locs lsA hH (g_V_st hV (g_st1 (v := g_i (g_w (x * y))) (g_w_rg _) (g_tl (g_tl hV.2.2)))) hF
  have e9 : g_val ad (g_i (g_w (x * y))) = .int (Int32.ofInt x * Int32.ofInt y) := by
    show Value.int (Int32.ofInt (g_w (x * y))) = _
    rw [g_ofw, Int32.ofInt_mul]
  rw [List.map_cons, e9] at hk
  exact lv_imul C.1.1 C.1.2.1 h hk

theorem ev_iand {x y z : Int} (h : decode Me.2.1 pc = .ok (.iand, 1)) (hq : pc + 1 = q) (hz : g_b (fun a b => a &&& b) x y = z) (k : Ev Me R Fi q ls (g_i z :: st) L M nc ns) : Ev Me R Fi pc ls (g_i y :: g_i x :: st) L M nc ns := by
  subst hq
  subst hz
  intro p l e s m args below meth c Q D cs A C ad H locs lsA hH hV hF
  have hx := g_hd (g_tl hV.2.2)
  have hy := g_hd hV.2.2
  have hk := k p l e s m args below meth c Q D cs A C ad H locs lsA hH (g_V_st hV (g_st1 (v := g_i (g_b (fun a b => a &&& b) x y)) (g_b_rg _ _ _) (g_tl (g_tl hV.2.2)))) hF
  have e9 : g_val ad (g_i (g_b (fun a b => a &&& b) x y)) = .int (Int32.ofInt x &&& Int32.ofInt y) := by
    show Value.int (Int32.ofInt (g_b (fun a b => a &&& b) x y)) = _
    rw [g_ofb]
  rw [List.map_cons, e9] at hk
  exact lv_iand C.1.1 C.1.2.1 h hk

theorem ev_ior {x y z : Int} (h : decode Me.2.1 pc = .ok (.ior, 1)) (hq : pc + 1 = q) (hz : g_b (fun a b => a ||| b) x y = z) (k : Ev Me R Fi q ls (g_i z :: st) L M nc ns) : Ev Me R Fi pc ls (g_i y :: g_i x :: st) L M nc ns := by
  subst hq
  subst hz
  intro p l e s m args below meth c Q D cs A C ad H locs lsA hH hV hF
  have hx := g_hd (g_tl hV.2.2)
  have hy := g_hd hV.2.2
  have hk := k p l e s m args below meth c Q D cs A C ad H locs lsA hH (g_V_st hV (g_st1 (v := g_i (g_b (fun a b => a ||| b) x y)) (g_b_rg _ _ _) (g_tl (g_tl hV.2.2)))) hF
  have e9 : g_val ad (g_i (g_b (fun a b => a ||| b) x y)) = .int (Int32.ofInt x ||| Int32.ofInt y) := by
    show Value.int (Int32.ofInt (g_b (fun a b => a ||| b) x y)) = _
    rw [g_ofb]
  rw [List.map_cons, e9] at hk
  exact lv_ior C.1.1 C.1.2.1 h hk

theorem ev_ixor {x y z : Int} (h : decode Me.2.1 pc = .ok (.ixor, 1)) (hq : pc + 1 = q) (hz : g_b (fun a b => a ^^^ b) x y = z) (k : Ev Me R Fi q ls (g_i z :: st) L M nc ns) : Ev Me R Fi pc ls (g_i y :: g_i x :: st) L M nc ns := by
  subst hq
  subst hz
  intro p l e s m args below meth c Q D cs A C ad H locs lsA hH hV hF
  have hx := g_hd (g_tl hV.2.2)
  have hy := g_hd hV.2.2
  have hk := k p l e s m args below meth c Q D cs A C ad H locs lsA hH (g_V_st hV (g_st1 (v := g_i (g_b (fun a b => a ^^^ b) x y)) (g_b_rg _ _ _) (g_tl (g_tl hV.2.2)))) hF
  have e9 : g_val ad (g_i (g_b (fun a b => a ^^^ b) x y)) = .int (Int32.ofInt x ^^^ Int32.ofInt y) := by
    show Value.int (Int32.ofInt (g_b (fun a b => a ^^^ b) x y)) = _
    rw [g_ofb]
  rw [List.map_cons, e9] at hk
  exact lv_ixor C.1.1 C.1.2.1 h hk

theorem ev_ishl {x y z : Int} (h : decode Me.2.1 pc = .ok (.ishl, 1)) (hq : pc + 1 = q) (hz : g_b (fun a b => a <<< (b &&& 31)) x y = z) (k : Ev Me R Fi q ls (g_i z :: st) L M nc ns) : Ev Me R Fi pc ls (g_i y :: g_i x :: st) L M nc ns := by
  subst hq
  subst hz
  intro p l e s m args below meth c Q D cs A C ad H locs lsA hH hV hF
  have hx := g_hd (g_tl hV.2.2)
  have hy := g_hd hV.2.2
  have hk := k p l e s m args below meth c Q D cs A C ad H locs lsA hH (g_V_st hV (g_st1 (v := g_i (g_b (fun a b => a <<< (b &&& 31)) x y)) (g_b_rg _ _ _) (g_tl (g_tl hV.2.2)))) hF
  have e9 : g_val ad (g_i (g_b (fun a b => a <<< (b &&& 31)) x y)) = .int (Int32.ofInt x <<< (Int32.ofInt y &&& 31)) := by
    show Value.int (Int32.ofInt (g_b (fun a b => a <<< (b &&& 31)) x y)) = _
    rw [g_ofb]
  rw [List.map_cons, e9] at hk
  exact lv_ishl C.1.1 C.1.2.1 h hk

theorem ev_ishr {x y z : Int} (h : decode Me.2.1 pc = .ok (.ishr, 1)) (hq : pc + 1 = q) (hz : g_b (fun a b => a >>> (b &&& 31)) x y = z) (k : Ev Me R Fi q ls (g_i z :: st) L M nc ns) : Ev Me R Fi pc ls (g_i y :: g_i x :: st) L M nc ns := by
  subst hq
  subst hz
  intro p l e s m args below meth c Q D cs A C ad H locs lsA hH hV hF
  have hx := g_hd (g_tl hV.2.2)
  have hy := g_hd hV.2.2
  have hk := k p l e s m args below meth c Q D cs A C ad H locs lsA hH (g_V_st hV (g_st1 (v := g_i (g_b (fun a b => a >>> (b &&& 31)) x y)) (g_b_rg _ _ _) (g_tl (g_tl hV.2.2)))) hF
  have e9 : g_val ad (g_i (g_b (fun a b => a >>> (b &&& 31)) x y)) = .int (Int32.ofInt x >>> (Int32.ofInt y &&& 31)) := by
    show Value.int (Int32.ofInt (g_b (fun a b => a >>> (b &&& 31)) x y)) = _
    rw [g_ofb]
  rw [List.map_cons, e9] at hk
  exact lv_ishr C.1.1 C.1.2.1 h hk

theorem ev_idiv {x y z : Int} (h : decode Me.2.1 pc = .ok (.idiv, 1)) (hq : pc + 1 = q) (hne : y ≠ 0) (hz : g_b (fun a b => a / b) x y = z) (k : Ev Me R Fi q ls (g_i z :: st) L M nc ns) : Ev Me R Fi pc ls (g_i y :: g_i x :: st) L M nc ns := by
  subst hq
  subst hz
  intro p l e s m args below meth c Q D cs A C ad H locs lsA hH hV hF
  have hx := g_hd (g_tl hV.2.2)
  have hy := g_hd hV.2.2
  have hk := k p l e s m args below meth c Q D cs A C ad H locs lsA hH (g_V_st hV (g_st1 (v := g_i (g_b (fun a b => a / b) x y)) (g_b_rg _ _ _) (g_tl (g_tl hV.2.2)))) hF
  have e9 : g_val ad (g_i (g_b (fun a b => a / b) x y)) = .int (Int32.ofInt x / Int32.ofInt y) := by
    show Value.int (Int32.ofInt (g_b (fun a b => a / b) x y)) = _
    rw [g_ofb]
  rw [List.map_cons, e9] at hk
  exact lv_idiv C.1.1 C.1.2.1 h (fun e0 => hne ((g_eqI (y := 0) hy g_rg0).mp e0)) hk

theorem ev_irem {x y z : Int} (h : decode Me.2.1 pc = .ok (.irem, 1)) (hq : pc + 1 = q) (hne : y ≠ 0) (hz : g_b (fun a b => a - a / b * b) x y = z) (k : Ev Me R Fi q ls (g_i z :: st) L M nc ns) : Ev Me R Fi pc ls (g_i y :: g_i x :: st) L M nc ns := by
  subst hq
  subst hz
  intro p l e s m args below meth c Q D cs A C ad H locs lsA hH hV hF
  have hx := g_hd (g_tl hV.2.2)
  have hy := g_hd hV.2.2
  have hk := k p l e s m args below meth c Q D cs A C ad H locs lsA hH (g_V_st hV (g_st1 (v := g_i (g_b (fun a b => a - a / b * b) x y)) (g_b_rg _ _ _) (g_tl (g_tl hV.2.2)))) hF
  have e9 : g_val ad (g_i (g_b (fun a b => a - a / b * b) x y)) = .int (Int32.ofInt x - Int32.ofInt x / Int32.ofInt y * Int32.ofInt y) := by
    show Value.int (Int32.ofInt (g_b (fun a b => a - a / b * b) x y)) = _
    rw [g_ofb]
  rw [List.map_cons, e9] at hk
  exact lv_irem C.1.1 C.1.2.1 h (fun e0 => hne ((g_eqI (y := 0) hy g_rg0).mp e0)) hk

theorem ev_iushr {x y z : Int} (h : decode Me.2.1 pc = .ok (.iushr, 1)) (hq : pc + 1 = q) (hz : g_b (fun a b => (a.toUInt32 >>> (b.toUInt32 &&& Int32.toUInt32 31)).toInt32) x y = z) (k : Ev Me R Fi q ls (g_i z :: st) L M nc ns) : Ev Me R Fi pc ls (g_i y :: g_i x :: st) L M nc ns := by
  subst hq
  subst hz
  intro p l e s m args below meth c Q D cs A C ad H locs lsA hH hV hF
  refine lv_iushr C.1.1 C.1.2.1 h (v := Int32.ofInt (g_b (fun a b => (a.toUInt32 >>> (b.toUInt32 &&& Int32.toUInt32 31)).toInt32) x y)) (by rw [g_ofb]) ?_
  exact k p l e s m args below meth c Q D cs A C ad H locs lsA hH (g_V_st hV (g_st1 (g_b_rg _ _ _) (g_tl (g_tl hV.2.2)))) hF

theorem ev_dup {v : g_v} (h : decode Me.2.1 pc = .ok (.dup, 1)) (hq : pc + 1 = q) (hj : g_nj v = true) (k : Ev Me R Fi q ls (v :: v :: st) L M nc ns) : Ev Me R Fi pc ls (v :: st) L M nc ns := by
  subst hq
  intro p l e s m args below meth c Q D cs A C ad H locs lsA hH hV hF
  exact lv_dup C.1.1 C.1.2.1 h (g_nj_cat hj) (k p l e s m args below meth c Q D cs A C ad H locs lsA hH (g_V_st hV (g_st1 (g_hd hV.2.2) hV.2.2)) hF)
theorem ev_pop {v : g_v} (h : decode Me.2.1 pc = .ok (.pop, 1)) (hq : pc + 1 = q) (hj : g_nj v = true) (k : Ev Me R Fi q ls st L M nc ns) : Ev Me R Fi pc ls (v :: st) L M nc ns := by
  subst hq
  intro p l e s m args below meth c Q D cs A C ad H locs lsA hH hV hF
  exact lv_pop C.1.1 C.1.2.1 h (g_nj_cat hj) (k p l e s m args below meth c Q D cs A C ad H locs lsA hH (g_V_st hV (g_tl hV.2.2)) hF)
theorem ev_dup_x1 {v w : g_v} (h : decode Me.2.1 pc = .ok (.dup_x1, 1)) (hq : pc + 1 = q) (hj : g_nj v = true) (hj2 : g_nj w = true) (k : Ev Me R Fi q ls (v :: w :: v :: st) L M nc ns) : Ev Me R Fi pc ls (v :: w :: st) L M nc ns := by
  subst hq
  intro p l e s m args below meth c Q D cs A C ad H locs lsA hH hV hF
  exact lv_dup_x1 C.1.1 C.1.2.1 h (g_nj_cat hj) (g_nj_cat hj2) (k p l e s m args below meth c Q D cs A C ad H locs lsA hH (g_V_st hV (g_st1 (g_hd hV.2.2) (g_st1 (g_hd (g_tl hV.2.2)) (g_st1 (g_hd hV.2.2) (g_tl (g_tl hV.2.2)))))) hF)
theorem ev_dup_x2 {v w u : g_v} (h : decode Me.2.1 pc = .ok (.dup_x2, 1)) (hq : pc + 1 = q) (hj : g_nj v = true) (hj2 : g_nj w = true) (hj3 : g_nj u = true) (k : Ev Me R Fi q ls (v :: w :: u :: v :: st) L M nc ns) : Ev Me R Fi pc ls (v :: w :: u :: st) L M nc ns := by
  subst hq
  intro p l e s m args below meth c Q D cs A C ad H locs lsA hH hV hF
  exact lv_dup_x2 C.1.1 C.1.2.1 h (g_nj_cat hj) (g_nj_cat hj2) (g_nj_cat hj3) (k p l e s m args below meth c Q D cs A C ad H locs lsA hH (g_V_st hV (g_st1 (g_hd hV.2.2) (g_st1 (g_hd (g_tl hV.2.2)) (g_st1 (g_hd (g_tl (g_tl hV.2.2))) (g_st1 (g_hd hV.2.2) (g_tl (g_tl (g_tl hV.2.2)))))))) hF)
theorem ev_dup2 {v w : g_v} (h : decode Me.2.1 pc = .ok (.dup2, 1)) (hq : pc + 1 = q) (hj : g_nj v = true) (hj2 : g_nj w = true) (k : Ev Me R Fi q ls (v :: w :: v :: w :: st) L M nc ns) : Ev Me R Fi pc ls (v :: w :: st) L M nc ns := by
  subst hq
  intro p l e s m args below meth c Q D cs A C ad H locs lsA hH hV hF
  exact lv_dup2_11 C.1.1 C.1.2.1 h (g_nj_cat hj) (g_nj_cat hj2) (k p l e s m args below meth c Q D cs A C ad H locs lsA hH (g_V_st hV (g_st1 (g_hd hV.2.2) (g_st1 (g_hd (g_tl hV.2.2)) hV.2.2))) hF)

theorem ev_icmp_eq {x y : Int} {off : Int} {tgt : Nat} (h : decode Me.2.1 pc = .ok (.if_icmp .eq off, 3)) (ht : (pc : Int) + off = (tgt : Int)) (hq : pc + 3 = q) (kt : x = y → Ev Me R Fi tgt ls st L M nc ns) (kf : ¬ x = y → Ev Me R Fi q ls st L M nc ns) : Ev Me R Fi pc ls (g_i y :: g_i x :: st) L M nc ns := by
  subst hq
  intro p l e s m args below meth c Q D cs A C ad H locs lsA hH hV hF
  have hx : g_rg x := g_hd (g_tl hV.2.2)
  have hy : g_rg y := g_hd hV.2.2
  have iff9 : Int32.ofInt x = Int32.ofInt y ↔ x = y := g_eqI (x := x) (y := y) hx hy
  exact lv_icmp_eq C.1.1 C.1.2.1 h ht (fun h9 => kt (iff9.mp h9) p l e s m args below meth c Q D cs A C ad H locs lsA hH (g_V_st hV (g_tl (g_tl hV.2.2))) hF) (fun h9 => kf (fun e9 => h9 (iff9.mpr e9)) p l e s m args below meth c Q D cs A C ad H locs lsA hH (g_V_st hV (g_tl (g_tl hV.2.2))) hF)
theorem ev_icmp_eq_t {x y : Int} {off : Int} {tgt : Nat} (h : decode Me.2.1 pc = .ok (.if_icmp .eq off, 3)) (ht : (pc : Int) + off = (tgt : Int)) (hc : x = y) (k : Ev Me R Fi tgt ls st L M nc ns) : Ev Me R Fi pc ls (g_i y :: g_i x :: st) L M nc ns :=
  ev_icmp_eq h ht rfl (fun _ => k) (fun h9 => absurd hc h9)
theorem ev_icmp_eq_f {x y : Int} {off : Int} {tgt : Nat} (h : decode Me.2.1 pc = .ok (.if_icmp .eq off, 3)) (ht : (pc : Int) + off = (tgt : Int)) (hq : pc + 3 = q) (hc : ¬ x = y) (k : Ev Me R Fi q ls st L M nc ns) : Ev Me R Fi pc ls (g_i y :: g_i x :: st) L M nc ns :=
  ev_icmp_eq h ht hq (fun h9 => absurd h9 hc) (fun _ => k)

theorem ev_if_eq {x : Int} {off : Int} {tgt : Nat} (h : decode Me.2.1 pc = .ok (.ifCond .eq off, 3)) (ht : (pc : Int) + off = (tgt : Int)) (hq : pc + 3 = q) (kt : x = 0 → Ev Me R Fi tgt ls st L M nc ns) (kf : ¬ x = 0 → Ev Me R Fi q ls st L M nc ns) : Ev Me R Fi pc ls (g_i x :: st) L M nc ns := by
  subst hq
  intro p l e s m args below meth c Q D cs A C ad H locs lsA hH hV hF
  have hx : g_rg x := g_hd hV.2.2
  have iff9 : Int32.ofInt x = 0 ↔ x = 0 := g_eqI (x := x) (y := 0) hx g_rg0
  exact lv_if_eq C.1.1 C.1.2.1 h ht (fun h9 => kt (iff9.mp h9) p l e s m args below meth c Q D cs A C ad H locs lsA hH (g_V_st hV (g_tl hV.2.2)) hF) (fun h9 => kf (fun e9 => h9 (iff9.mpr e9)) p l e s m args below meth c Q D cs A C ad H locs lsA hH (g_V_st hV (g_tl hV.2.2)) hF)
theorem ev_if_eq_t {x : Int} {off : Int} {tgt : Nat} (h : decode Me.2.1 pc = .ok (.ifCond .eq off, 3)) (ht : (pc : Int) + off = (tgt : Int)) (hc : x = 0) (k : Ev Me R Fi tgt ls st L M nc ns) : Ev Me R Fi pc ls (g_i x :: st) L M nc ns :=
  ev_if_eq h ht rfl (fun _ => k) (fun h9 => absurd hc h9)
theorem ev_if_eq_f {x : Int} {off : Int} {tgt : Nat} (h : decode Me.2.1 pc = .ok (.ifCond .eq off, 3)) (ht : (pc : Int) + off = (tgt : Int)) (hq : pc + 3 = q) (hc : ¬ x = 0) (k : Ev Me R Fi q ls st L M nc ns) : Ev Me R Fi pc ls (g_i x :: st) L M nc ns :=
  ev_if_eq h ht hq (fun h9 => absurd h9 hc) (fun _ => k)

theorem ev_icmp_ne {x y : Int} {off : Int} {tgt : Nat} (h : decode Me.2.1 pc = .ok (.if_icmp .ne off, 3)) (ht : (pc : Int) + off = (tgt : Int)) (hq : pc + 3 = q) (kt : x ≠ y → Ev Me R Fi tgt ls st L M nc ns) (kf : x = y → Ev Me R Fi q ls st L M nc ns) : Ev Me R Fi pc ls (g_i y :: g_i x :: st) L M nc ns := by
  subst hq
  intro p l e s m args below meth c Q D cs A C ad H locs lsA hH hV hF
  have hx : g_rg x := g_hd (g_tl hV.2.2)
  have hy : g_rg y := g_hd hV.2.2
  have iff9 : Int32.ofInt x = Int32.ofInt y ↔ x = y := g_eqI (x := x) (y := y) hx hy
  exact lv_icmp_ne C.1.1 C.1.2.1 h ht (fun h9 => kt (fun e9 => h9 (iff9.mpr e9)) p l e s m args below meth c Q D cs A C ad H locs lsA hH (g_V_st hV (g_tl (g_tl hV.2.2))) hF) (fun h9 => kf (iff9.mp h9) p l e s m args below meth c Q D cs A C ad H locs lsA hH (g_V_st hV (g_tl (g_tl hV.2.2))) hF)
theorem ev_icmp_ne_t {x y : Int} {off : Int} {tgt : Nat} (h : decode Me.2.1 pc = .ok (.if_icmp .ne off, 3)) (ht : (pc : Int) + off = (tgt : Int)) (hc : x ≠ y) (k : Ev Me R Fi tgt ls st L M nc ns) : Ev Me R Fi pc ls (g_i y :: g_i x :: st) L M nc ns :=
  ev_icmp_ne h ht rfl (fun _ => k) (fun h9 => absurd hc (fun e9 => e9 h9))
theorem ev_icmp_ne_f {x y : Int} {off : Int} {tgt : Nat} (h : decode Me.2.1 pc = .ok (.if_icmp .ne off, 3)) (ht : (pc : Int) + off = (tgt : Int)) (hq : pc + 3 = q) (hc : x = y) (k : Ev Me R Fi q ls st L M nc ns) : Ev Me R Fi pc ls (g_i y :: g_i x :: st) L M nc ns :=
  ev_icmp_ne h ht hq (fun h9 => absurd hc h9) (fun _ => k)

theorem ev_if_ne {x : Int} {off : Int} {tgt : Nat} (h : decode Me.2.1 pc = .ok (.ifCond .ne off, 3)) (ht : (pc : Int) + off = (tgt : Int)) (hq : pc + 3 = q) (kt : x ≠ 0 → Ev Me R Fi tgt ls st L M nc ns) (kf : x = 0 → Ev Me R Fi q ls st L M nc ns) : Ev Me R Fi pc ls (g_i x :: st) L M nc ns := by
  subst hq
  intro p l e s m args below meth c Q D cs A C ad H locs lsA hH hV hF
  have hx : g_rg x := g_hd hV.2.2
  have iff9 : Int32.ofInt x = 0 ↔ x = 0 := g_eqI (x := x) (y := 0) hx g_rg0
  exact lv_if_ne C.1.1 C.1.2.1 h ht (fun h9 => kt (fun e9 => h9 (iff9.mpr e9)) p l e s m args below meth c Q D cs A C ad H locs lsA hH (g_V_st hV (g_tl hV.2.2)) hF) (fun h9 => kf (iff9.mp h9) p l e s m args below meth c Q D cs A C ad H locs lsA hH (g_V_st hV (g_tl hV.2.2)) hF)
theorem ev_if_ne_t {x : Int} {off : Int} {tgt : Nat} (h : decode Me.2.1 pc = .ok (.ifCond .ne off, 3)) (ht : (pc : Int) + off = (tgt : Int)) (hc : x ≠ 0) (k : Ev Me R Fi tgt ls st L M nc ns) : Ev Me R Fi pc ls (g_i x :: st) L M nc ns :=
  ev_if_ne h ht rfl (fun _ => k) (fun h9 => absurd hc (fun e9 => e9 h9))
theorem ev_if_ne_f {x : Int} {off : Int} {tgt : Nat} (h : decode Me.2.1 pc = .ok (.ifCond .ne off, 3)) (ht : (pc : Int) + off = (tgt : Int)) (hq : pc + 3 = q) (hc : x = 0) (k : Ev Me R Fi q ls st L M nc ns) : Ev Me R Fi pc ls (g_i x :: st) L M nc ns :=
  ev_if_ne h ht hq (fun h9 => absurd hc h9) (fun _ => k)

theorem ev_icmp_lt {x y : Int} {off : Int} {tgt : Nat} (h : decode Me.2.1 pc = .ok (.if_icmp .lt off, 3)) (ht : (pc : Int) + off = (tgt : Int)) (hq : pc + 3 = q) (kt : x < y → Ev Me R Fi tgt ls st L M nc ns) (kf : ¬ x < y → Ev Me R Fi q ls st L M nc ns) : Ev Me R Fi pc ls (g_i y :: g_i x :: st) L M nc ns := by
  subst hq
  intro p l e s m args below meth c Q D cs A C ad H locs lsA hH hV hF
  have hx : g_rg x := g_hd (g_tl hV.2.2)
  have hy : g_rg y := g_hd hV.2.2
  have iff9 : Int32.ofInt x < Int32.ofInt y ↔ x < y := g_ltI (x := x) (y := y) hx hy
  exact lv_icmp_lt C.1.1 C.1.2.1 h ht (fun h9 => kt (iff9.mp h9) p l e s m args below meth c Q D cs A C ad H locs lsA hH (g_V_st hV (g_tl (g_tl hV.2.2))) hF) (fun h9 => kf (fun e9 => h9 (iff9.mpr e9)) p l e s m args below meth c Q D cs A C ad H locs lsA hH (g_V_st hV (g_tl (g_tl hV.2.2))) hF)
theorem ev_icmp_lt_t {x y : Int} {off : Int} {tgt : Nat} (h : decode Me.2.1 pc = .ok (.if_icmp .lt off, 3)) (ht : (pc : Int) + off = (tgt : Int)) (hc : x < y) (k : Ev Me R Fi tgt ls st L M nc ns) : Ev Me R Fi pc ls (g_i y :: g_i x :: st) L M nc ns :=
  ev_icmp_lt h ht rfl (fun _ => k) (fun h9 => absurd hc h9)
theorem ev_icmp_lt_f {x y : Int} {off : Int} {tgt : Nat} (h : decode Me.2.1 pc = .ok (.if_icmp .lt off, 3)) (ht : (pc : Int) + off = (tgt : Int)) (hq : pc + 3 = q) (hc : ¬ x < y) (k : Ev Me R Fi q ls st L M nc ns) : Ev Me R Fi pc ls (g_i y :: g_i x :: st) L M nc ns :=
  ev_icmp_lt h ht hq (fun h9 => absurd h9 hc) (fun _ => k)

theorem ev_if_lt {x : Int} {off : Int} {tgt : Nat} (h : decode Me.2.1 pc = .ok (.ifCond .lt off, 3)) (ht : (pc : Int) + off = (tgt : Int)) (hq : pc + 3 = q) (kt : x < 0 → Ev Me R Fi tgt ls st L M nc ns) (kf : ¬ x < 0 → Ev Me R Fi q ls st L M nc ns) : Ev Me R Fi pc ls (g_i x :: st) L M nc ns := by
  subst hq
  intro p l e s m args below meth c Q D cs A C ad H locs lsA hH hV hF
  have hx : g_rg x := g_hd hV.2.2
  have iff9 : Int32.ofInt x < 0 ↔ x < 0 := g_ltI (x := x) (y := 0) hx g_rg0
  exact lv_if_lt C.1.1 C.1.2.1 h ht (fun h9 => kt (iff9.mp h9) p l e s m args below meth c Q D cs A C ad H locs lsA hH (g_V_st hV (g_tl hV.2.2)) hF) (fun h9 => kf (fun e9 => h9 (iff9.mpr e9)) p l e s m args below meth c Q D cs A C ad H locs lsA hH (g_V_st hV (g_tl hV.2.2)) hF)
theorem ev_if_lt_t {x : Int} {off : Int} {tgt : Nat} (h : decode Me.2.1 pc = .ok (.ifCond .lt off, 3)) (ht : (pc : Int) + off = (tgt : Int)) (hc : x < 0) (k : Ev Me R Fi tgt ls st L M nc ns) : Ev Me R Fi pc ls (g_i x :: st) L M nc ns :=
  ev_if_lt h ht rfl (fun _ => k) (fun h9 => absurd hc h9)
theorem ev_if_lt_f {x : Int} {off : Int} {tgt : Nat} (h : decode Me.2.1 pc = .ok (.ifCond .lt off, 3)) (ht : (pc : Int) + off = (tgt : Int)) (hq : pc + 3 = q) (hc : ¬ x < 0) (k : Ev Me R Fi q ls st L M nc ns) : Ev Me R Fi pc ls (g_i x :: st) L M nc ns :=
  ev_if_lt h ht hq (fun h9 => absurd h9 hc) (fun _ => k)

theorem ev_icmp_ge {x y : Int} {off : Int} {tgt : Nat} (h : decode Me.2.1 pc = .ok (.if_icmp .ge off, 3)) (ht : (pc : Int) + off = (tgt : Int)) (hq : pc + 3 = q) (kt : y ≤ x → Ev Me R Fi tgt ls st L M nc ns) (kf : ¬ y ≤ x → Ev Me R Fi q ls st L M nc ns) : Ev Me R Fi pc ls (g_i y :: g_i x :: st) L M nc ns := by
  subst hq
  intro p l e s m args below meth c Q D cs A C ad H locs lsA hH hV hF
  have hx : g_rg x := g_hd (g_tl hV.2.2)
  have hy : g_rg y := g_hd hV.2.2
  have iff9 : Int32.ofInt y ≤ Int32.ofInt x ↔ y ≤ x := g_leI (x := y) (y := x) hy hx
  exact lv_icmp_ge C.1.1 C.1.2.1 h ht (fun h9 => kt (iff9.mp h9) p l e s m args below meth c Q D cs A C ad H locs lsA hH (g_V_st hV (g_tl (g_tl hV.2.2))) hF) (fun h9 => kf (fun e9 => h9 (iff9.mpr e9)) p l e s m args below meth c Q D cs A C ad H locs lsA hH (g_V_st hV (g_tl (g_tl hV.2.2))) hF)
theorem ev_icmp_ge_t {x y : Int} {off : Int} {tgt : Nat} (h : decode Me.2.1 pc = .ok (.if_icmp .ge off, 3)) (ht : (pc : Int) + off = (tgt : Int)) (hc : y ≤ x) (k : Ev Me R Fi tgt ls st L M nc ns) : Ev Me R Fi pc ls (g_i y :: g_i x :: st) L M nc ns :=
  ev_icmp_ge h ht rfl (fun _ => k) (fun h9 => absurd hc h9)
theorem ev_icmp_ge_f {x y : Int} {off : Int} {tgt : Nat} (h : decode Me.2.1 pc = .ok (.if_icmp .ge off, 3)) (ht : (pc : Int) + off = (tgt : Int)) (hq : pc + 3 = q) (hc : ¬ y ≤ x) (k : Ev Me R Fi q ls st L M nc ns) : Ev Me R Fi pc ls (g_i y :: g_i x :: st) L M nc ns :=
  ev_icmp_ge h ht hq (fun h9 => absurd h9 hc) (fun _ => k)

theorem ev_if_ge {x : Int} {off : Int} {tgt : Nat} (h : decode Me.2.1 pc = .ok (.ifCond .ge off, 3)) (ht : (pc : Int) + off = (tgt : Int)) (hq : pc + 3 = q) (kt : 0 ≤ x → Ev Me R Fi tgt ls st L M nc ns) (kf : ¬ 0 ≤ x → Ev Me R Fi q ls st L M nc ns) : Ev Me R Fi pc ls (g_i x :: st) L M nc ns := by
  subst hq
  intro p l e s m args below meth c Q D cs A C ad H locs lsA hH hV hF
  have hx : g_rg x := g_hd hV.2.2
  have iff9 : 0 ≤ Int32.ofInt x ↔ 0 ≤ x := g_leI (x := 0) (y := x) g_rg0 hx
  exact lv_if_ge C.1.1 C.1.2.1 h ht (fun h9 => kt (iff9.mp h9) p l e s m args below meth c Q D cs A C ad H locs lsA hH (g_V_st hV (g_tl hV.2.2)) hF) (fun h9 => kf (fun e9 => h9 (iff9.mpr e9)) p l e s m args below meth c Q D cs A C ad H locs lsA hH (g_V_st hV (g_tl hV.2.2)) hF)
theorem ev_if_ge_t {x : Int} {off : Int} {tgt : Nat} (h : decode Me.2.1 pc = .ok (.ifCond .ge off, 3)) (ht : (pc : Int) + off = (tgt : Int)) (hc : 0 ≤ x) (k : Ev Me R Fi tgt ls st L M nc ns) : Ev Me R Fi pc ls (g_i x :: st) L M nc ns :=
  ev_if_ge h ht rfl (fun _ => k) (fun h9 => absurd hc h9)
theorem ev_if_ge_f {x : Int} {off : Int} {tgt : Nat} (h : decode Me.2.1 pc = .ok (.ifCond .ge off, 3)) (ht : (pc : Int) + off = (tgt : Int)) (hq : pc + 3 = q) (hc : ¬ 0 ≤ x) (k : Ev Me R Fi q ls st L M nc ns) : Ev Me R Fi pc ls (g_i x :: st) L M nc ns :=
  ev_if_ge h ht hq (fun h9 => absurd h9 hc) (fun _ => k)

theorem ev_icmp_gt {x y : Int} {off : Int} {tgt : Nat} (h : decode Me.2.1 pc = .ok (.if_icmp .gt off, 3)) (ht : (pc : Int) + off = (tgt : Int)) (hq : pc + 3 = q) (kt : y < x → Ev Me R Fi tgt ls st L M nc ns) (kf : ¬ y < x → Ev Me R Fi q ls st L M nc ns) : Ev Me R Fi pc ls (g_i y :: g_i x :: st) L M nc ns := by
  subst hq
  intro p l e s m args below meth c Q D cs A C ad H locs lsA hH hV hF
  have hx : g_rg x := g_hd (g_tl hV.2.2)
  have hy : g_rg y := g_hd hV.2.2
  have iff9 : Int32.ofInt y < Int32.ofInt x ↔ y < x := g_ltI (x := y) (y := x) hy hx
  exact lv_icmp_gt C.1.1 C.1.2.1 h ht (fun h9 => kt (iff9.mp h9) p l e s m args below meth c Q D cs A C ad H locs lsA hH (g_V_st hV (g_tl (g_tl hV.2.2))) hF) (fun h9 => kf (fun e9 => h9 (iff9.mpr e9)) p l e s m args below meth c Q D cs A C ad H locs lsA hH (g_V_st hV (g_tl (g_tl hV.2.2))) hF)
theorem ev_icmp_gt_t {x y : Int} {off : Int} {tgt : Nat} (h : decode Me.2.1 pc = .ok (.if_icmp .gt off, 3)) (ht : (pc : Int) + off = (tgt : Int)) (hc : y < x) (k : Ev Me R Fi tgt ls st L M nc ns) : Ev Me R Fi pc ls (g_i y :: g_i x :: st) L M nc ns :=
  ev_icmp_gt h ht rfl (fun _ => k) (fun h9 => absurd hc h9)
theorem ev_icmp_gt_f {x y : Int} {off : Int} {tgt : Nat} (h : decode Me.2.1 pc = .ok (.if_icmp .gt off, 3)) (ht : (pc : Int) + off = (tgt : Int)) (hq : pc + 3 = q) (hc : ¬ y < x) (k : Ev Me R Fi q ls st L M nc ns) : Ev Me R Fi pc ls (g_i y :: g_i x :: st) L M nc ns :=
  ev_icmp_gt h ht hq (fun h9 => absurd h9 hc) (fun _ => k)

theorem ev_if_gt {x : Int} {off : Int} {tgt : Nat} (h : decode Me.2.1 pc = .ok (.ifCond .gt off, 3)) (ht : (pc : Int) + off = (tgt : Int)) (hq : pc + 3 = q) (kt : 0 < x → Ev Me R Fi tgt ls st L M nc ns) (kf : ¬ 0 < x → Ev Me R Fi q ls st L M nc ns) : Ev Me R Fi pc ls (g_i x :: st) L M nc ns := by
  subst hq
  intro p l e s m args below meth c Q D cs A C ad H locs lsA hH hV hF
  have hx : g_rg x := g_hd hV.2.2
  have iff9 : 0 < Int32.ofInt x ↔ 0 < x := g_ltI (x := 0) (y := x) g_rg0 hx
  exact lv_if_gt C.1.1 C.1.2.1 h ht (fun h9 => kt (iff9.mp h9) p l e s m args below meth c Q D cs A C ad H locs lsA hH (g_V_st hV (g_tl hV.2.2)) hF) (fun h9 => kf (fun e9 => h9 (iff9.mpr e9)) p l e s m args below meth c Q D cs A C ad H locs lsA hH (g_V_st hV (g_tl hV.2.2)) hF)
theorem ev_if_gt_t {x : Int} {off : Int} {tgt : Nat} (h : decode Me.2.1 pc = .ok (.ifCond .gt off, 3)) (ht : (pc : Int) + off = (tgt : Int)) (hc : 0 < x) (k : Ev Me R Fi tgt ls st L M nc ns) : Ev Me R Fi pc ls (g_i x :: st) L M nc ns :=
  ev_if_gt h ht rfl (fun _ => k) (fun h9 => absurd hc h9)
theorem ev_if_gt_f {x : Int} {off : Int} {tgt : Nat} (h : decode Me.2.1 pc = .ok (.ifCond .gt off, 3)) (ht : (pc : Int) + off = (tgt : Int)) (hq : pc + 3 = q) (hc : ¬ 0 < x) (k : Ev Me R Fi q ls st L M nc ns) : Ev Me R Fi pc ls (g_i x :: st) L M nc ns :=
  ev_if_gt h ht hq (fun h9 => absurd h9 hc) (fun _ => k)

theorem ev_icmp_le {x y : Int} {off : Int} {tgt : Nat} (h : decode Me.2.1 pc = .ok (.if_icmp .le off, 3)) (ht : (pc : Int) + off = (tgt : Int)) (hq : pc + 3 = q) (kt : x ≤ y → Ev Me R Fi tgt ls st L M nc ns) (kf : ¬ x ≤ y → Ev Me R Fi q ls st L M nc ns) : Ev Me R Fi pc ls (g_i y :: g_i x :: st) L M nc ns := by
  subst hq
  intro p l e s m args below meth c Q D cs A C ad H locs lsA hH hV hF
  have hx : g_rg x := g_hd (g_tl hV.2.2)
  have hy : g_rg y := g_hd hV.2.2
  have iff9 : Int32.ofInt x ≤ Int32.ofInt y ↔ x ≤ y := g_leI (x := x) (y := y) hx hy
  exact lv_icmp_le C.1.1 C.1.2.1 h ht (fun h9 => kt (iff9.mp h9) p l e s m args below meth c Q D cs A C ad H locs lsA hH (g_V_st hV (g_tl (g_tl hV.2.2))) hF) (fun h9 => kf (fun e9 => h9 (iff9.mpr e9)) p l e s m args below meth c Q D cs A C ad H locs lsA hH (g_V_st hV (g_tl (g_tl hV.2.2))) hF)
theorem ev_icmp_le_t {x y : Int} {off : Int} {tgt : Nat} (h : decode Me.2.1 pc = .ok (.if_icmp .le off, 3)) (ht : (pc : Int) + off = (tgt : Int)) (hc : x ≤ y) (k : Ev Me R Fi tgt ls st L M nc ns) : Ev Me R Fi pc ls (g_i y :: g_i x :: st) L M nc ns :=
  ev_icmp_le h ht rfl (fun _ => k) (fun h9 => absurd hc h9)
theorem ev_icmp_le_f {x y : Int} {off : Int} {tgt : Nat} (h : decode Me.2.1 pc = .ok (.if_icmp .le off, 3)) (ht : (pc : Int) + off = (tgt : Int)) (hq : pc + 3 = q) (hc : ¬ x ≤ y) (k : Ev Me R Fi q ls st L M nc ns) : Ev Me R Fi pc ls (g_i y :: g_i x :: st) L M nc ns :=
  ev_icmp_le h ht hq (fun h9 => absurd h9 hc) (fun _ => k)

theorem ev_if_le {x : Int} {off : Int} {tgt : Nat} (h : decode Me.2.1 pc = .ok (.ifCond .le off, 3)) (ht : (pc : Int) + off = (tgt : Int)) (hq : pc + 3 = q) (kt : x ≤ 0 → Ev Me R Fi tgt ls st L M nc ns) (kf : ¬ x ≤ 0 → Ev Me R Fi q ls st L M nc ns) : Ev Me R Fi pc ls (g_i x :: st) L M nc ns := by
  subst hq
  intro p l e s m args below meth c Q D cs A C ad H locs lsA hH hV hF
  have hx : g_rg x := g_hd hV.2.2
  have iff9 : Int32.ofInt x ≤ 0 ↔ x ≤ 0 := g_leI (x := x) (y := 0) hx g_rg0
  exact lv_if_le C.1.1 C.1.2.1 h ht (fun h9 => kt (iff9.mp h9) p l e s m args below meth c Q D cs A C ad H locs lsA hH (g_V_st hV (g_tl hV.2.2)) hF) (fun h9 => kf (fun e9 => h9 (iff9.mpr e9)) p l e s m args below meth c Q D cs A C ad H locs lsA hH (g_V_st hV (g_tl hV.2.2)) hF)
theorem ev_if_le_t {x : Int} {off : Int} {tgt : Nat} (h : decode Me.2.1 pc = .ok (.ifCond .le off, 3)) (ht : (pc : Int) + off = (tgt : Int)) (hc : x ≤ 0) (k : Ev Me R Fi tgt ls st L M nc ns) : Ev Me R Fi pc ls (g_i x :: st) L M nc ns :=
  ev_if_le h ht rfl (fun _ => k) (fun h9 => absurd hc h9)
theorem ev_if_le_f {x : Int} {off : Int} {tgt : Nat} (h : decode Me.2.1 pc = .ok (.ifCond .le off, 3)) (ht : (pc : Int) + off = (tgt : Int)) (hq : pc + 3 = q) (hc : ¬ x ≤ 0) (k : Ev Me R Fi q ls st L M nc ns) : Ev Me R Fi pc ls (g_i x :: st) L M nc ns :=
  ev_if_le h ht hq (fun h9 => absurd h9 hc) (fun _ => k)

theorem ev_goto {off : Int} {tgt : Nat} (h : decode Me.2.1 pc = .ok (.goto off, 3)) (ht : (pc : Int) + off = (tgt : Int)) (k : Ev Me R Fi tgt ls st L M nc ns) : Ev Me R Fi pc ls st L M nc ns := by
  intro p l e s m args below meth c Q D cs A C ad H locs lsA hH hV hF
  exact lv_goto C.1.1 C.1.2.1 h ht (k p l e s m args below meth c Q D cs A C ad H locs lsA hH hV hF)
end GEN2
end
section
section GEN3
variable {Me : g_Me} {R : Room} {Fi : g_Fin} {pc q : Nat} {ls : g_Ls} {st : List g_v} {L : g_L} {M : g_M} {nc ns : Nat}
/-- a field of a method's pool: class number, place, and the words -/
def g_Fl (own : String) (idx ci i : Nat) (C : String) (T : u_T) (N : Nat) : Prop := vwCl[ci]? = some (C, T, N) ∧ i < N ∧ (∀ w ∈ u_ws C T N, w ∈ gw) ∧ Cond.fieldLink own idx (T i).1 (T i).2.1 (T i).2.2.1 ∈ gw
def g_Fp (T : u_T) (N i : Nat) (ty : FieldType) (fin : Bool) : Prop := (∃ ty0 : Nat → FieldType, ∀ k, k < N → parseFieldDescriptor (T k).2.2.1 = some (ty0 k)) ∧ (∀ a, a < N → ∀ b, b < N → a ≠ b → (T a).2.1 ≠ (T b).2.1) ∧ (T i).2.2.2 = fin ∧ parseFieldDescriptor (T i).2.2.1 = some ty
theorem ev_getI {k i ci idx N : Nat} {C : String} {T : u_T} {fs : List g_F} {z : Int} (h : decode Me.2.1 pc = .ok (.getfield idx, 3)) (hq : pc + 3 = q) (lk : g_Fl Me.1 idx ci i C T N) (hL : L[k]? = some (.inr (ci, fs))) (hf : fs[i]? = some none) (hz : M k i = z) (kk : Ev Me R Fi q ls (g_i z :: st) L M nc ns) : Ev Me R Fi pc ls (g_r k :: st) L M nc ns := by
  subst hq
  subst hz
  intro p l e s m args below meth c Q D cs A C0 ad H locs lsA hH hV hF
  refine va_get (D := D) (v := .int (Int32.ofInt (M k i))) C0.1.1 C0.1.2.1 C0.1.2.2.2.2 lk.2.2.1 C0.1.2.2.2.1 C0.2.2.2.1.1 hH.1 k (g_W_at hL) lk.1 i lk.2.1 (C0.1.2.2.2.2 _ lk.2.2.2) (fun _ h9 => h9) (by simp [List.getElem?_mapIdx, hf, g_fld]) h ?_
  exact kk p l e s m args below meth c Q D cs A C0 ad H locs lsA hH (g_V_st hV (g_st1 (hH.2.2.2.1 k i) (g_tl hV.2.2))) hF
theorem ev_getR {k i j ci idx N : Nat} {C : String} {T : u_T} {fs : List g_F} (h : decode Me.2.1 pc = .ok (.getfield idx, 3)) (hq : pc + 3 = q) (lk : g_Fl Me.1 idx ci i C T N) (hL : L[k]? = some (.inr (ci, fs))) (hf : fs[i]? = some (some (some j))) (kk : Ev Me R Fi q ls (g_r j :: st) L M nc ns) : Ev Me R Fi pc ls (g_r k :: st) L M nc ns := by
  subst hq
  intro p l e s m args below meth c Q D cs A C0 ad H locs lsA hH hV hF
  refine va_get (D := D) (v := .ref (ad j)) C0.1.1 C0.1.2.1 C0.1.2.2.2.2 lk.2.2.1 C0.1.2.2.2.1 C0.2.2.2.1.1 hH.1 k (g_W_at hL) lk.1 i lk.2.1 (C0.1.2.2.2.2 _ lk.2.2.2) (fun _ h9 => h9) (by simp [List.getElem?_mapIdx, hf, g_fld]) h ?_
  exact kk p l e s m args below meth c Q D cs A C0 ad H locs lsA hH (g_V_st hV (g_st1 (v := g_r j) (hH.2.2.2.2 k ci fs i j hL hf) (g_tl hV.2.2))) hF
theorem g_fs_set {ad : Nat → Nat} {f : Nat → Int} {fs : List g_F} {i : Nat} {z : Int} (hf : fs[i]? = some none) : (fs.mapIdx (g_fld ad f)).set i (.int (Int32.ofInt z)) = fs.mapIdx (g_fld ad (fun b => if b = i then z else f b)) := by
  apply List.ext_getElem?
  intro j
  have hi : i < fs.length := (List.getElem?_eq_some_iff.mp hf).1
  by_cases hj : j = i
  · subst hj
    rw [List.getElem?_set_self (by simpa using hi)]
    simp [List.getElem?_mapIdx, hf, g_fld]
  · rw [List.getElem?_set_ne (Ne.symm hj)]
    simp only [List.getElem?_mapIdx]
    cases fs[j]? with
    | none => rfl
    | some x =>
      rcases x with _ | _ | x
      · simp [g_fld, hj]
      · rfl
      · rfl
theorem g_up_k (M : g_M) (k i : Nat) (z : Int) : g_up M k i z k = fun b => if b = i then z else M k b := by
  funext b
  simp [g_up]
theorem g_W_put {cs : g_cs} {ad : Nat → Nat} {k i ci : Nat} {fs : List g_F} {z : Int} (hL : L[k]? = some (.inr (ci, fs))) (hf : fs[i]? = some none) :
    (g_W cs ad L M).set k (ad k, .inr (ci, (fs.mapIdx (g_fld ad (M k))).set i (.int (Int32.ofInt z)))) = g_W cs ad L (g_up M k i z) := by
  rw [← g_W_set hL (fun a ha => g_upN (i := i) (z := z) ha), g_fs_set hf, ← g_up_k]
  rfl
theorem ev_putI {k i ci idx N : Nat} {C : String} {T : u_T} {fs : List g_F} {z : Int} {ty : FieldType} (h : decode Me.2.1 pc = .ok (.putfield idx, 3)) (hq : pc + 3 = q) (lk : g_Fl Me.1 idx ci i C T N) (pf : g_Fp T N i ty false) (hz : ty = .int ∨ (ty = .boolean ∧ (z = 0 ∨ z = 1))) (hL : L[k]? = some (.inr (ci, fs))) (hf : fs[i]? = some none) (kk : Ev Me R Fi q ls st L (g_up M k i z) nc ns) : Ev Me R Fi pc ls (g_i z :: g_r k :: st) L M nc ns := by
  subst hq
  intro p l e s m args below meth c Q D cs A C0 ad H locs lsA hH hV hF
  obtain ⟨⟨ty0, h0⟩, hnm, hfin, hd⟩ := pf
  have hi : i < fs.length := (List.getElem?_eq_some_iff.mp hf).1
  have hnf : narrow ty (.int (Int32.ofInt z)) = .int (Int32.ofInt z) ∧ fits ty (.int (Int32.ofInt z)) = true := by
    rcases hz with rfl | ⟨rfl, rfl | rfl⟩
    · exact ⟨rfl, rfl⟩
    · exact ⟨by decide +kernel, by decide +kernel⟩
    · exact ⟨by decide +kernel, by decide +kernel⟩
  refine va_put (D := D) (v := .int (Int32.ofInt z)) (ty := ty) C0.1.1 C0.1.2.1 C0.1.2.2.2.2 lk.2.2.1 ty0 h0 hnm C0.1.2.2.2.1 C0.2.2.2.1.1 hH.1 hH.2.1 hH.2.2.1 k (g_W_at hL) lk.1 i lk.2.1 (C0.1.2.2.2.2 _ lk.2.2.2) (fun _ h9 => h9) hfin hd hnf.1 hnf.2 (by simpa using hi) h ?_
  intro H1 locs1 a1 a2 a3
  rw [g_W_put hL hf] at a1 a2
  exact kk p l e s m args below meth c Q D cs A C0 ad H1 locs1 lsA ⟨a1, a2, a3, g_up_rg hH.2.2.2.1 (g_hd hV.2.2), hH.2.2.2.2⟩ (g_V_st hV (g_tl (g_tl hV.2.2))) hF
theorem ev_iaload {k n : Nat} {x z : Int} (h : decode Me.2.1 pc = .ok (.iaload, 1)) (hq : pc + 1 = q) (hL : L[k]? = some (.inl (0, n))) (h0 : 0 ≤ x) (hn : x < n) (hz : M k x.toNat = z) (kk : Ev Me R Fi q ls (g_i z :: st) L M nc ns) : Ev Me R Fi pc ls (g_i x :: g_r k :: st) L M nc ns := by
  subst hq
  subst hz
  intro p l e s m args below meth c Q D cs A C0 ad H locs lsA hH hV hF
  have hx : g_rg x := g_hd hV.2.2
  refine va_iald (D := D) C0.1.1 C0.1.2.1 C0.2.2.2.1.1 hH.1 k 0 (g_W_at hL) rfl (g_in hx h0 hn) h ?_
  rw [g_cl hx h0]
  exact kk p l e s m args below meth c Q D cs A C0 ad H locs lsA hH (g_V_st hV (g_st1 (hH.2.2.2.1 k x.toNat) (g_tl (g_tl hV.2.2)))) hF
theorem ev_baload {k n : Nat} {x z : Int} (h : decode Me.2.1 pc = .ok (.baload, 1)) (hq : pc + 1 = q) (hL : L[k]? = some (.inl (1, n))) (h0 : 0 ≤ x) (hn : x < n) (hz : M k x.toNat = z) (kk : Ev Me R Fi q ls (g_i z :: st) L M nc ns) : Ev Me R Fi pc ls (g_i x :: g_r k :: st) L M nc ns := by
  subst hq
  subst hz
  intro p l e s m args below meth c Q D cs A C0 ad H locs lsA hH hV hF
  have hx : g_rg x := g_hd hV.2.2
  refine va_zald (D := D) C0.1.1 C0.1.2.1 C0.2.2.2.1.1 hH.1 k 1 (g_W_at hL) rfl (g_in hx h0 hn) h ?_
  rw [g_cl hx h0]
  exact kk p l e s m args below meth c Q D cs A C0 ad H locs lsA hH (g_V_st hV (g_st1 (hH.2.2.2.1 k x.toNat) (g_tl (g_tl hV.2.2)))) hF
theorem g_updI (f : Nat → Int) (i : Nat) (z : Int) : upd (fun j => Int32.ofInt (f j)) i (Int32.ofInt z) = fun j => Int32.ofInt (if j = i then z else f j) := by
  funext j
  unfold upd
  split <;> rfl
theorem ev_iastore {k n : Nat} {x z : Int} (h : decode Me.2.1 pc = .ok (.iastore, 1)) (hq : pc + 1 = q) (hL : L[k]? = some (.inl (0, n))) (h0 : 0 ≤ x) (hn : x < n) (kk : Ev Me R Fi q ls st L (g_up M k x.toNat z) nc ns) : Ev Me R Fi pc ls (g_i z :: g_i x :: g_r k :: st) L M nc ns := by
  subst hq
  intro p l e s m args below meth c Q D cs A C0 ad H locs lsA hH hV hF
  have hx : g_rg x := g_hd (g_tl hV.2.2)
  refine va_iast (D := D) C0.1.1 C0.1.2.1 C0.2.2.2.1.1 hH.1 hH.2.1 hH.2.2.1 k 0 (g_W_at hL) rfl (g_in hx h0 hn) h ?_
  intro H1 locs1 a1 a2 a3
  rw [g_cl hx h0, g_updI] at a1 a2
  have e9 : (g_W cs ad L M).set k (ad k, .inl (cs.1, n, .inl (fun j => Int32.ofInt (if j = x.toNat then z else M k j)))) = g_W cs ad L (g_up M k x.toNat z) := by
    rw [← g_W_set hL (fun a ha => g_upN (i := x.toNat) (z := z) ha)]
    simp only [g_ent, g_arr, g_up_k]
  rw [e9] at a1 a2
  exact kk p l e s m args below meth c Q D cs A C0 ad H1 locs1 lsA ⟨a1, a2, a3, g_up_rg hH.2.2.2.1 (g_hd hV.2.2), hH.2.2.2.2⟩ (g_V_st hV (g_tl (g_tl (g_tl hV.2.2)))) hF
theorem ev_bastore {k n : Nat} {x z : Int} (h : decode Me.2.1 pc = .ok (.bastore, 1)) (hq : pc + 1 = q) (hL : L[k]? = some (.inl (1, n))) (h0 : 0 ≤ x) (hn : x < n) (hz : z = 0 ∨ z = 1) (kk : Ev Me R Fi q ls st L (g_up M k x.toNat z) nc ns) : Ev Me R Fi pc ls (g_i z :: g_i x :: g_r k :: st) L M nc ns := by
  subst hq
  intro p l e s m args below meth c Q D cs A C0 ad H locs lsA hH hV hF
  have hx : g_rg x := g_hd (g_tl hV.2.2)
  have hzz : vp_nar .boolean (Int32.ofInt z) = Int32.ofInt z := by
    rcases hz with rfl | rfl
    · decide +kernel
    · decide +kernel
  refine va_zast (D := D) C0.1.1 C0.1.2.1 C0.2.2.2.1.1 hH.1 hH.2.1 hH.2.2.1 k 1 (g_W_at hL) rfl (g_in hx h0 hn) h ?_
  intro H1 locs1 a1 a2 a3
  rw [hzz, g_cl hx h0, g_updI] at a1 a2
  have e9 : (g_W cs ad L M).set k (ad k, .inl (cs.2.1, n, .inl (fun j => Int32.ofInt (if j = x.toNat then z else M k j)))) = g_W cs ad L (g_up M k x.toNat z) := by
    rw [← g_W_set hL (fun a ha => g_upN (i := x.toNat) (z := z) ha)]
    simp only [g_ent, g_arr, g_up_k]
  rw [e9] at a1 a2
  exact kk p l e s m args below meth c Q D cs A C0 ad H1 locs1 lsA ⟨a1, a2, a3, g_up_rg hH.2.2.2.1 (g_hd hV.2.2), hH.2.2.2.2⟩ (g_V_st hV (g_tl (g_tl (g_tl hV.2.2)))) hF
/-! contracts -/
def g_Pre (D : va_G) (cs : g_cs) (ad : Nat → Nat) (L : g_L) (M : g_M) (av : List g_v) (sz : Nat) : Array Value → State → Prop :=
  va_Pc (av.map (g_val ad)) (fun U => U.heap.size = sz ∧ va_P D vwCl (g_W cs ad L M) U.heap ∧ g_K D cs U ∧ va_D (fun _ => True) (g_W cs ad L M) ∧ x_Z (va_A (g_W cs ad L M) sz) U U.heap)
def g_Post (D : va_G) (cs : g_cs) (A : Nat → Prop) (ad : Nat → Nat) (n0 : Nat) (L' : g_L) (M' : g_M) (r : Option g_v) : Array Value → State → Outcome → State → Prop := fun _ st oc t =>
  (∃ ad' : Nat → Nat, (∀ k, k < n0 → ad' k = ad k) ∧ n0 ≤ L'.length ∧ oc = .returned (r.map (g_val ad')) ∧ va_P D vwCl (g_W cs ad' L' M') t.heap ∧ va_D A (g_W cs ad' L' M') ∧ (∀ k j, g_rg (M' k j)) ∧ g_wf L' ∧ ∀ v, r = some v → g_ok L'.length v) ∧ va_F A st t
/-- y, called with the values av in the memory M, comes back with r and the memory M' -/
def Con (y : MethodName) (ws : List Cond) (rm : Room) (L : g_L) (M : g_M) (av : List g_v) (L' : g_L) (M' : g_M) (r : Option g_v) : Prop :=
  (∀ k j, g_rg (M k j)) → g_wf L → (∀ v ∈ av, g_okl L.length v) → ∀ (l : Launch) (D : va_G) (cs : g_cs) (ad : Nat → Nat) (sz : Nat),
    Met l y ws rm (g_Pre D cs ad L M av sz) (g_Post D cs (va_A (g_W cs ad L M) sz) ad L.length L' M' r) rm.cells rm.slots (va_A (g_W cs ad L M) sz)
theorem g_blind {D : va_G} {cs : g_cs} {ad : Nat → Nat} {av : List g_v} {sz : Nat} : FrameBlind (g_Pre D cs ad L M av sz) := by
  intro a U g mk h
  obtain ⟨q0, q1, qP, qK, qD, qZ⟩ := h
  exact ⟨q0, q1, qP, ⟨va_K.moved (u := U) (U := U.calling g mk a) (Vm.Alike.refl U.vm) qK.1, fun w hw => va_Nw.same (u := U) (U := U.calling g mk a) rfl rfl (qK.2.1 w hw), x_N.same (u := U) (U := U.calling g mk a) rfl qK.2.2⟩, qD, x_Z.moved (u := U) (U := U.calling g mk a) (Vm.Alike.refl U.vm) qZ⟩
def g_cw (v : g_v) : Nat := if g_nj v = true then 1 else 2
theorem g_cw_sum (ad : Nat → Nat) (st : List g_v) : ((st.map (g_val ad)).map fun v => v.category).sum = (st.map g_cw).sum := by
  congr 1
  rw [List.map_map]
  refine List.map_congr_left fun v _ => ?_
  rcases v with z | k | z | a <;> rfl
/-- behind a call -/
theorem g_call {p : Program} {l : Launch} {e : Env} {s : State} {m : MethodId} {args : Array Value} {below : List Frame} {meth : Method} {c : Code} {H : Heap} {locs : List Loc} {cells slots : Nat} {Q : State → Prop}
    {lsA : Array Slot} {rest st0 : List Value} {a : Array Value} {A0 A1 : Nat → Prop} {H0 : Heap} {mc ms : Nat} {free : Addr → Prop} {D : va_G} {cs : g_cs} {ad : Nat → Nat} {n0 : Nat} {L' : g_L} {M' : g_M} {r : Option g_v}
    (hr : va_Run p l e R s m args below meth c H locs cells slots mc ms (F0 m pc lsA st0) rest (g_Post D cs A1 ad n0 L' M' r a) free) (hS : va_S A0 H0 H locs) (hA : ∀ q, q < H.size → A1 q → A0 q) (hf : ∀ q, free q → A0 q)
    (kk : ∀ (ad' : Nat → Nat) (H1 : Heap) (locs1 : List Loc), (∀ k, k < n0 → ad' k = ad k) → n0 ≤ L'.length → va_P D vwCl (g_W cs ad' L' M') H1 → va_D A1 (g_W cs ad' L' M') → (∀ k j, g_rg (M' k j)) → g_wf L' → (∀ v, r = some v → g_ok L'.length v) → va_S A0 H0 H1 locs1 →
      W p l e R s m args below meth c H1 locs1 (cells + mc) (slots + ms) Q (F0 m (pc + 3) lsA ((r.map (g_val ad')).toList ++ rest))) : W p l e R s m args below meth c H locs cells slots Q (F0 m pc lsA st0) := by
  intro T hT X
  obtain ⟨v, st₀, t, T', Lo, h0, X', hL, e1, e2, ⟨⟨ad', a1, a2, a3, a4, a6, a7, a8, a9⟩, hz, hk⟩, st9⟩ := hr T hT X
  have a3 := Outcome.returned.inj a3
  subst a3
  rw [h0] at hz hk
  obtain ⟨t2, b1, b2⟩ := kk ad' T'.heap (locs ++ Lo) a1 a2 (by rw [e1]; exact a4) a6 a7 a8 a9
    ⟨Nat.le_trans hS.1 (by rw [e1]; exact hz), fun q h1 h2 => by rw [e1, hk q (Nat.lt_of_lt_of_le h1 hS.1) (fun z => h2 (hA q (Nat.lt_of_lt_of_le h1 hS.1) z))]; exact hS.2.1 q h1 h2, fun q hq => by
      rcases List.mem_append.mp hq with h | h
      · exact hS.2.2 q h
      · exact hf _ (hL q h)⟩ T' rfl X'
  exact ⟨t2, st9 t2 b1, b2⟩
theorem g_A1 {D : va_G} {cs : g_cs} {ad : Nat → Nat} {A : Nat → Prop} {H0 H : Heap} {locs : List Loc} (hH : g_H D cs A H0 ad L M H locs) (hA : ∀ q, H0.size ≤ q → A q) : ∀ x, va_A (g_W cs ad L M) H.size x → A x := by
  intro x h
  rcases h with ⟨k, e, h⟩ | h
  · exact hH.2.1.2 k (x, e) h
  · exact hA x (Nat.le_trans hH.2.2.1.1 h)
/-- the end of every call's row -/
theorem g_callE {p : Program} {l : Launch} {e : Env} {s : State} {m : MethodId} {args : Array Value} {below : List Frame} {meth : Method} {c : Code} {H : Heap} {locs : List Loc} {Q : State → Prop}
    {lsA : Array Slot} {st0 : List g_v} {a : Array Value} {A : Nat → Prop} {mc ms : Nat} {D : va_G} {cs : g_cs} {ad : Nat → Nat} {L' : g_L} {M' : g_M} {r : Option g_v} {av : List g_v}
    (C0 : g_Cx Me p l s m args meth c D cs A) (hH : g_H D cs A s.heap ad L M H locs) (hV : g_V ad L.length Me.2.2.1 lsA ls st0) (hs : st0 = av.reverse ++ st)
    (hF : ∀ (pc' : Nat) (ls' : g_Ls) (st' : List g_v) (L' : g_L) (M' : g_M) (nc' ns' : Nat) (ad' : Nat → Nat) (H' : Heap) (locs' : List Loc) (lsA' : Array Slot), Fi pc' ls' st' L' M' nc' ns' → (∀ k, k < L.length → ad' k = ad k) → L.length ≤ L'.length → g_H D cs A s.heap ad' L' M' H' locs' → g_V ad' L'.length Me.2.2.1 lsA' ls' st' → W p l e R s m args below meth c H' locs' nc' ns' Q (F0 m pc' lsA' (st'.map (g_val ad'))))
    (kk : Ev Me R Fi (pc + 3) ls (r.toList ++ st) L' M' (nc + mc) (ns + ms))
    (hr : va_Run p l e R s m args below meth c H locs nc ns mc ms (F0 m pc lsA (st0.map (g_val ad))) (st.map (g_val ad)) (g_Post D cs (va_A (g_W cs ad L M) H.size) ad L.length L' M' r a) (va_A (g_W cs ad L M) H.size)) :
    W p l e R s m args below meth c H locs nc ns Q (F0 m pc lsA (st0.map (g_val ad))) := by
  have hA1 := g_A1 hH C0.2.2.2.2.1
  refine g_call hr hH.2.2.1 (fun x _ h => hA1 x h) hA1 ?_
  intro ad' H1 locs1 b1 b2 b3 b4 b5 b6 b7 b8
  have hst : ∀ v ∈ st, g_ok L.length v := fun v hv => hV.2.2 v (by rw [hs]; exact List.mem_append_right _ hv)
  have h9 := kk p l e s m args below meth c Q D cs A C0 ad' H1 locs1 lsA ⟨b3, b4.weaken (fun _ x _ h => hA1 x.1 h), b8, b5, b6⟩
    ⟨⟨hV.1.1, hV.1.2.1, fun i v hi => by rw [g_val_ad (g_okl_ok (hV.2.1 i v hi)) b1]; exact hV.1.2.2 i v hi⟩, fun i v hi => g_okl_le (hV.2.1 i v hi) b2, fun v hv => by
      rcases List.mem_append.mp hv with h | h
      · exact b7 v (by simpa using h)
      · exact g_ok_le (hst v h) b2⟩
    (fun pc' ls' st' L2 M2 nc' ns' ad2 H' locs' lsA' f1 f2 f3 f4 f5 => hF pc' ls' st' L2 M2 nc' ns' ad2 H' locs' lsA' f1 (fun k hk => (f2 k (Nat.lt_of_lt_of_le hk b2)).trans (b1 k hk)) (Nat.le_trans b2 f3) f4 f5)
  rw [List.map_append, g_map_ad hst b1] at h9
  have e9 : (r.map (g_val ad')).toList = r.toList.map (g_val ad') := by cases r <;> rfl
  rw [e9]
  exact h9
end GEN3
end
section
section GEN4
variable {Me : g_Me} {R : Room} {Fi : g_Fin} {pc q : Nat} {ls : g_Ls} {st : List g_v} {L : g_L} {M : g_M} {nc ns : Nat}
abbrev g_nm (y : MethodName) : Prop := y.cls ≠ "java/lang/invoke/MethodHandle" ∧ y.cls ≠ "java/lang/invoke/VarHandle"
/-- a call of a method of the receiver's own class: its words -/
def g_CV (own : String) (idx : Nat) (y : MethodName) (ws : List Cond) (n maxL ci : Nat) : Prop :=
  (∃ (bytes : ByteArray) (ret : Option FieldType) (ws' : List Cond), ws = Cond.code y bytes maxL ret :: ws') ∧ GoodIn gw (wsV own idx y.cls y ws) ∧ (y.cls ≠ "java/lang/invoke/MethodHandle" ∧ y.cls ≠ "java/lang/invoke/VarHandle" ∧ (parseMethodDescriptor y.desc).map (fun d => d.parameters.length) = some n) ∧ ∃ (T : u_T) (N : Nat), vwCl[ci]? = some (y.cls, T, N)
def g_CS (own : String) (idx : Nat) (y : MethodName) (ws : List Cond) (n maxL : Nat) : Prop :=
  (∃ (bytes : ByteArray) (ret : Option FieldType) (ws' : List Cond), ws = Cond.code y bytes maxL ret :: ws') ∧ GoodIn gw ws ∧ (y.cls ≠ "java/lang/invoke/MethodHandle" ∧ y.cls ≠ "java/lang/invoke/VarHandle" ∧ (parseMethodDescriptor y.desc).map (fun d => d.parameters.length) = some n) ∧ Cond.static y ∈ gw ∧ Cond.initialized y.cls ∈ gw ∧ Cond.methodLink own idx y ∈ gw
theorem g_preC {s : State} {H : Heap} {locs : List Loc} {D : va_G} {cs : g_cs} {ad : Nat → Nat} {A : Nat → Prop} {av : List g_v} (hK : g_K D cs s) (hZ : x_Z A s s.heap) (hA : ∀ q, s.heap.size ≤ q → A q) (hH : g_H D cs A s.heap ad L M H locs) : ∀ U : State, U.heap = H → s.WarmedH U.vm → g_Pre D cs ad L M av H.size (av.map (g_val ad)).toArray U :=
  fun U hU hW => ⟨rfl, by rw [hU], by rw [hU]; exact hH.1, g_K.moved hW hK, hH.2.1.weaken (fun _ _ _ _ => trivial), by rw [hU]; exact ((hZ.kept hH.2.2.1.2.1).moved hW.alike).narrow (g_A1 hH hA)⟩
theorem ev_callV {idx maxL ci k : Nat} {y : MethodName} {ws : List Cond} {rm : Room} {fsr : List g_F} {As st0 : List g_v} {L' : g_L} {M' : g_M} {r : Option g_v} {nc' ns' : Nat} (h : decode Me.2.1 pc = .ok (.invokevirtual idx, 3)) (hq : pc + 3 = q) (hC : g_CV Me.1 idx y ws As.length maxL ci) (hM : Con y ws rm L M (g_r k :: As) L' M' r)
    (hR : rm.frames + 1 ≤ R.frames ∧ 8 + (maxL + 11) + rm.locals ≤ R.locals) (hcs : nc + rm.cells ≤ R.cells ∧ ns + rm.slots ≤ R.slots) (hk : L[k]? = some (.inr (ci, fsr))) (hnj : As.all g_nj = true) (hs : st0 = (g_r k :: As).reverse ++ st) (hst : (st.map g_cw).sum ≤ 8) (hnc : nc + rm.cells = nc') (hns : ns + rm.slots = ns')
    (kk : Ev Me R Fi q ls (r.toList ++ st) L' M' nc' ns') : Ev Me R Fi pc ls st0 L M nc ns := by
  subst hq
  subst hnc
  subst hns
  intro p l e s m args below meth c Q D cs A C0 ad H locs lsA hH hV hF
  obtain ⟨⟨bytes, ret, ws', hw⟩, hG, hd, T, N, hc⟩ := hC
  have hav : ∀ v ∈ g_r k :: As, g_okl L.length v := by
    intro v hv
    refine g_nj_okl ?_ (hV.2.2 v (by rw [hs]; exact List.mem_append_left _ (List.mem_reverse.mpr hv)))
    rcases List.mem_cons.mp hv with rfl | hv
    · rfl
    · exact List.all_eq_true.mp hnj v hv
  have hrun := va_runV (b := ad k) (As := As.map (g_val ad)) (rest := st.map (g_val ad)) (g := F0 m pc lsA (st0.map (g_val ad))) (H := H) (e := e) (below := below) (meth := meth) (locs := locs) (cells := nc) (slots := ns) C0.1 (hM hH.2.2.2.1 hH.2.2.2.2 hav l D cs ad H.size)
    (cwV As.length C0.1.2.2.2.2 hG hw rfl rfl ⟨rfl, hd⟩ hR) ⟨g_blind, va_recv C0.2.2.2.1.1 hH.1 hc (g_W_at hk), fun U hU hW => g_preC (av := g_r k :: As) C0.2.2.2.1 C0.2.2.2.2.2.1.1 C0.2.2.2.2.1 hH U hU hW⟩ rfl (by simp) hV.1.1 (by rw [hs]; simp [g_val]) (lv_room (by rw [g_cw_sum]; exact hst)) h hcs
  exact g_callE C0 hH hV hs hF kk hrun
theorem ev_callS {idx maxL : Nat} {y : MethodName} {ws : List Cond} {rm : Room} {As st0 : List g_v} {L' : g_L} {M' : g_M} {r : Option g_v} {nc' ns' : Nat} (h : decode Me.2.1 pc = .ok (.invokestatic idx, 3)) (hq : pc + 3 = q) (hC : g_CS Me.1 idx y ws As.length maxL) (hM : Con y ws rm L M As L' M' r)
    (hR : rm.frames + 1 ≤ R.frames ∧ 8 + (maxL + 11) + rm.locals ≤ R.locals) (hcs : nc + rm.cells ≤ R.cells ∧ ns + rm.slots ≤ R.slots) (hnj : As.all g_nj = true) (hs : st0 = As.reverse ++ st) (hst : (st.map g_cw).sum ≤ 8) (hnc : nc + rm.cells = nc') (hns : ns + rm.slots = ns')
    (kk : Ev Me R Fi q ls (r.toList ++ st) L' M' nc' ns') : Ev Me R Fi pc ls st0 L M nc ns := by
  subst hq
  subst hnc
  subst hns
  intro p l e s m args below meth c Q D cs A C0 ad H locs lsA hH hV hF
  obtain ⟨⟨bytes, ret, ws', hw⟩, hG, hd, h1, h2, h3⟩ := hC
  have hts := C0.1.2.2.2.2
  have hav : ∀ v ∈ As, g_okl L.length v := by
    intro v hv
    exact g_nj_okl (List.all_eq_true.mp hnj v hv) (hV.2.2 v (by rw [hs]; exact List.mem_append_left _ (List.mem_reverse.mpr hv)))
  have hrun := va_runS (As := As.map (g_val ad)) (rest := st.map (g_val ad)) (g := F0 m pc lsA (st0.map (g_val ad))) (H := H) (e := e) (below := below) (meth := meth) (locs := locs) (cells := nc) (slots := ns) C0.1 (hM hH.2.2.2.1 hH.2.2.2.2 hav l D cs ad H.size)
    ⟨callB_of As.length hts hG hw rfl rfl (hts _ h2) (hts _ h3) hd hR, hts _ h1⟩ ⟨g_blind, fun U hU hW => g_preC C0.2.2.2.1 C0.2.2.2.2.2.1.1 C0.2.2.2.2.1 hH U hU hW⟩ rfl (by simp) hV.1.1 (by rw [hs]; simp) (lv_room (by rw [g_cw_sum]; exact hst)) h hcs
  exact g_callE C0 hH hV hs hF kk hrun
/-- a static method of the nest -/
def g_CN (own : String) (idx : Nat) (y : MethodName) (ws : List Cond) (n maxL : Nat) : Prop :=
  (∃ (bytes : ByteArray) (ret : Option FieldType) (ws' : List Cond), ws = Cond.code y bytes maxL ret :: ws') ∧ GoodIn gw ws ∧ (y.cls ≠ "java/lang/invoke/MethodHandle" ∧ y.cls ≠ "java/lang/invoke/VarHandle" ∧ (parseMethodDescriptor y.desc).map (fun d => d.parameters.length) = some n) ∧ Cond.static y ∈ gw ∧ Cond.initialized y.cls ∈ gw ∧ ∃ host : String, (own, idx, y, host) ∈ g_nest
theorem ev_callN {idx maxL : Nat} {y : MethodName} {ws : List Cond} {rm : Room} {As st0 : List g_v} {L' : g_L} {M' : g_M} {r : Option g_v} {nc' ns' : Nat} (h : decode Me.2.1 pc = .ok (.invokestatic idx, 3)) (hq : pc + 3 = q) (hC : g_CN Me.1 idx y ws As.length maxL) (hM : Con y ws rm L M As L' M' r)
    (hR : rm.frames + 1 ≤ R.frames ∧ 8 + (maxL + 11) + rm.locals ≤ R.locals) (hcs : nc + rm.cells ≤ R.cells ∧ ns + rm.slots ≤ R.slots) (hnj : As.all g_nj = true) (hs : st0 = As.reverse ++ st) (hst : (st.map g_cw).sum ≤ 8) (hnc : nc + rm.cells = nc') (hns : ns + rm.slots = ns')
    (kk : Ev Me R Fi q ls (r.toList ++ st) L' M' nc' ns') : Ev Me R Fi pc ls st0 L M nc ns := by
  subst hq
  subst hnc
  subst hns
  intro p l e s m args below meth c Q D cs A C0 ad H locs lsA hH hV hF
  obtain ⟨⟨bytes, ret, ws', hw⟩, hG, hd, h1, h2, host, h3⟩ := hC
  have hts := C0.1.2.2.2.2
  have hav : ∀ v ∈ As, g_okl L.length v := by
    intro v hv
    exact g_nj_okl (List.all_eq_true.mp hnj v hv) (hV.2.2 v (by rw [hs]; exact List.mem_append_left _ (List.mem_reverse.mpr hv)))
  have hrun := va_runSN (As := As.map (g_val ad)) (rest := st.map (g_val ad)) (g := F0 m pc lsA (st0.map (g_val ad))) (H := H) (e := e) (below := below) (meth := meth) (locs := locs) (cells := nc) (slots := ns) C0.1 (hM hH.2.2.2.1 hH.2.2.2.2 hav l D cs ad H.size)
    ⟨va_cnB As.length hts hG hw rfl rfl (C0.2.2.2.1.2.1 _ h3) (hts _ h2) hd hR, hts _ h1, trivial⟩ ⟨g_blind, fun U hU hW => g_preC C0.2.2.2.1 C0.2.2.2.2.2.1.1 C0.2.2.2.2.1 hH U hU hW⟩ rfl (by simp) hV.1.1 (by rw [hs]; simp) (lv_room (by rw [g_cw_sum]; exact hst)) h hcs
  exact g_callE C0 hH hV hs hF kk hrun
theorem g_args {ad : Nat → Nat} {n : Nat} : ∀ (av : List g_v) (i0 i : Nat) (v : g_v), (∀ w ∈ av, g_okl n w) → av[i]? = some v → (i0 + i, g_val ad v) ∈ lv_args i0 (av.map (g_val ad))
  | [], _, _, _, _, h => by simp at h
  | a :: av, i0, i, v, ha, h => by
    simp only [List.map_cons, lv_args]
    cases i with
    | zero =>
      simp at h
      subst h
      exact List.mem_cons_self
    | succ i =>
      have hc : ¬ (g_val ad a).category = 2 := by rw [g_cat (ha a List.mem_cons_self)]; decide
      rw [if_neg hc]
      refine List.mem_cons_of_mem _ ?_
      have h1 := g_args (ad := ad) av (i0 + 1) i v (fun w hw => ha w (List.mem_cons_of_mem _ hw)) (by simpa using h)
      rwa [Nat.add_assoc, Nat.add_comm 1 i] at h1
theorem g_sl {ad : Nat → Nat} {n : Nat} : ∀ (av : List g_v), (∀ w ∈ av, g_okl n w) → (lg_sl (av.map (g_val ad))).length = av.length
  | [], _ => rfl
  | a :: av, h => by
    have hc : ¬ (g_val ad a).category = 2 := by rw [g_cat (h a List.mem_cons_self)]; decide
    have ih := g_sl (ad := ad) av (fun w hw => h w (List.mem_cons_of_mem _ hw))
    simp only [lg_sl, List.map_cons, List.flatMap_cons, List.length_append, List.length_cons] at ih ⊢
    rw [ih]
    simp [hc]
    omega
def g_fin (cc : ByteArray) (ret : Option FieldType) (mc ms : Nat) (L' : g_L) (M' : g_M) (r : Option g_v) : g_Fin := fun pc _ st L2 M2 nc ns => L2 = L' ∧ M2 = M' ∧ nc ≤ mc ∧ ns ≤ ms ∧ st = r.toList ∧ match r with
  | none => decode cc pc = .ok (.return_, 1) ∧ ret = none
  | some (.inl z) => decode cc pc = .ok (.ireturn, 1) ∧ (ret = some .int ∨ (ret = some .boolean ∧ (z = 0 ∨ z = 1)))
  | _ => False
theorem con_of {y : MethodName} {ws ws' : List Cond} {rm : Room} {bytes : ByteArray} {maxL : Nat} {ret : Option FieldType} {av : List g_v} {ls0 : g_Ls} {L' : g_L} {M' : g_M} {r : Option g_v} (hy : plainName y.cls = true) (hw : ws = Cond.code y bytes maxL ret :: ws') (hlen : av.length ≤ maxL) (hls : ∀ (i : Nat) (v : g_v), ls0[i]? = some (some v) → av[i]? = some v)
    (hgw : ∀ w ∈ gw, w ∈ ws) (hE : Ev (y.cls, bytes, maxL, ret, (fun _ _ _ _ => True), y.name) rm (g_fin bytes ret rm.cells rm.slots L' M' r) 0 ls0 [] L M 0 0) : Con y ws rm L M av L' M' r := by
  intro hRg hwf hav l D cs ad sz
  refine Met.ofW (cc := bytes) (maxL := maxL) (ret := ret) hy hw ?_
  intro p e s m args below meth c s₁ B hml hv
  obtain ⟨rfl, hsz, hP, hK, hD0, hZ0⟩ := hv
  subst hsz
  have hts := atoms_spec (ws := ws) B.pre
  have hown : s.vm.findClass y.cls = some m.cls := findClass_of_methodNamed B.named
  have hnm : meth.name = y.name := (name_of_methodNamed B.named B.method).1
  have hl := lv_entry (av.map (g_val ad)) (n := maxL) (by rw [g_sl av hav]; exact hlen)
  rw [lg_entry_eq]
  refine hE p l e s m _ below meth c _ D cs (va_A (g_W cs ad L M) s.heap.size) ⟨⟨B.exec, B.bytes, hml, hown, fun w hw => hts w (hgw w hw)⟩, B.returns, B.notSynchronized, hK, fun x h => Or.inr h, ⟨hZ0, x_no_of hP, trivial⟩, hnm⟩ ad s.heap [] _ ⟨hP, hD0.self, va_S.rf, hRg, hwf⟩ ⟨⟨hl.1, hl.2.1, fun i v hi => ?_⟩, fun i v hi => ?_, fun v hv => absurd hv List.not_mem_nil⟩ ?_
  · have h1 := g_args (ad := ad) av 0 i v hav (hls i v hi)
    rw [Nat.zero_add] at h1
    exact hl.2.2 _ h1
  · exact hav v (List.mem_of_getElem? (hls i v hi))
  · intro pc' ls' st' L2 M2 nc' ns' ad' H' locs' lsA' hf f2 f3 hH' hV'
    obtain ⟨rfl, rfl, n1, n2, rfl, hr⟩ := hf
    refine W.widen n1 n2 ?_
    have hpost : ∀ t : State, t.heap = H' → s.WarmedH t.vm → g_Post D cs (va_A (g_W cs ad L M) s.heap.size) ad L.length L2 M2 r (av.map (g_val ad)).toArray s (.returned (r.map (g_val ad'))) t :=
      fun t ht hW => ⟨⟨ad', f2, f3, rfl, by rw [ht]; exact hH'.1, hH'.2.1, hH'.2.2.2.1, hH'.2.2.2.2, fun v hv => hV'.2.2 v (by rw [hv]; exact List.mem_cons_self)⟩, hH'.2.2.1.F ht⟩
    rcases r with _ | z | k | z | a
    · exact W.vret B.exec B.bytes (B.returns.trans hr.2) hpost hH'.2.2.1.2.2 hr.1
    · obtain ⟨hr1, hr2 | ⟨hr2, hz⟩⟩ := hr
      · exact W.iret B.exec B.bytes (B.returns.trans hr2) hpost hH'.2.2.1.2.2 hr1
      · refine W.zret B.exec B.bytes (B.returns.trans hr2) ?_ hpost hH'.2.2.1.2.2 hr1
        rcases hz with rfl | rfl
        · decide +kernel
        · decide +kernel
    · exact absurd hr id
    · exact absurd hr id
    · exact absurd hr id
end GEN4
end
section
section GEN5
variable {Me : g_Me} {R : Room} {Fi : g_Fin} {pc q : Nat} {ls : g_Ls} {st : List g_v} {L : g_L} {M : g_M} {nc ns : Nat}
def g_clr (M : g_M) (k : Nat) : g_M := fun a b => if a = k then 0 else M a b
def g_ad (ad : Nat → Nat) (k x : Nat) : Nat → Nat := fun j => if j = k then x else ad j
theorem g_ad_lt {ad : Nat → Nat} {n x : Nat} : ∀ k, k < n → g_ad ad n x k = ad k := by
  intro k hk
  simp [g_ad, Nat.ne_of_lt hk]
theorem g_ad_eq {ad : Nat → Nat} {n x : Nat} : g_ad ad n x n = x := by simp [g_ad]
theorem g_clr_rg {M : g_M} {k : Nat} (h : ∀ k j, g_rg (M k j)) : ∀ a b, g_rg (g_clr M k a b) := by
  intro a b
  unfold g_clr
  split
  · exact g_rg0
  · exact h a b
theorem g_clr_k (M : g_M) (k : Nat) : g_clr M k k = fun _ => 0 := by
  funext b
  simp [g_clr]
theorem g_ent_ad {cs : g_cs} {ad ad' : Nat → Nat} {M' : g_M} {j : Nat} {c : g_C} (hwf : g_wf L) (hj : L[j]? = some c) (ha : ∀ k, k < L.length → ad' k = ad k) (hM : M' j = M j) : g_ent cs ad' M' j c = g_ent cs ad M j c := by
  have hl : j < L.length := (List.getElem?_eq_some_iff.mp hj).1
  rcases c with ⟨t, n⟩ | ⟨ci, fs⟩
  · simp only [g_ent, hM, ha j hl]
  · simp only [g_ent, hM, ha j hl]
    congr 3
    apply List.ext_getElem?
    intro i
    simp only [List.getElem?_mapIdx]
    cases hi : fs[i]? with
    | none => rfl
    | some x =>
      rcases x with _ | _ | x
      · rfl
      · rfl
      · simp only [Option.map_some, g_fld]
        rw [ha x (hwf j ci fs i x hj hi)]
theorem g_W_add {cs : g_cs} {ad : Nat → Nat} {x : Nat} {c : g_C} (hwf : g_wf L) : g_W cs (g_ad ad L.length x) (L ++ [c]) (g_clr M L.length) = g_W cs ad L M ++ [g_ent cs (g_ad ad L.length x) (g_clr M L.length) L.length c] := by
  apply List.ext_getElem?
  intro j
  have hlen : (g_W cs ad L M).length = L.length := by simp [g_W]
  rcases Nat.lt_trichotomy j L.length with hj | hj | hj
  · rw [List.getElem?_append_left (by omega)]
    obtain ⟨c0, hc0⟩ : ∃ c0, L[j]? = some c0 := ⟨L[j], List.getElem?_eq_getElem hj⟩
    rw [g_W_at (L := L ++ [c]) (c := c0) (by rw [List.getElem?_append_left hj]; exact hc0), g_W_at hc0]
    rw [g_ent_ad (M := M) hwf hc0 g_ad_lt (by funext b; simp [g_clr, Nat.ne_of_lt hj])]
  · subst hj
    rw [List.getElem?_append_right (by omega), hlen, Nat.sub_self]
    rw [g_W_at (L := L ++ [c]) (c := c) (by simp)]
    rfl
  · rw [List.getElem?_append_right (by omega)]
    have h1 : (g_W cs (g_ad ad L.length x) (L ++ [c]) (g_clr M L.length))[j]? = none := by
      rw [List.getElem?_eq_none_iff]
      simp [g_W]
      omega
    rw [h1]
    symm
    rw [List.getElem?_eq_none_iff]
    simp
    omega
theorem g_wf_add {c : g_C} (hwf : g_wf L) (hc : ∀ (ci : Nat) (fs : List g_F) (i j : Nat), c = .inr (ci, fs) → fs[i]? ≠ some (some (some j))) : g_wf (L ++ [c]) := by
  intro k ci fs i j hk hi
  by_cases hkl : k < L.length
  · rw [List.getElem?_append_left hkl] at hk
    have := hwf k ci fs i j hk hi
    simp
    omega
  · rw [List.getElem?_append_right (by omega)] at hk
    have hz : k - L.length < 1 := (List.getElem?_eq_some_iff.mp hk).1
    rw [show k - L.length = 0 by omega] at hk
    have e := Option.some.inj hk
    exact absurd hi (hc ci fs i j e)
theorem g_V_ad {ad ad' : Nat → Nat} {n n' nL : Nat} {lsA : Array Slot} (h : g_V ad n nL lsA ls st) (ha : ∀ k, k < n → ad' k = ad k) (hn : n ≤ n') : g_V ad' n' nL lsA ls st :=
  ⟨⟨h.1.1, h.1.2.1, fun i v hi => by rw [g_val_ad (g_okl_ok (h.2.1 i v hi)) ha]; exact h.1.2.2 i v hi⟩, fun i v hi => g_okl_le (h.2.1 i v hi) hn, fun v hv => g_ok_le (h.2.2 v hv) hn⟩
def g_df (x : g_F) : Value := match x with
  | none => .int 0
  | some _ => .null
def g_blank (fs : List g_F) : Bool := fs.all (fun x => match x with
  | some (some _) => false
  | _ => true)
theorem g_blank_at {fs : List g_F} (h : g_blank fs = true) (i j : Nat) : fs[i]? ≠ some (some (some j)) := by
  intro hi
  have := List.all_eq_true.mp h _ (List.mem_of_getElem? hi)
  simp at this
theorem g_blank_map {fs : List g_F} {ad : Nat → Nat} (h : g_blank fs = true) : fs.mapIdx (g_fld ad (fun _ => 0)) = fs.map g_df := by
  apply List.ext_getElem?
  intro i
  simp only [List.getElem?_mapIdx, List.getElem?_map]
  cases hi : fs[i]? with
  | none => rfl
  | some x =>
    rcases x with _ | _ | x
    · rfl
    · rfl
    · exact absurd hi (g_blank_at h i x)
def g_Nl (own : String) (idx ci : Nat) (C : String) (T : u_T) (N : Nat) (fs : List g_F) : Prop :=
  vwCl[ci]? = some (C, T, N) ∧ (∀ w ∈ u_ws C T N, w ∈ gw) ∧ Cond.classLink own idx C ∈ gw ∧ Cond.instantiable C N ∈ gw ∧ Cond.initialized C ∈ gw ∧ g_blank fs = true ∧ ∃ ty : Nat → FieldType, (∀ k, k < N → parseFieldDescriptor (T k).2.2.1 = some (ty k)) ∧ ∀ j, j < N → defaultValue (ty j) = vp_V (fs.map g_df) j
theorem ev_new {idx ci N : Nat} {C : String} {T : u_T} {fs : List g_F} {nc' ns' : Nat} (h : decode Me.2.1 pc = .ok (.new idx, 3)) (hq : pc + 3 = q) (hn : g_Nl Me.1 idx ci C T N fs) (hcs : nc + 1 ≤ R.cells ∧ ns + N ≤ R.slots) (hnc : nc + 1 = nc') (hns : ns + N = ns')
    (kk : Ev Me R Fi q ls (g_r L.length :: st) (L ++ [.inr (ci, fs)]) (g_clr M L.length) nc' ns') : Ev Me R Fi pc ls st L M nc ns := by
  subst hq
  subst hnc
  subst hns
  intro p l e s m args below meth c Q D cs A C0 ad H locs lsA hH hV hF
  obtain ⟨hc, hin, h1, h2, h3, hbl, ty, hty, hfs⟩ := hn
  have hts := C0.1.2.2.2.2
  refine va_new (D := D) (fs := fs.map g_df) C0.1.1 C0.1.2.1 hts hin ty hty C0.1.2.2.2.1 (hts _ h1) (hts _ h2) (hts _ h3) C0.2.2.2.1.1 hH.1 hH.2.1 hH.2.2.1 C0.2.2.2.2.1 hc hfs hcs.1 hcs.2 h ?_
  intro x H1 a1 a2 a3
  have e9 : g_W cs ad L M ++ [(x, .inr (ci, fs.map g_df))] = g_W cs (g_ad ad L.length x) (L ++ [.inr (ci, fs)]) (g_clr M L.length) := by
    rw [g_W_add hH.2.2.2.2]
    simp only [g_ent, g_clr_k, g_ad_eq, g_blank_map hbl]
  rw [e9] at a1 a2
  have hV2 : g_V (g_ad ad L.length x) (L ++ [(.inr (ci, fs) : g_C)]).length Me.2.2.1 lsA ls st := g_V_ad hV g_ad_lt (by simp)
  have hk := kk p l e s m args below meth c Q D cs A C0 (g_ad ad L.length x) H1 locs lsA ⟨a1, a2, a3, g_clr_rg hH.2.2.2.1, g_wf_add hH.2.2.2.2 (fun ci' fs' i j e0 => by
      have e1 := Sum.inr.inj e0
      cases e1
      exact g_blank_at hbl i j)⟩
    (g_V_st hV2 (g_st1 (v := g_r L.length) (by show L.length < _; simp) hV2.2.2))
    (fun pc' ls' st' L2 M2 nc' ns' ad2 H' locs' lsA' f1 f2 f3 f4 f5 => hF pc' ls' st' L2 M2 nc' ns' ad2 H' locs' lsA' f1 (fun k hk => (f2 k (by simp; omega)).trans (g_ad_lt k hk)) (by simp at f3; omega) f4 f5)
  rw [List.map_cons, g_map_ad hV.2.2 g_ad_lt] at hk
  have e8 : g_val (g_ad ad L.length x) (g_r L.length) = .ref x := by
    show Value.ref (g_ad ad L.length x L.length) = _
    rw [g_ad_eq]
  rw [e8] at hk
  exact hk
theorem ev_newarr0 {n : Int} {nc' ns' : Nat} (h : decode Me.2.1 pc = .ok (.newarray .int, 2)) (hq : pc + 2 = q) (hw : Cond.arrayClass .int ∈ gw) (h0 : 0 ≤ n) (hb : n ≤ 100000) (hcs : nc + 1 ≤ R.cells ∧ ns + n.toNat ≤ R.slots) (hnc : nc + 1 = nc') (hns : ns + n.toNat = ns')
    (kk : Ev Me R Fi q ls (g_r L.length :: st) (L ++ [.inl (0, n.toNat)]) (g_clr M L.length) nc' ns') : Ev Me R Fi pc ls (g_i n :: st) L M nc ns := by
  subst hq
  subst hnc
  subst hns
  intro p l e s m args below meth c Q D cs A C0 ad H locs lsA hH hV hF
  have hts := C0.1.2.2.2.2
  have hn : g_rg n := g_hd hV.2.2
  refine va_newa (D := D) (atype := .int) (tys := g_tys cs) (ty := .int) (a0 := (n.toNat, .inl (fun _ => Int32.ofInt 0))) C0.1.1 C0.1.2.1 (hts _ hw) rfl C0.2.2.2.1.1 hH.1 hH.2.1 hH.2.2.1 C0.2.2.2.2.1 (fun cA => by rfl) (fun h9 => by have h8 := (g_ltI (x := n) (y := 0) hn g_rg0).mp h9; omega) (g_cl hn h0) (by show n.toNat * 4 ≤ _; omega) hcs.1 hcs.2 h ?_
  intro x cA H1 hK' a1 a2 a3
  have hcA : cA = cs.1 := by
    have z1 : va_RA s cA .int := (hK'.2 3 (cA, .int) rfl).2
    have z2 : va_RA s cs.1 .int := (C0.2.2.2.1.1.2 0 (cs.1, .int) rfl).2
    exact Option.some.inj ((show s.vm.findClass _ = some cA from z1).symm.trans (show s.vm.findClass _ = some cs.1 from z2))
  subst hcA
  have e9 : g_W cs ad L M ++ [(x, .inl (cs.1, n.toNat, .inl (fun _ => Int32.ofInt 0)))] = g_W cs (g_ad ad L.length x) (L ++ [.inl (0, n.toNat)]) (g_clr M L.length) := by
    rw [g_W_add hH.2.2.2.2]
    simp only [g_ent, g_clr_k, g_ad_eq, g_arr]
  rw [e9] at a1 a2
  have hV1 := g_V_st hV (g_tl hV.2.2)
  have hV2 : g_V (g_ad ad L.length x) (L ++ [(.inl (0, n.toNat) : g_C)]).length Me.2.2.1 lsA ls st := g_V_ad hV1 g_ad_lt (by simp)
  have hk := kk p l e s m args below meth c Q D cs A C0 (g_ad ad L.length x) H1 locs lsA ⟨a1, a2, a3, g_clr_rg hH.2.2.2.1, g_wf_add hH.2.2.2.2 (fun ci' fs' i j e0 => by cases e0)⟩
    (g_V_st hV2 (g_st1 (v := g_r L.length) (by show L.length < _; simp) hV2.2.2))
    (fun pc' ls' st' L2 M2 nc' ns' ad2 H' locs' lsA' f1 f2 f3 f4 f5 => hF pc' ls' st' L2 M2 nc' ns' ad2 H' locs' lsA' f1 (fun k hk => (f2 k (by simp; omega)).trans (g_ad_lt k hk)) (by simp at f3; omega) f4 f5)
  rw [List.map_cons, g_map_ad hV1.2.2 g_ad_lt] at hk
  have e8 : g_val (g_ad ad L.length x) (g_r L.length) = .ref x := by
    show Value.ref (g_ad ad L.length x L.length) = _
    rw [g_ad_eq]
  rw [e8] at hk
  exact hk
theorem ev_newarr1 {n : Int} {nc' ns' : Nat} (h : decode Me.2.1 pc = .ok (.newarray .boolean, 2)) (hq : pc + 2 = q) (hw : Cond.arrayClass .boolean ∈ gw) (h0 : 0 ≤ n) (hb : n ≤ 100000) (hcs : nc + 1 ≤ R.cells ∧ ns + n.toNat ≤ R.slots) (hnc : nc + 1 = nc') (hns : ns + n.toNat = ns')
    (kk : Ev Me R Fi q ls (g_r L.length :: st) (L ++ [.inl (1, n.toNat)]) (g_clr M L.length) nc' ns') : Ev Me R Fi pc ls (g_i n :: st) L M nc ns := by
  subst hq
  subst hnc
  subst hns
  intro p l e s m args below meth c Q D cs A C0 ad H locs lsA hH hV hF
  have hts := C0.1.2.2.2.2
  have hn : g_rg n := g_hd hV.2.2
  refine va_newa (D := D) (atype := .boolean) (tys := g_tys cs) (ty := .boolean) (a0 := (n.toNat, .inl (fun _ => Int32.ofInt 0))) C0.1.1 C0.1.2.1 (hts _ hw) rfl C0.2.2.2.1.1 hH.1 hH.2.1 hH.2.2.1 C0.2.2.2.2.1 (fun cA => by rfl) (fun h9 => by have h8 := (g_ltI (x := n) (y := 0) hn g_rg0).mp h9; omega) (g_cl hn h0) (by show n.toNat * 1 ≤ _; omega) hcs.1 hcs.2 h ?_
  intro x cA H1 hK' a1 a2 a3
  have hcA : cA = cs.2.1 := by
    have z1 : va_RA s cA .boolean := (hK'.2 3 (cA, .boolean) rfl).2
    have z2 : va_RA s cs.2.1 .boolean := (C0.2.2.2.1.1.2 1 (cs.2.1, .boolean) rfl).2
    exact Option.some.inj ((show s.vm.findClass _ = some cA from z1).symm.trans (show s.vm.findClass _ = some cs.2.1 from z2))
  subst hcA
  have e9 : g_W cs ad L M ++ [(x, .inl (cs.2.1, n.toNat, .inl (fun _ => Int32.ofInt 0)))] = g_W cs (g_ad ad L.length x) (L ++ [.inl (1, n.toNat)]) (g_clr M L.length) := by
    rw [g_W_add hH.2.2.2.2]
    simp only [g_ent, g_clr_k, g_ad_eq, g_arr]
  rw [e9] at a1 a2
  have hV1 := g_V_st hV (g_tl hV.2.2)
  have hV2 : g_V (g_ad ad L.length x) (L ++ [(.inl (1, n.toNat) : g_C)]).length Me.2.2.1 lsA ls st := g_V_ad hV1 g_ad_lt (by simp)
  have hk := kk p l e s m args below meth c Q D cs A C0 (g_ad ad L.length x) H1 locs lsA ⟨a1, a2, a3, g_clr_rg hH.2.2.2.1, g_wf_add hH.2.2.2.2 (fun ci' fs' i j e0 => by cases e0)⟩
    (g_V_st hV2 (g_st1 (v := g_r L.length) (by show L.length < _; simp) hV2.2.2))
    (fun pc' ls' st' L2 M2 nc' ns' ad2 H' locs' lsA' f1 f2 f3 f4 f5 => hF pc' ls' st' L2 M2 nc' ns' ad2 H' locs' lsA' f1 (fun k hk => (f2 k (by simp; omega)).trans (g_ad_lt k hk)) (by simp at f3; omega) f4 f5)
  rw [List.map_cons, g_map_ad hV1.2.2 g_ad_lt] at hk
  have e8 : g_val (g_ad ad L.length x) (g_r L.length) = .ref x := by
    show Value.ref (g_ad ad L.length x L.length) = _
    rw [g_ad_eq]
  rw [e8] at hk
  exact hk
theorem ev_newarr2 {n : Int} {nc' ns' : Nat} (h : decode Me.2.1 pc = .ok (.newarray .long, 2)) (hq : pc + 2 = q) (hw : Cond.arrayClass .long ∈ gw) (h0 : 0 ≤ n) (hb : n ≤ 100000) (hcs : nc + 1 ≤ R.cells ∧ ns + n.toNat ≤ R.slots) (hnc : nc + 1 = nc') (hns : ns + n.toNat = ns')
    (kk : Ev Me R Fi q ls (g_r L.length :: st) (L ++ [.inl (2, n.toNat)]) (g_clr M L.length) nc' ns') : Ev Me R Fi pc ls (g_i n :: st) L M nc ns := by
  subst hq
  subst hnc
  subst hns
  intro p l e s m args below meth c Q D cs A C0 ad H locs lsA hH hV hF
  have hts := C0.1.2.2.2.2
  have hn : g_rg n := g_hd hV.2.2
  refine va_newa (D := D) (atype := .long) (tys := g_tys cs) (ty := .long) (a0 := (n.toNat, .inr (.inl (fun _ => Int64.ofInt 0)))) C0.1.1 C0.1.2.1 (hts _ hw) rfl C0.2.2.2.1.1 hH.1 hH.2.1 hH.2.2.1 C0.2.2.2.2.1 (fun cA => by rfl) (fun h9 => by have h8 := (g_ltI (x := n) (y := 0) hn g_rg0).mp h9; omega) (g_cl hn h0) (by show n.toNat * 8 ≤ _; omega) hcs.1 hcs.2 h ?_
  intro x cA H1 hK' a1 a2 a3
  have hcA : cA = cs.2.2 := by
    have z1 : va_RA s cA .long := (hK'.2 3 (cA, .long) rfl).2
    have z2 : va_RA s cs.2.2 .long := (C0.2.2.2.1.1.2 2 (cs.2.2, .long) rfl).2
    exact Option.some.inj ((show s.vm.findClass _ = some cA from z1).symm.trans (show s.vm.findClass _ = some cs.2.2 from z2))
  subst hcA
  have e9 : g_W cs ad L M ++ [(x, .inl (cs.2.2, n.toNat, .inr (.inl (fun _ => Int64.ofInt 0))))] = g_W cs (g_ad ad L.length x) (L ++ [.inl (2, n.toNat)]) (g_clr M L.length) := by
    rw [g_W_add hH.2.2.2.2]
    simp only [g_ent, g_clr_k, g_ad_eq, g_arr]
  rw [e9] at a1 a2
  have hV1 := g_V_st hV (g_tl hV.2.2)
  have hV2 : g_V (g_ad ad L.length x) (L ++ [(.inl (2, n.toNat) : g_C)]).length Me.2.2.1 lsA ls st := g_V_ad hV1 g_ad_lt (by simp)
  have hk := kk p l e s m args below meth c Q D cs A C0 (g_ad ad L.length x) H1 locs lsA ⟨a1, a2, a3, g_clr_rg hH.2.2.2.1, g_wf_add hH.2.2.2.2 (fun ci' fs' i j e0 => by cases e0)⟩
    (g_V_st hV2 (g_st1 (v := g_r L.length) (by show L.length < _; simp) hV2.2.2))
    (fun pc' ls' st' L2 M2 nc' ns' ad2 H' locs' lsA' f1 f2 f3 f4 f5 => hF pc' ls' st' L2 M2 nc' ns' ad2 H' locs' lsA' f1 (fun k hk => (f2 k (by simp; omega)).trans (g_ad_lt k hk)) (by simp at f3; omega) f4 f5)
  rw [List.map_cons, g_map_ad hV1.2.2 g_ad_lt] at hk
  have e8 : g_val (g_ad ad L.length x) (g_r L.length) = .ref x := by
    show Value.ref (g_ad ad L.length x L.length) = _
    rw [g_ad_eq]
  rw [e8] at hk
  exact hk
theorem g_W_putR {cs : g_cs} {ad : Nat → Nat} {k i ci j : Nat} {fs : List g_F} (hL : L[k]? = some (.inr (ci, fs))) :
    (g_W cs ad L M).set k (ad k, .inr (ci, (fs.mapIdx (g_fld ad (M k))).set i (.ref (ad j)))) = g_W cs ad (L.set k (.inr (ci, fs.set i (some (some j))))) M := by
  have hk : k < L.length := (List.getElem?_eq_some_iff.mp hL).1
  apply List.ext_getElem?
  intro a
  by_cases ha : a = k
  · subst ha
    rw [List.getElem?_set_self (by simpa [g_W] using hk), g_W_at (c := .inr (ci, fs.set i (some (some j)))) (by rw [List.getElem?_set_self hk])]
    simp only [g_ent]
    congr 4
    apply List.ext_getElem?
    intro b
    by_cases hb : b = i
    · subst hb
      by_cases hl : b < fs.length
      · rw [List.getElem?_set_self (by simpa using hl)]
        simp [List.getElem?_mapIdx, hl, g_fld]
      · rw [List.getElem?_eq_none (by simp; omega), List.getElem?_eq_none (by simp; omega)]
    · rw [List.getElem?_set_ne (Ne.symm hb)]
      simp only [List.getElem?_mapIdx]
      rw [List.getElem?_set_ne (Ne.symm hb)]
  · rw [List.getElem?_set_ne (Ne.symm ha)]
    simp only [g_W, List.getElem?_mapIdx]
    rw [List.getElem?_set_ne (Ne.symm ha)]
theorem g_wf_set {k i ci j : Nat} {fs : List g_F} (hwf : g_wf L) (hL : L[k]? = some (.inr (ci, fs))) (hj : j < L.length) : g_wf (L.set k (.inr (ci, fs.set i (some (some j))))) := by
  have hk : k < L.length := (List.getElem?_eq_some_iff.mp hL).1
  intro a ci' fs' b x ha hb
  rw [List.length_set]
  by_cases hak : a = k
  · subst hak
    rw [List.getElem?_set_self hk] at ha
    have e := Sum.inr.inj (Option.some.inj ha)
    cases e
    by_cases hbi : b = i
    · subst hbi
      have hl : b < fs.length := by
        have := (List.getElem?_eq_some_iff.mp hb).1
        simpa using this
      rw [List.getElem?_set_self hl] at hb
      cases hb
      exact hj
    · rw [List.getElem?_set_ne (Ne.symm hbi)] at hb
      exact hwf a ci fs b x hL hb
  · rw [List.getElem?_set_ne (Ne.symm hak)] at ha
    exact hwf a ci' fs' b x ha hb
theorem ev_putFR {k i j ci idx N : Nat} {C : String} {T : u_T} {fs : List g_F} {ty : FieldType} {L' : g_L} (h : decode Me.2.1 pc = .ok (.putfield idx, 3)) (hq : pc + 3 = q) (lk : g_Fl Me.1 idx ci i C T N) (pf : g_Fp T N i ty true) (hin : Me.2.2.2.2.2 = "<init>") (hdc : (T i).1 = Me.1) (hty : (∃ n, ty = .object n) ∨ ∃ t, ty = .array t) (hL : L[k]? = some (.inr (ci, fs))) (hi : i < fs.length) (hs : L.set k (.inr (ci, fs.set i (some (some j)))) = L') (kk : Ev Me R Fi q ls st L' M nc ns) : Ev Me R Fi pc ls (g_r j :: g_r k :: st) L M nc ns := by
  subst hq
  subst hs
  intro p l e s m args below meth c Q D cs A C0 ad H locs lsA hH hV hF
  obtain ⟨⟨ty0, h0⟩, hnm, hfin, hd⟩ := pf
  have hnf : narrow ty (.ref (ad j)) = .ref (ad j) ∧ fits ty (.ref (ad j)) = true := by
    rcases hty with ⟨n, rfl⟩ | ⟨t, rfl⟩
    · exact ⟨rfl, rfl⟩
    · exact ⟨rfl, rfl⟩
  refine va_putF (D := D) (v := .ref (ad j)) (ty := ty) C0.1.1 C0.1.2.1 C0.1.2.2.2.2 lk.2.2.1 ty0 h0 hnm C0.1.2.2.2.1 C0.2.2.2.1.1 hH.1 hH.2.1 hH.2.2.1 k (g_W_at hL) lk.1 i lk.2.1 (C0.1.2.2.2.2 _ lk.2.2.2) (fun _ h9 => h9) hfin (C0.2.2.2.2.2.2.trans hin) hdc hd hnf.1 hnf.2 (by simpa using hi) h ?_
  intro H1 locs1 a1 a2 a3
  rw [g_W_putR hL] at a1 a2
  have hV2 : g_V ad (L.set k (.inr (ci, fs.set i (some (some j))))).length Me.2.2.1 lsA ls st := by
    rw [List.length_set]
    exact g_V_st hV (g_tl (g_tl hV.2.2))
  exact kk p l e s m args below meth c Q D cs A C0 ad H1 locs1 lsA ⟨a1, a2, a3, hH.2.2.2.1, g_wf_set hH.2.2.2.2 hL (g_hd hV.2.2)⟩ hV2 (fun pc' ls' st' L2 M2 nc' ns' ad2 H' locs' lsA' f1 f2 f3 f4 f5 => hF pc' ls' st' L2 M2 nc' ns' ad2 H' locs' lsA' f1 (fun k hk => f2 k (by rw [List.length_set]; exact hk)) (by rw [List.length_set] at f3; exact f3) f4 f5)
theorem ev_putFI {k i ci idx N : Nat} {C : String} {T : u_T} {fs : List g_F} {z : Int} (h : decode Me.2.1 pc = .ok (.putfield idx, 3)) (hq : pc + 3 = q) (lk : g_Fl Me.1 idx ci i C T N) (pf : g_Fp T N i .int true) (hin : Me.2.2.2.2.2 = "<init>") (hdc : (T i).1 = Me.1) (hL : L[k]? = some (.inr (ci, fs))) (hf : fs[i]? = some none) (kk : Ev Me R Fi q ls st L (g_up M k i z) nc ns) : Ev Me R Fi pc ls (g_i z :: g_r k :: st) L M nc ns := by
  subst hq
  intro p l e s m args below meth c Q D cs A C0 ad H locs lsA hH hV hF
  obtain ⟨⟨ty0, h0⟩, hnm, hfin, hd⟩ := pf
  have hi : i < fs.length := (List.getElem?_eq_some_iff.mp hf).1
  refine va_putF (D := D) (v := .int (Int32.ofInt z)) (ty := .int) C0.1.1 C0.1.2.1 C0.1.2.2.2.2 lk.2.2.1 ty0 h0 hnm C0.1.2.2.2.1 C0.2.2.2.1.1 hH.1 hH.2.1 hH.2.2.1 k (g_W_at hL) lk.1 i lk.2.1 (C0.1.2.2.2.2 _ lk.2.2.2) (fun _ h9 => h9) hfin (C0.2.2.2.2.2.2.trans hin) hdc hd rfl rfl (by simpa using hi) h ?_
  intro H1 locs1 a1 a2 a3
  rw [g_W_put hL hf] at a1 a2
  exact kk p l e s m args below meth c Q D cs A C0 ad H1 locs1 lsA ⟨a1, a2, a3, g_up_rg hH.2.2.2.1 (g_hd hV.2.2), hH.2.2.2.2⟩ (g_V_st hV (g_tl (g_tl hV.2.2))) hF
theorem ev_objInit {k idx : Nat} (h : decode Me.2.1 pc = .ok (.invokespecial idx, 3)) (hq : pc + 3 = q) (h1 : Cond.methodLink Me.1 idx objectInit ∈ gw) (h2 : Cond.instanceMethod objectInit ∈ gw) (h3 : Cond.code objectInit ⟨#[0xb1]⟩ 1 none ∈ gw) (hR : 1 ≤ R.frames ∧ (st.map g_cw).sum + 12 ≤ R.locals) (kk : Ev Me R Fi q ls st L M nc ns) : Ev Me R Fi pc ls (g_r k :: st) L M nc ns := by
  subst hq
  intro p l e s m args below meth c Q D cs A C0 ad H locs lsA hH hV hF
  have hts := C0.1.2.2.2.2
  refine W.objInit (a := ad k) (rest := st.map (g_val ad)) C0.1.1 C0.1.2.1 C0.1.2.2.2.1 (hts _ h1) (hts _ h2) (hts _ h3) rfl (by rw [C0.1.2.2.1]; exact hV.1.1) rfl h hR.1 (by rw [g_cw_sum]; have := hR.2; simpa [JFrame.monitorRoom] using this) ?_
  exact kk p l e s m args below meth c Q D cs A C0 ad H locs lsA hH (g_V_st hV (g_tl hV.2.2)) hF
def g_CI (own : String) (idx : Nat) (y : MethodName) (ws : List Cond) (n maxL : Nat) : Prop :=
  (∃ (bytes : ByteArray) (ws' : List Cond), ws = Cond.code y bytes maxL none :: ws') ∧ GoodIn gw ws ∧ (y.cls ≠ "java/lang/invoke/MethodHandle" ∧ y.cls ≠ "java/lang/invoke/VarHandle" ∧ (parseMethodDescriptor y.desc).map (fun d => d.parameters.length) = some n) ∧ Cond.initialized y.cls ∈ gw ∧ Cond.methodLink own idx y ∈ gw ∧ Cond.instanceMethod y ∈ gw ∧ y.name = "<init>"
theorem ev_callI {idx maxL k : Nat} {y : MethodName} {ws : List Cond} {rm : Room} {As st0 : List g_v} {L' : g_L} {M' : g_M} {nc' ns' : Nat} (h : decode Me.2.1 pc = .ok (.invokespecial idx, 3)) (hq : pc + 3 = q) (hC : g_CI Me.1 idx y ws As.length maxL) (hM : Con y ws rm L M (g_r k :: As) L' M' none)
    (hR : rm.frames + 1 ≤ R.frames ∧ 8 + (maxL + 11) + rm.locals ≤ R.locals) (hcs : nc + rm.cells ≤ R.cells ∧ ns + rm.slots ≤ R.slots) (hnj : As.all g_nj = true) (hs : st0 = (g_r k :: As).reverse ++ st) (hst : (st.map g_cw).sum ≤ 8) (hnc : nc + rm.cells = nc') (hns : ns + rm.slots = ns')
    (kk : Ev Me R Fi q ls st L' M' nc' ns') : Ev Me R Fi pc ls st0 L M nc ns := by
  subst hq
  subst hnc
  subst hns
  intro p l e s m args below meth c Q D cs A C0 ad H locs lsA hH hV hF
  obtain ⟨⟨bytes, ws', hw⟩, hG, hd, h1, h2, h3, h4⟩ := hC
  have hts := C0.1.2.2.2.2
  have hav : ∀ v ∈ g_r k :: As, g_okl L.length v := by
    intro v hv
    refine g_nj_okl ?_ (hV.2.2 v (by rw [hs]; exact List.mem_append_left _ (List.mem_reverse.mpr hv)))
    rcases List.mem_cons.mp hv with rfl | hv
    · rfl
    · exact List.all_eq_true.mp hnj v hv
  have hrun := va_runI (b := ad k) (As := As.map (g_val ad)) (rest := st.map (g_val ad)) (g := F0 m pc lsA (st0.map (g_val ad))) (H := H) (e := e) (below := below) (meth := meth) (locs := locs) (cells := nc) (slots := ns) C0.1 (hM hH.2.2.2.1 hH.2.2.2.2 hav l D cs ad H.size)
    (cwI As.length hts hG hw rfl rfl (hts _ h1) (hts _ h2) (hts _ h3) h4 hd hR) ⟨g_blind, fun U hU hW => g_preC (av := g_r k :: As) C0.2.2.2.1 C0.2.2.2.2.2.1.1 C0.2.2.2.2.1 hH U hU hW⟩ rfl (by simp) hV.1.1 (by rw [hs]; simp [g_val]) (lv_room (by rw [g_cw_sum]; exact hst)) h hcs
  exact g_callE (r := none) C0 hH hV hs hF kk hrun
end GEN5
end
section
section XRB
variable {p : Program} {l : Launch} {e : Env} {R : Room} {s : State} {m : MethodId} {args : Array Value} {below : List Frame} {meth : Method} {c : Code} {T : State} {locs : List Loc} {cells slots : Nat}
/-- the walk begun anew where it stands -/
abbrev x_at (T s : State) (m : MethodId) (args : Array Value) (below : List Frame) : State := (T.setVm s.vm).setFrames (.invoking m args :: below)
theorem x_rebase (X : Stand p l e R s m args below meth c T locs cells slots) (k n : Nat) (hc : cells + k ≤ R.cells) (hs : slots + n ≤ R.slots) :
    Stand p l e { frames := R.frames, cells := k, slots := n, locals := R.locals } (x_at T s m args below) m args below meth c T [] 0 0 := by
  obtain ⟨g₀, hfr⟩ := X.frames_eq
  have hcur : T.cur < T.threads.size := State.cur_lt_of_frames hfr
  have hF : (x_at T s m args below).frames = .invoking m args :: below := State.frames_setFrames (s := T.setVm s.vm) _ hcur
  refine { admits := X.admits, cas := X.cas, clock := X.clock, frames := hF, room := ?_, hears := X.hears, method := X.method, code := X.code, here := X.here, tail := X.tail, warmed := X.warmed, limits := ?_, bytes := ?_, same := ?_ }
  · have h := X.room
    have hz := X.heapSize
    have hu := X.used
    have hb := X.book
    have hli : (x_at T s m args below).localsInUse = s.localsInUse := by
      unfold State.localsInUse
      rw [hF, X.frames]
      rfl
    have hl1 : e.platform.stackLimits (x_at T s m args below).me = e.platform.stackLimits s.me := by
      rw [State.stackLimits_setFrames]
      exact X.limits
    have hl2 : (x_at T s m args below).me.stackBytes = s.me.stackBytes := by
      rw [State.stackBytes_setFrames]
      exact X.bytes
    simp only [State.hasRoom, Bool.and_eq_true, decide_eq_true_eq, X.frames] at h ⊢
    rw [hli, hF, hl1, hl2]
    obtain ⟨⟨⟨⟨h1, h2⟩, h3⟩, h4⟩, h5⟩ := h
    refine ⟨⟨⟨⟨h1, h2⟩, ?_⟩, ?_⟩, hb⟩
    · show T.heap.size + k ≤ _
      omega
    · show T.slotsUsed + n ≤ _
      omega
  · rw [State.stackLimits_setFrames]
    rfl
  · rw [State.stackBytes_setFrames]
    rfl
  · refine ⟨?_, Nat.le_refl _, Nat.le_refl _, ?_, ?_, fun a c9 h9 => ⟨c9, h9, rfl, rfl, fun _ _ => rfl⟩⟩
    · obtain ⟨t, ht, -⟩ := State.frames_cons hfr
      show T.setVm s.vm = { ((T.setVm s.vm).setFrames (.invoking m args :: below)).setFrames (T.setVm s.vm).frames with heap := T.heap, slotsUsed := T.slotsUsed }
      rw [State.setFrames_setFrames, State.setFrames_self (s := T.setVm s.vm) ht]
      rfl
    · show T.slotsUsed = T.slotsUsed + ((T.heap.toList.drop T.heap.size).map (·.slots.size)).sum
      rw [List.drop_eq_nil_of_le (Nat.le_of_eq Array.length_toList)]
      rfl
    · show ((T.heap.toList.drop T.heap.size).map (·.slots.size)).sum ≤ 0
      rw [List.drop_eq_nil_of_le (Nat.le_of_eq Array.length_toList)]
      exact Nat.le_refl _
end XRB
end
section
section XTH
variable {p : Program} {l : Launch} {e : Env} {R : Room} {s : State} {m : MethodId} {args : Array Value} {below : List Frame} {meth : Method} {c : Code} {H : Heap} {locs : List Loc} {cells slots : Nat} {Q : State → Prop}
/-- what isn't a word of the tables among the words of a throw -/
def x_sp : List Cond := [.isRef (.static Bundle.tN "UNASSIGNED_STACK" Bundle.steD), .isRef (.static Bundle.tN "SUPPRESSED_SENTINEL" Bundle.listD), .laysStatic Bundle.tN "UNASSIGNED_STACK" Bundle.steD, .laysStatic Bundle.tN "SUPPRESSED_SENTINEL" Bundle.listD] ++ x_cast.map (fun c => Cond.castable c c) ++ x_decl.map Cond.declares
def x_up : List String := ["java/lang/RuntimeException", "java/lang/Exception"]
theorem x_sp_at {A : Nat → Prop} (hZ : x_Z A s s.heap) (hN : x_N s) : ∀ w ∈ x_sp, w.before args s = true := by
  intro w hw
  unfold x_sp at hw
  rcases List.mem_append.mp hw with hw | hw
  · rcases List.mem_append.mp hw with hw | hw
    · simp only [List.mem_cons, List.not_mem_nil, or_false] at hw
      rcases hw with rfl | rfl | rfl | rfl
      · exact hZ.1.isRef
      · exact hZ.2.isRef
      · exact hZ.1.lays
      · exact hZ.2.lays
    · obtain ⟨c0, hc0, rfl⟩ := List.mem_map.mp hw
      exact va_Nw.use rfl (hN.1 c0 hc0)
  · obtain ⟨y, hy, rfl⟩ := List.mem_map.mp hw
    exact va_Nw.use rfl (hN.2.1 y hy)
/-- an exception that SureFunctions throws: its class's and its constructor's numbers in the pool -/
def x_Ex (E : String) (ik ic : Nat) : Prop := Bundle.fit E = true ∧ (∀ w ∈ Bundle.ownAtoms R_Fu ic E x_up, w ∈ gw ∨ w ∈ x_sp) ∧ Cond.classLink R_Fu ik E ∈ gw ∧ Cond.initialized E ∈ gw
theorem x_frame {s U : State} {k n : Nat} (h : s.sameButNew U [] k n) : s.heap.size ≤ U.heap.size ∧ ∀ q : Nat, q < s.heap.size → U.heap[q]? = s.heap[q]? := by
  obtain ⟨-, h1, -, -, -, h2⟩ := h
  refine ⟨h1, fun q hq => ?_⟩
  obtain ⟨c0, hc0⟩ : ∃ c0, s.heap[q]? = some c0 := ⟨s.heap[q], Array.getElem?_eq_getElem hq⟩
  obtain ⟨c1, g1, g2, g3, g4⟩ := h2 q c0 hc0
  rw [g1, hc0]
  have e1 : c1.slots = c0.slots := by
    apply Array.ext_getElem?
    intro i
    exact g4 i (fun z => nomatch z)
  rw [g2, e1]
theorem x_throw {cc : ByteArray} {pc ik is ic : Nat} {lsA : Array Slot} {A : Nat → Prop} {E text : String} (hexec : p.tables.exec = Jvm.exec) (hb : c.code = cc) (hl : l.stackTraces = false) (hown : s.vm.findClass R_Fu = some m.cls) (hts : ∀ w ∈ gw, w.before args s = true) (hN : x_N s) (hZ : x_Z A s s.heap) (hS : va_S A s.heap H locs) (hsize : lsA.size = c.maxLocals) (hlocks : meth.locks = false)
    (hout : ∀ x ∈ c.exceptionTable.toList, covers x (pc + 9) = false) (hE : x_Ex E ik ic) (hstr : (is, text) ∈ x_str)
    (d0 : decode cc pc = .ok (.new ik, 3)) (d3 : decode cc (pc + 3) = .ok (.dup, 1)) (d4 : decode cc (pc + 4) = .ok (.ldc is, 2)) (d6 : decode cc (pc + 6) = .ok (.invokespecial ic, 3)) (d9 : decode cc (pc + 9) = .ok (.athrow, 1))
    (hR : 6 ≤ R.frames ∧ 90 ≤ R.locals) (hRc : cells + 1 ≤ R.cells ∧ slots + 6 ≤ R.slots)
    (k : ∀ (U : State) (q : Nat) (ce : Cell), U.status = .running → Ended U below (.threw q) → H.size ≤ q → U.heap[q]? = some ce → ce.vm = .none → s.vm.findClass E = some ce.cls → s.WarmedH U.vm → s.sameButNew ({ U with vm := s.vm } : State) locs (cells + 1) (slots + 6) → H.size ≤ U.heap.size → (∀ a : Nat, a < H.size → U.heap[a]? = H[a]?) → Q U) :
    W p l e R s m args below meth c H locs cells slots Q (F0 m pc lsA []) := by
  intro T hT X
  subst hT
  have htr : e.platform.stackTraces = false := (show e.platform.stackTraces = l.stackTraces by rw [X.admits.platform]).trans hl
  have Y := x_rebase X 1 6 hRc.1 hRc.2
  obtain ⟨s', hs'⟩ : ∃ z, z = x_at T s m args below := ⟨_, rfl⟩
  rw [← hs'] at Y
  have hvm : s'.vm = s.vm := by rw [hs']; rfl
  have hhp : s'.heap = T.heap := by rw [hs']; rfl
  have hW0 : s.WarmedH s'.vm := by rw [hvm]; exact State.WarmedH.refl s
  have hgw : ∀ w ∈ gw, w.before args s' = true := fun w hw => word_at hW0 (good_of_word (List.mem_filter.mp hw).2) (hts w hw)
  have hZ' : x_Z A s' s'.heap := by rw [hhp]; exact (hZ.kept hS.2.1).moved hW0.alike
  have hN' : x_N s' := x_N.same hvm hN
  have hat : ∀ w ∈ Bundle.ownAtoms R_Fu ic E x_up, w.before args s' = true := fun w hw => (hE.2.1 w hw).elim (hgw w) (x_sp_at hZ' hN' w)
  have hown' : s'.vm.findClass R_Fu = some m.cls := by rw [hvm]; exact hown
  obtain ⟨sa, hsa⟩ := hN'.2.2.2 _ hstr
  obtain ⟨vm₁, cX, kX, hfX, hkX, -, -, X₁, st1⟩ := Y.newCold hexec (own := R_Fu) (C := E) (index := ik) (n := 6) hown' (hgw _ hE.2.2.1) (hat (.instantiable E 6) (by simp [Bundle.ownAtoms])) (hgw _ hE.2.2.2)
    (g := F0 m pc lsA []) rfl (by rw [hb]; exact d0) (Nat.le_refl _) (Nat.le_refl _)
  generalize hT1 : (T.setVm vm₁).pushCell { cls := cX, slots := kX.instanceTypes.map defaultValue, vm := .none } = T1 at X₁ st1
  have hcellA : T1.heap[T.heap.size]? = some (freshCell cX kX) := by rw [← hT1]; exact State.heap_pushCell_size _ _
  have d3' : decode c.code (pc + 3) = .ok (.dup, 1) := by rw [hb]; exact d3
  have d4' : decode c.code (pc + 4) = .ok (.ldc is, 2) := by rw [hb]; exact d4
  obtain ⟨U, hsteps, hrun, hend, hW, hsame, ce, hce, hO⟩ := X₁.ctorThrowS hexec htr (own := R_Fu) (cls := E) (names := x_up) (ic := ic) hown' hE.1 (by decide +kernel) hat (fun x hx => nomatch hx) hfX hkX hcellA (by rw [hhp]; exact Nat.le_refl _) (msg := .ref sa) rfl
    (g := { method := m, pc := pc + 6, locals := lsA, stack := .ref sa :: .ref T.heap.size :: .ref T.heap.size :: [], locked := none }) rfl hsize rfl rfl (rest := []) rfl
    (by rw [hb]; exact d6) (by rw [hb]; exact d9) hout (by show 2 + 3 < R.frames; omega) (by show 2 * 0 + (1 + 0) + (13 * (2 + 1) + 42) ≤ R.locals; omega) hlocks
  obtain ⟨f1, f2⟩ := x_frame hsame
  rw [hhp] at f1 f2
  refine ⟨U, ?_, k U T.heap.size ce hrun hend (Nat.le_refl _) hce hO.vm (by have h9 := hO.cls; rw [hvm] at h9; exact h9) (State.WarmedH.trans hW0 hW) ?_ f1 f2⟩
  · refine st1 _ ?_
    show Steps p.tables e below (T1.setTop { method := m, pc := pc + 3, locals := lsA, stack := .ref T.heap.size :: [], locked := none }) _
    jvm_step X₁.here [X₁.here.top, hexec, d3', Value.category]
    exact X₁.ldcString hexec (own := R_Fu) (text := text) (index := is) (a := sa) hown' hsa.1 hsa.2
      (g := { method := m, pc := pc + 4, locals := lsA, stack := .ref T.heap.size :: .ref T.heap.size :: [], locked := none }) rfl d4' _ hsteps
  · subst hs'
    obtain ⟨e1, e2⟩ := hsame
    rw [State.setFrames_setFrames] at e1
    have h2 : (T.setVm s.vm).sameButNew ({ U with vm := s.vm } : State) [] (0 + 1) (0 + 6) := ⟨e1, e2⟩
    have h3 := X.same.trans h2
    rw [List.append_nil] at h3
    exact h3.mono (by omega) (by omega)
theorem x_ex1 : x_Ex x_E1 77 81 := ⟨by decide +kernel, by decide +kernel, by decide +kernel, by decide +kernel⟩
theorem x_ex2 : x_Ex x_E2 88 92 := ⟨by decide +kernel, by decide +kernel, by decide +kernel, by decide +kernel⟩
theorem x_ex3 : x_Ex x_E3 194 198 := ⟨by decide +kernel, by decide +kernel, by decide +kernel, by decide +kernel⟩
end XTH
end
section
/-! a throw of a callee, caught by the first or the second row of the method's table; the rows' classes may be linked here for the first time -/
section XCT
theorem x_row {e : Env} {S : State} {f : JFrame} {a : Addr} {x : ExceptionTableEntry} {t : List ExceptionTableEntry} {k : ClassId} {cell : Cell} {b : Bool} (hx : covers x f.pc = true) (h0 : x.catchType ≠ 0) (hl : S.vm.ClassLinks e.platform f.method.cls x.catchType k) (hcell : S.heap[a]? = some cell) (hobj : cell.vm = .none)
    (h1 : ∃ c1, S.vm.classes[cell.cls]? = some c1) (h2 : ∃ c2, S.vm.classes[k]? = some c2) (hb : S.vm.assignable cell.cls k = b) (Q : Handler → Jvm.Pre) (E : CtlPost) (d : Bool) (acts : List Action) :
    wp (findHandler.go f a (x :: t)) Q E e d acts S ↔ (if b = true then Q (.found x.handlerPc) d acts (S.setVm (S.vm.noted f.method.cls x.catchType (.cls k))) else wp (findHandler.go f a t) Q E e d acts (S.setVm (S.vm.noted f.method.cls x.catchType (.cls k)))) := by
  have hx2 := hx
  simp only [covers] at hx2
  obtain ⟨u1, u2⟩ := (resolveClass_links e.toSetting hl).op (op := VmOp.resolveClass f.method.cls x.catchType) rfl
  have al : S.vm.Alike (S.vm.noted f.method.cls x.catchType (.cls k)) := (Vm.Alike.refl S.vm).noted _ _ _
  obtain ⟨c1, g1⟩ := h1
  obtain ⟨c2, g2⟩ := h2
  obtain ⟨d1, r1, -⟩ := al.2.2 _ _ g1
  obtain ⟨d2, r2, -⟩ := al.2.2 _ _ g2
  have hobj2 : ∀ z, cell.vm ≠ .statics z := fun z h => by rw [hobj] at h; cases h
  have hb2 : (S.vm.noted f.method.cls x.catchType (.cls k)).assignable cell.cls k = b := by rw [al.assignable]; exact hb
  cases b <;> simp [findHandler.go, hx2, h0, u1, u2, hcell, hobj2, r1, r2, hb2, VmOp.dirties, VmOp.acts]
def x_Fd (e : Env) (S : State) (f : JFrame) (a : Addr) (pc : Nat) (vm' : Vm) : Prop := ∀ (Q : Handler → Jvm.Pre) (E : CtlPost) (d : Bool) (acts : List Action), wp (findHandler f a) Q E e d acts S ↔ Q (.found pc) d acts (S.setVm vm')
/-- a row of the table, as the start's tables have it: its class, and whether it takes the object -/
def x_Rw (pl : Platform) (s : State) (d thrown : ClassId) (pc : Nat) (x : ExceptionTableEntry) (b : Bool) : Prop := covers x pc = true ∧ x.catchType ≠ 0 ∧ ∃ k, s.vm.ClassLinks pl d x.catchType k ∧ s.vm.assignable thrown k = b
theorem x_Rw.use {e : Env} {s S : State} {f : JFrame} {a : Addr} {x : ExceptionTableEntry} {t : List ExceptionTableEntry} {cell : Cell} {b : Bool} (hW : s.WarmedH S.vm) (hcell : S.heap[a]? = some cell) (hobj : cell.vm = .none) (hk : ∃ c1, s.vm.classes[cell.cls]? = some c1) (h : x_Rw e.platform s f.method.cls cell.cls f.pc x b) :
    ∃ vm1, s.WarmedH vm1 ∧ ∀ (Q : Handler → Jvm.Pre) (E : CtlPost) (d : Bool) (acts : List Action), wp (findHandler.go f a (x :: t)) Q E e d acts S ↔ (if b = true then Q (.found x.handlerPc) d acts (S.setVm vm1) else wp (findHandler.go f a t) Q E e d acts (S.setVm vm1)) := by
  obtain ⟨hx, h0, k, hl, hb⟩ := h
  obtain ⟨dk, _, _, kt, hd, _, _, _, _, hkt, _, hopen⟩ := hl.here
  obtain ⟨c1, hk⟩ := hk
  obtain ⟨c1', hk', -⟩ := hW.alike.2.2 _ _ hk
  obtain ⟨kt', hkt', -⟩ := hW.alike.2.2 _ _ hkt
  exact ⟨_, hW.noted hd hopen (State.rightAt_cls hl), fun Q E d acts => x_row hx h0 (hW.classLinks hl) hcell hobj ⟨c1', hk'⟩ ⟨kt', hkt'⟩ (by rw [hW.alike.assignable]; exact hb) Q E d acts⟩
theorem x_fd1 {e : Env} {s S : State} {f : JFrame} {a : Addr} {meth : Method} {code : Code} {x : ExceptionTableEntry} {t : List ExceptionTableEntry} {cell : Cell} (hm : S.vm.method? f.method = some meth) (hc : meth.code = some code) (ht : code.exceptionTable.toList = x :: t) (hW : s.WarmedH S.vm) (hcell : S.heap[a]? = some cell) (hobj : cell.vm = .none) (hk : ∃ c1, s.vm.classes[cell.cls]? = some c1)
    (h : x_Rw e.platform s f.method.cls cell.cls f.pc x true) : ∃ vm1, s.WarmedH vm1 ∧ x_Fd e S f a x.handlerPc vm1 := by
  obtain ⟨vm1, w1, q1⟩ := x_Rw.use (t := t) hW hcell hobj hk h
  refine ⟨vm1, w1, fun Q E d acts => ?_⟩
  rw [W.findHandler_eq hm hc, ht, q1 Q E d acts, if_pos rfl]
theorem x_fd2 {e : Env} {s S : State} {f : JFrame} {a : Addr} {meth : Method} {code : Code} {x y : ExceptionTableEntry} {t : List ExceptionTableEntry} {cell : Cell} (hm : S.vm.method? f.method = some meth) (hc : meth.code = some code) (ht : code.exceptionTable.toList = y :: x :: t) (hW : s.WarmedH S.vm) (hcell : S.heap[a]? = some cell) (hobj : cell.vm = .none) (hk : ∃ c1, s.vm.classes[cell.cls]? = some c1)
    (hy : x_Rw e.platform s f.method.cls cell.cls f.pc y false) (hx : x_Rw e.platform s f.method.cls cell.cls f.pc x true) : ∃ vm1, s.WarmedH vm1 ∧ x_Fd e S f a x.handlerPc vm1 := by
  obtain ⟨vm1, w1, q1⟩ := x_Rw.use (t := x :: t) hW hcell hobj hk hy
  obtain ⟨vm2, w2, q2⟩ := x_Rw.use (S := S.setVm vm1) (t := t) w1 hcell hobj hk hx
  refine ⟨vm2, w2, fun Q E d acts => ?_⟩
  rw [W.findHandler_eq hm hc, ht, q1 Q E d acts, if_neg (by decide), q2 Q E d acts, if_pos rfl]
  exact Iff.rfl
theorem x_caught {tb : Tables} {e : Env} {T target : State} {g : JFrame} {c : Code} {below : List Frame} {a : Addr} {pc : Nat} {vm' : Vm} (h : At T g.method c below) (hf : x_Fd e ((T.setTop g).pushFrame (.throwing a)) g a pc vm')
    (hr : Steps tb e below ((T.setVm vm').setTop { g with pc := pc, stack := [.ref a] }) target) : Steps tb e below ((T.setTop g).pushFrame (.throwing a)) target := by
  obtain ⟨hgo, hw⟩ := h.throwing a
  refine Steps.head hgo hw ?_
  have hstep : ∀ (S : State) (r : List Frame), x_Fd e S g a pc vm' → (stepThrowing e S a (.java g :: r)).Is ((S.setVm vm').setFrames (.java { g with pc := pc, stack := [.ref a] } :: r)) [] := by
    intro S r hS
    simp only [stepThrowing, searchFrame, vmDo]
    generalize hq : Sem.go _ e false [] S = res
    obtain ⟨as, rfl, ha⟩ := Sem.eq_ok_of hq (a := Handler.found pc) (s' := S.setVm vm') (acts' := []) (by simp [hS _ _ _ _])
    exact ⟨rfl, ha⟩
  rw [stepThread_throwing (frames_entered h.top _), (hstep _ _ hf).1]
  obtain ⟨g₀, hg⟩ := Option.isSome_iff_exists.mp h.top
  obtain ⟨r, hr0⟩ := State.topJava?_eq_some.mp hg
  have hr1 : (T.setVm vm').frames = .java g₀ :: r := hr0
  have hsw : ∀ (u : State) (F G : List Frame), ((u.setFrames F).setVm vm').setFrames G = (u.setVm vm').setFrames G := fun u F G => by
    show ((u.setVm vm').setFrames F).setFrames G = _
    rw [State.setFrames_setFrames]
  rw [State.setTop_of_frames _ hr1] at hr
  rw [hr0, List.tail_cons, State.pushFrame, hsw, State.setTop_of_frames _ hr0, hsw]
  exact hr
end XCT
end
section
section XCL
variable {p : Program} {l : Launch} {e : Env} {R : Room} {s : State} {m : MethodId} {args : Array Value} {below : List Frame} {meth : Method} {c : Code} {locs : List Loc} {cells slots : Nat}
/-- what a callee that throws has done: one new cell of six slots, and writes at Lo -/
def x_End (st : State) (o : Outcome) (t : State) (q : Addr) (Lo : List Loc) : Prop := o = .threw q ∧ st.WarmedH t.vm ∧ st.sameButNew ({ t with vm := st.vm } : State) Lo 1 6
theorem x_thrown {U : State} {g : JFrame} {ig : Instr} {len W maxL : Nat} {y : MethodName} {mk : MethodId} {a : Array Value} {ws : List Cond} {rm : Room} {P : Array Value → State → Prop} {Q : Array Value → State → Outcome → State → Prop} {bytes : ByteArray} {ret : Option FieldType} {Z : List Loc → Prop}
    (X : Stand p l e R s m args below meth c U locs cells slots) (hM : MetFree l y (headSpec ws rm) P (fun _ _ _ _ _ => True) Q) (hg : g.method = m) (hsize : g.locals.size = c.maxLocals) (hdg : decode c.code g.pc = .ok (ig, len)) (hW : 2 * g.monitorRoom + (g.stack.map fun v => v.category).sum ≤ W) (hn : U.methodNamed? y = some mk)
    (hcode : (Cond.code y bytes maxL ret).before a U = true) (hini : (Cond.initialized y.cls).before a U = true) (hws : ∀ w ∈ ws, w.before a U = true) (hfr : rm.frames + 1 ≤ R.frames) (hlo : W + (maxL + 11) + rm.locals ≤ R.locals) (hc : cells + rm.cells ≤ R.cells) (hs : slots + rm.slots ≤ R.slots) (hP : P a (U.calling g mk a))
    (hQ : ∀ o t, Q a (U.calling g mk a) o t → ∃ q Lo, x_End (U.calling g mk a) o t q Lo ∧ Z Lo) :
    ∃ (q : Addr) (t T' : State) (Lo : List Loc), Z Lo ∧ Stand p l e R s m args below meth c T' (locs ++ Lo) (cells + 1) (slots + 6) ∧ T'.heap = t.heap ∧ T'.vm = t.vm ∧ Q a (U.calling g mk a) (.threw q) t ∧ Steps p.tables e below (doInvoke e (U.setTop g) [] mk a).1 ((T'.setTop g).pushFrame (.throwing q)) := by
  obtain ⟨methY, cY, hmY, hcY, -, hlY, -, -, -, -⟩ := Cond.code_spec hn hcode
  obtain ⟨kY, hkY, -⟩ := className_of_methodNamed hn
  have hinitY : kY.init = .initialized := Cond.initialized_spec (findClass_of_methodNamed hn) hkY hini
  have h : At U g.method c below := by rw [hg]; exact X.here
  have happ : (headSpec ws rm).appliesLoose y e.platform (U.calling g mk a) = true :=
    Spec.appliesLoose_calling (g := g) h hdg hn hkY hinitY
      (X.room_calling (g := g) (R' := (headSpec ws rm).room) hsize hmY hcY hfr (by rw [hlY]; show 2 * g.monitorRoom + _ + (maxL + 11) + rm.locals ≤ _; omega) hc hs) (atoms_intro hws)
  obtain ⟨mid, hmid⟩ := h.above
  have hfr' : (U.setTop g).frames = (.java g :: mid) ++ below := by rw [State.frames_setTop' g h.top, hmid]; rfl
  obtain ⟨o, s₂, hsteps, -, hend, hq⟩ := Steps.callFree hM p X.admits X.cas X.clock (acts := []) hfr' happ hP trivial
  have hq' : Q a (U.calling g mk a) o s₂ := hq
  obtain ⟨q, Lo, he, hz⟩ := hQ o s₂ hq'
  obtain ⟨ho, hW₂, e2, q2, q3, q4, q5, q6⟩ := id he
  subst ho
  have hf₂ : s₂.frames = .throwing q :: (U.setTop g).frames := hend
  have hW' : U.WarmedH s₂.vm := hW₂
  have e3 : s₂ = ({ (U.calling g mk a).setFrames s₂.frames with heap := s₂.heap, slotsUsed := s₂.slotsUsed } : State).setVm s₂.vm := by
    have : s₂ = ({ s₂ with vm := (U.calling g mk a).vm } : State).setVm s₂.vm := rfl
    rw [e2] at this
    exact this
  obtain ⟨g₀, hg0⟩ := Option.isSome_iff_exists.mp h.top
  obtain ⟨r, hr⟩ := State.topJava?_eq_some.mp hg0
  have hr' : (({ U with heap := s₂.heap, slotsUsed := s₂.slotsUsed } : State).setVm s₂.vm).frames = .java g₀ :: r := hr
  have hs₂ : s₂ = ((({ U with heap := s₂.heap, slotsUsed := s₂.slotsUsed } : State).setVm s₂.vm).setTop g).pushFrame (.throwing q) := by
    refine e3.trans ?_
    have hA : At (({ U with heap := s₂.heap, slotsUsed := s₂.slotsUsed } : State).setVm s₂.vm) g.method c below := (h.setHeapUsed s₂.heap s₂.slotsUsed).setVm hW'.alike
    rw [hf₂, State.calling_eq h.top, State.setFrames_setFrames, State.pushFrame, State.frames_setTop' g hA.top, State.frames_setTop' g h.top, State.setTop_of_frames _ hr', State.setFrames_setFrames]
    rfl
  have hsame : U.sameButNew ({ U with heap := s₂.heap, slotsUsed := s₂.slotsUsed } : State) Lo 1 6 := by
    refine ⟨?_, q2, q3, q4, q5, q6⟩
    obtain ⟨t, ht, -⟩ := State.frames_cons hr
    show ({ U with heap := s₂.heap, slotsUsed := s₂.slotsUsed } : State) = { U.setFrames U.frames with heap := s₂.heap, slotsUsed := s₂.slotsUsed }
    rw [State.setFrames_self ht]
  subst hg
  refine ⟨q, s₂, (({ U with heap := s₂.heap, slotsUsed := s₂.slotsUsed } : State).setVm s₂.vm), Lo, hz,
    ⟨X.admits, X.cas, X.clock, X.frames, X.room, X.hears, X.method, X.code, (X.here.setHeapUsed s₂.heap s₂.slotsUsed).setVm hW'.alike, X.tail, State.WarmedH.trans X.warmed hW', X.limits, X.bytes, X.same.trans (hsame.setVm s.vm)⟩, rfl, rfl, hq', ?_⟩
  rw [← hs₂]
  exact hsteps
end XCL
end
section
section XCO
variable {L : g_L} {M : g_M}
def g_PX (D : va_G) (cs : g_cs) (A : Nat → Prop) (ad : Nat → Nat) (L : g_L) (M' : g_M) (E : String) : Array Value → State → Outcome → State → Prop := fun _ st oc t =>
  ∃ (q : Nat) (ce : Cell) (Lo : List Loc), x_End st oc t q Lo ∧ st.heap.size ≤ q ∧ t.heap[q]? = some ce ∧ ce.vm = .none ∧ st.vm.findClass E = some ce.cls ∧ va_P D vwCl (g_W cs ad L M') t.heap ∧ va_D A (g_W cs ad L M') ∧ (∀ k j, g_rg (M' k j)) ∧ g_wf L ∧ va_F A st t ∧ ∀ x ∈ Lo, A x.base
/-- y, called with the values av in the memory M, throws an E and leaves the memory M' -/
def CoX (y : MethodName) (ws : List Cond) (rm : Room) (L : g_L) (M : g_M) (av : List g_v) (M' : g_M) (E : String) : Prop :=
  (∀ k j, g_rg (M k j)) → g_wf L → (∀ v ∈ av, g_okl L.length v) → ∀ (l : Launch), l.stackTraces = false → ∀ (D : va_G) (cs : g_cs) (ad : Nat → Nat) (sz : Nat),
    MetFree l y (headSpec ws rm) (g_Pre D cs ad L M av sz) (fun _ _ _ _ _ => True) (g_PX D cs (va_A (g_W cs ad L M) sz) ad L M' E)
/-- the place of a throw -/
def g_thr (cc : ByteArray) (E : String) (L' : g_L) (M' : g_M) : g_Fin := fun pc _ st L2 M2 nc ns => L2 = L' ∧ M2 = M' ∧ nc = 0 ∧ ns = 0 ∧ st = [] ∧ ∃ (ik is ic : Nat) (text : String), x_Ex E ik ic ∧ (is, text) ∈ x_str ∧
  decode cc pc = .ok (.new ik, 3) ∧ decode cc (pc + 3) = .ok (.dup, 1) ∧ decode cc (pc + 4) = .ok (.ldc is, 2) ∧ decode cc (pc + 6) = .ok (.invokespecial ic, 3) ∧ decode cc (pc + 9) = .ok (.athrow, 1)
theorem conX_of {y : MethodName} {ws ws' : List Cond} {rm : Room} {bytes : ByteArray} {maxL : Nat} {ret : Option FieldType} {av : List g_v} {ls0 : g_Ls} {M' : g_M} {E : String} (hy : plainName y.cls = true) (hw : ws = Cond.code y bytes maxL ret :: ws') (hlen : av.length ≤ maxL) (hls : ∀ (i : Nat) (v : g_v), ls0[i]? = some (some v) → av[i]? = some v) (hgw : ∀ w ∈ gw, w ∈ ws) (hcl : y.cls = R_Fu) (hR : 6 ≤ rm.frames ∧ 90 ≤ rm.locals) (hRc : 1 ≤ rm.cells ∧ 6 ≤ rm.slots)
    (hE : Ev (y.cls, bytes, maxL, ret, (fun _ _ _ _ => True), y.name) rm (g_thr bytes E L M') 0 ls0 [] L M 0 0) : CoX y ws rm L M av M' E := by
  intro hRg hwf hav l hl D cs ad sz
  refine MetFree.of_bodyS (code := bytes) (maxLocals := maxL) (ret := ret) hy ?_ ?_
  · intro args s m h hn
    obtain ⟨meth, c, h1, h2, h3, h4, h5, h6, -, -⟩ := Cond.code_spec hn (atoms_spec (ws := ws) h _ (by rw [hw]; exact List.mem_cons_self))
    exact ⟨meth, c, h1, h2, h3, h4, h5, h6⟩
  · intro p e s m args below meth c s₁ B hml hv _
    obtain ⟨rfl, hsz, hP, hK, hD0, hZ0⟩ := hv
    subst hsz
    have hts := atoms_spec (ws := ws) B.pre
    have hcode : (Cond.code y bytes maxL ret).before (av.map (g_val ad)).toArray s = true := hts _ (by rw [hw]; exact List.mem_cons_self)
    have hown : s.vm.findClass y.cls = some m.cls := findClass_of_methodNamed B.named
    have hnm : meth.name = y.name := (name_of_methodNamed B.named B.method).1
    have hl0 := lv_entry (av.map (g_val ad)) (n := maxL) (by rw [g_sl av hav]; exact hlen)
    have hgts : ∀ w ∈ gw, w.before (av.map (g_val ad)).toArray s = true := fun w h => hts w (hgw w h)
    have hW : W p l e (headSpec ws rm).room s m (av.map (g_val ad)).toArray below meth c s.heap [] 0 0 (fun t => ∃ o, t.status = .running ∧ Ended t below o ∧ g_PX D cs (va_A (g_W cs ad L M) s.heap.size) ad L M' E (av.map (g_val ad)).toArray s o t) (entryFrame m (av.map (g_val ad)).toArray maxL) := by
      rw [lg_entry_eq]
      refine hE p l e s m _ below meth c _ D cs (va_A (g_W cs ad L M) s.heap.size) ⟨⟨B.exec, B.bytes, hml, hown, hgts⟩, B.returns, B.notSynchronized, hK, fun x h => Or.inr h, ⟨hZ0, x_no_of hP, trivial⟩, hnm⟩ ad s.heap [] _ ⟨hP, hD0.self, va_S.rf, hRg, hwf⟩ ⟨⟨hl0.1, hl0.2.1, fun i v hi => ?_⟩, fun i v hi => ?_, fun v hv => absurd hv List.not_mem_nil⟩ ?_
      · have h1 := g_args (ad := ad) av 0 i v hav (hls i v hi)
        rw [Nat.zero_add] at h1
        exact hl0.2.2 _ h1
      · exact hav v (List.mem_of_getElem? (hls i v hi))
      · intro pc' ls' st' L2 M2 nc' ns' ad' H' locs' lsA' hf f2 f3 hH' hV'
        obtain ⟨rfl, rfl, rfl, rfl, rfl, ik, is, ic, text, hx, hstr, d0, d3, d4, d6, d9⟩ := hf
        have ha : g_W cs ad' L2 M2 = g_W cs ad L2 M2 := by
          apply List.ext_getElem?
          intro j
          simp only [g_W, List.getElem?_mapIdx]
          cases hj : L2[j]? with
          | none => rfl
          | some c0 => simp only [Option.map_some]; rw [g_ent_ad (M := M2) hwf hj f2 rfl]
        rw [hcl] at hown
        refine x_throw B.exec B.bytes hl hown hgts hK.2.2 hZ0 hH'.2.2.1 (by rw [hml]; exact hV'.1.1) B.notSynchronized (covers_of_empty (B.noHandlers hcode) _) hx hstr d0 d3 d4 d6 d9 hR ⟨by show 0 + 1 ≤ rm.cells; omega, by show 0 + 6 ≤ rm.slots; omega⟩ ?_
        intro U q ce h1 h2 h3 h4 h5 h6 h7 h8 h9 h10
        have hkp : ∀ (k : Nat) (x : Nat × va_E), (g_W cs ad' L2 M2)[k]? = some x → U.heap[x.1]? = H'[x.1]? := fun k x hx => h10 x.1 ((hH'.1 k x hx).lt)
        refine ⟨.threw q, h1, h2, q, ce, locs', ⟨rfl, h7, by simpa using h8⟩, Nat.le_trans hH'.2.2.1.1 h3, h4, h5, h6, ?_, ?_, hH'.2.2.2.1, hwf, ⟨Nat.le_trans hH'.2.2.1.1 h9, fun z z1 z2 => ?_⟩, hH'.2.2.1.2.2⟩
        · rw [← ha]
          exact hH'.1.kept hkp
        · rw [← ha]
          exact hH'.2.1
        · rw [h10 z (Nat.lt_of_lt_of_le z1 hH'.2.2.1.1)]
          exact hH'.2.2.1.2.1 z z1 z2
    have hh0 : s₁.heap = s.heap := by rw [B.state]; rfl
    obtain ⟨t, a1, o, b1, b2, b3⟩ := hW s₁ hh0 (Stand.of_body B)
    exact ⟨t, o, a1, b1, b2, b3⟩
end XCO
end
section
section XEV
variable {Me : g_Me} {R : Room} {Fi : g_Fin} {pc q : Nat} {ls : g_Ls} {st : List g_v} {L : g_L} {M : g_M} {nc ns : Nat}
abbrev x_rows (c : Code) : List (Nat × Nat × Nat × Nat) := c.exceptionTable.toList.map (fun h => (h.startPc, h.endPc, h.handlerPc, h.catchType))
/-- a method with a table of handlers, in a launch without stack traces -/
def x_tab (hh : List (Nat × Nat × Nat × Nat)) : Launch → State → Code → (Nat → Prop) → Prop := fun l _ c _ => l.stackTraces = false ∧ x_rows c = hh
/-- which row catches an E at pc: the first, or the second where the first names a class that E isn't -/
def x_Hit (own : String) (hh : List (Nat × Nat × Nat × Nat)) (pc : Nat) (E : String) (hp : Nat) : Prop :=
  (∃ (a b ct : Nat) (t : List (Nat × Nat × Nat × Nat)), hh = (a, b, hp, ct) :: t ∧ a ≤ pc ∧ pc < b ∧ ct ≠ 0 ∧ Cond.classLink own ct E ∈ gw ∧ E ∈ x_cast) ∨
  ∃ (a b ct a1 b1 h1 ct1 : Nat) (E1 : String) (t : List (Nat × Nat × Nat × Nat)), hh = (a1, b1, h1, ct1) :: (a, b, hp, ct) :: t ∧ (a ≤ pc ∧ pc < b ∧ ct ≠ 0 ∧ Cond.classLink own ct E ∈ gw ∧ E ∈ x_cast) ∧ a1 ≤ pc ∧ pc < b1 ∧ ct1 ≠ 0 ∧ Cond.classLink own ct1 E1 ∈ gw ∧ (E, E1) ∈ x_nc
theorem x_Rw.hit {e : Env} {s : State} {m : MethodId} {args : Array Value} {own E : String} {x : ExceptionTableEntry} {thrown : ClassId} (hpl : e.platform.magicAccessors = ({} : Platform).magicAccessors) (hown : s.vm.findClass own = some m.cls) (hts : ∀ w ∈ gw, w.before args s = true) (hN : x_N s) (ht : s.vm.findClass E = some thrown) (h1 : x.startPc ≤ pc) (h2 : pc < x.endPc) (h3 : x.catchType ≠ 0) (h4 : Cond.classLink own x.catchType E ∈ gw) (h5 : E ∈ x_cast) : x_Rw e.platform s m.cls thrown pc x true := by
  obtain ⟨k, hk, hl⟩ := Cond.classLink_spec hown (hts _ h4) e.platform hpl
  obtain ⟨c3, c4, g3, g4, g5⟩ := Cond.castable_spec (va_Nw.use (A := args) rfl (hN.1 E h5))
  cases Option.some.inj (g3.symm.trans ht)
  cases Option.some.inj (g4.symm.trans ht)
  cases Option.some.inj (hk.symm.trans ht)
  exact ⟨by simp [covers, h1, h2], h3, _, hl, g5⟩
theorem x_Rw.pass {e : Env} {s : State} {m : MethodId} {args : Array Value} {own E E1 : String} {x : ExceptionTableEntry} {thrown : ClassId} (hpl : e.platform.magicAccessors = ({} : Platform).magicAccessors) (hown : s.vm.findClass own = some m.cls) (hts : ∀ w ∈ gw, w.before args s = true) (hN : x_N s) (ht : s.vm.findClass E = some thrown) (h1 : x.startPc ≤ pc) (h2 : pc < x.endPc) (h3 : x.catchType ≠ 0) (h4 : Cond.classLink own x.catchType E1 ∈ gw) (h5 : (E, E1) ∈ x_nc) : x_Rw e.platform s m.cls thrown pc x false := by
  obtain ⟨k, hk, hl⟩ := Cond.classLink_spec hown (hts _ h4) e.platform hpl
  obtain ⟨c3, c4, g3, g4, g5⟩ := hN.2.2.1 _ h5
  cases Option.some.inj (g3.symm.trans ht)
  cases Option.some.inj (g4.symm.trans hk)
  exact ⟨by simp [covers, h1, h2], h3, _, hl, g5⟩
theorem x_find {e : Env} {s S : State} {f : JFrame} {m : MethodId} {a : Addr} {args : Array Value} {meth : Method} {code : Code} {cell : Cell} {own E : String} {hh : List (Nat × Nat × Nat × Nat)} {hp : Nat} (hpl : e.platform.magicAccessors = ({} : Platform).magicAccessors) (hf : f.method = m) (hfp : f.pc = pc) (hown : s.vm.findClass own = some m.cls) (hts : ∀ w ∈ gw, w.before args s = true) (hN : x_N s) (ht : s.vm.findClass E = some cell.cls)
    (hm : S.vm.method? f.method = some meth) (hc : meth.code = some code) (hW : s.WarmedH S.vm) (hcell : S.heap[a]? = some cell) (hobj : cell.vm = .none) (hr : x_rows code = hh) (h : x_Hit own hh pc E hp) : ∃ vm1, s.WarmedH vm1 ∧ x_Fd e S f a hp vm1 := by
  subst hf
  subst hfp
  have hk : ∃ c1, s.vm.classes[cell.cls]? = some c1 := Vm.classAt_of_findClass ht
  rcases h with ⟨a0, b0, ct, t, rfl, h1, h2, h3, h4, h5⟩ | ⟨a0, b0, ct, a1, b1, hp1, ct1, E1, t, rfl, ⟨h1, h2, h3, h4, h5⟩, k1, k2, k3, k4, k5⟩
  · obtain ⟨x, t', e1, e2, e3⟩ := List.map_eq_cons_iff.mp hr
    cases e2
    exact x_fd1 hm hc e1 hW hcell hobj hk (x_Rw.hit hpl hown hts hN ht h1 h2 h3 h4 h5)
  · obtain ⟨y, t1, e1, e2, e3⟩ := List.map_eq_cons_iff.mp hr
    obtain ⟨x, t2, f1, f2, f3⟩ := List.map_eq_cons_iff.mp e3
    cases e2
    cases f2
    subst f1
    exact x_fd2 hm hc e1 hW hcell hobj hk (x_Rw.pass hpl hown hts hN ht k1 k2 k3 k4 k5) (x_Rw.hit hpl hown hts hN ht h1 h2 h3 h4 h5)
theorem ev_callVX {idx maxL ci k hp : Nat} {y : MethodName} {ws : List Cond} {rm : Room} {fsr : List g_F} {As st0 : List g_v} {M' : g_M} {E : String} {hh : List (Nat × Nat × Nat × Nat)} (h : decode Me.2.1 pc = .ok (.invokevirtual idx, 3)) (hT : Me.2.2.2.2.1 = x_tab hh) (hH9 : x_Hit Me.1 hh pc E hp) (hC : g_CV Me.1 idx y ws As.length maxL ci) (hM : CoX y ws rm L M (g_r k :: As) M' E)
    (hR : rm.frames + 1 ≤ R.frames ∧ 8 + (maxL + 11) + rm.locals ≤ R.locals) (hcs : nc + rm.cells ≤ R.cells ∧ ns + rm.slots ≤ R.slots) (hk : L[k]? = some (.inr (ci, fsr))) (hnj : As.all g_nj = true) (hs : st0 = (g_r k :: As).reverse ++ st) (hst : (st.map g_cw).sum ≤ 8)
    (kk : ∀ x : Nat, Ev Me R Fi hp ls [g_o x] L M' (nc + 1) (ns + 6)) : Ev Me R Fi pc ls st0 L M nc ns := by
  intro p l e s m args below meth c Q D cs A C0 ad H locs lsA hH hV hF
  obtain ⟨⟨bytes, ret, ws', hw⟩, hG, hd, T0, N0, hc⟩ := hC
  obtain ⟨hltr, htab⟩ : l.stackTraces = false ∧ x_rows c = hh := by
    have := C0.2.2.2.2.2.1.2.2
    rw [hT] at this
    exact this
  have hav : ∀ v ∈ g_r k :: As, g_okl L.length v := by
    intro v hv
    refine g_nj_okl ?_ (hV.2.2 v (by rw [hs]; exact List.mem_append_left _ (List.mem_reverse.mpr hv)))
    rcases List.mem_cons.mp hv with rfl | hv
    · rfl
    · exact List.all_eq_true.mp hnj v hv
  have hts := C0.1.2.2.2.2
  have hexec := C0.1.1
  have hown := C0.1.2.2.2.1
  obtain ⟨⟨-, -, -, -, hwsU, hcw, hcode, hini, hy, hlen, hlink⟩, hinst, hsel⟩ := cwV (rm := rm) (R := R) As.length hts hG hw rfl rfl ⟨rfl, hd⟩ hR
  obtain ⟨cellB, hcB, hoB, hclB⟩ := va_recv C0.2.2.2.1.1 hH.1 hc (g_W_at hk)
  intro T hTh X
  subst hTh
  obtain ⟨mk, methM, hnamed, hmethM, hstM, habM⟩ := Cond.instanceMethod_spec hinst
  obtain ⟨methM', cM, hmethM', -, -, -, -, -, -, hsigM⟩ := Cond.code_spec hnamed hcode
  cases hmethM.symm.trans hmethM'
  obtain ⟨c2, r2, m2, z1, z2, z3, z4, kP, hkP, hkPi⟩ := Cond.selects_spec hsel
  cases hclB.symm.trans z1
  cases (State.methodFound?_of_named hnamed hy).symm.trans z2
  cases hnamed.symm.trans z3
  have hselP : selectMethod e.platform s.vm cellB.cls mk = .method mk := by rw [Launch.admits_selectMethod X.admits]; exact z4
  obtain ⟨vm₁, X₁, hstep₁⟩ := X.invokevirtual hexec hown hlink hnamed hmethM hstM hkP hkPi hy (a := ad k) (cell := cellB) hcB (fun z h9 => by rw [h9] at hoB; cases hoB) hselP hmethM habM hkP hkPi (g := F0 m pc lsA (st0.map (g_val ad))) rfl (argsL := As.map (g_val ad)) (rest := st.map (g_val ad)) (by rw [List.length_map]; exact hlen _ hsigM) (by rw [hs]; simp [g_val]) (by rw [C0.1.2.1]; exact h)
  have hWm := X₁.warmed
  obtain ⟨x, t, T', Lo, hLo, X2, eh, ev, hq, hst2⟩ := x_thrown (Z := fun Lo => ∀ x ∈ Lo, va_A (g_W cs ad L M) T.heap.size x.base) (g := F0 m pc lsA (st.map (g_val ad))) (a := (Value.ref (ad k) :: As.map (g_val ad)).toArray) X₁ (hM hH.2.2.2.1 hH.2.2.2.2 hav l hltr D cs ad T.heap.size) rfl (by rw [C0.1.2.2.1]; exact hV.1.1) (by rw [C0.1.2.1]; exact h) (lv_room (by rw [g_cw_sum]; exact hst)) (X₁.named hnamed)
    (hwsU _ hcw _ _ hWm) (word_at hWm (Or.inl (by first | rfl | simp [Cond.onTables, Cond.keeps, Cond.steady])) hini) (fun w hw9 => hwsU w hw9 _ _ hWm) hR.1 hR.2 hcs.1 hcs.2
    (g_blind _ _ _ _ (g_preC (av := g_r k :: As) C0.2.2.2.1 C0.2.2.2.2.2.1.1 C0.2.2.2.2.1 hH (T.setVm vm₁) rfl hWm))
    (fun o t ho => by obtain ⟨q9, ce9, Lo9, h9, -, -, -, -, -, -, -, -, -, h8⟩ := ho; exact ⟨q9, Lo9, h9, h8⟩)
  obtain ⟨q1, ce, Lo1, hend1, hnew, hce, hcv, hcl, hP1, hD1, hrg1, hwf1, hF1, hLo1⟩ := hq
  obtain ⟨ho1, -, hsb1⟩ := hend1
  cases ho1
  have hA1 := g_A1 hH C0.2.2.2.2.1
  have hpl : e.platform.magicAccessors = ({} : Platform).magicAccessors := by rw [X.admits.platform]
  have hclE : s.vm.findClass E = some ce.cls := by
    have h9 : (T.setVm vm₁).vm.findClass E = some ce.cls := hcl
    rw [← hWm.alike.findClass]
    exact h9
  obtain ⟨vm2, hW2, hfd⟩ := x_find (e := e) (s := s) (S := (T'.setTop (F0 m pc lsA (st.map (g_val ad)))).pushFrame (.throwing x)) (f := F0 m pc lsA (st.map (g_val ad))) (a := x) (meth := meth) (code := c) (cell := ce) hpl rfl rfl hown hts C0.2.2.2.1.2.2 hclE
    (by rw [Stand.throwing_vm]; exact X2.method') X.code (by rw [Stand.throwing_vm]; exact X2.warmed) (by rw [Stand.throwing_heap, eh]; exact hce) hcv htab hH9
  have hS1 : va_S A s.heap T'.heap (locs ++ Lo) := by
    refine ⟨Nat.le_trans hH.2.2.1.1 (by rw [eh]; exact hF1.1), fun z z1 z2 => ?_, fun z hz => ?_⟩
    · rw [eh, hF1.2 z (Nat.lt_of_lt_of_le z1 hH.2.2.1.1) (fun w => z2 (hA1 z w))]
      exact hH.2.2.1.2.1 z z1 z2
    · rcases List.mem_append.mp hz with h9 | h9
      · exact hH.2.2.1.2.2 z h9
      · exact hA1 _ (hLo z h9)
  obtain ⟨t2, b1, b2⟩ := kk x p l e s m args below meth c Q D cs A C0 ad T'.heap (locs ++ Lo) lsA ⟨by rw [eh]; exact hP1, hD1.weaken (fun _ z _ h9 => hA1 z.1 h9), hS1, hrg1, hwf1⟩ (g_V_st hV (fun v hv => by rw [List.mem_singleton.mp hv]; exact trivial)) hF (T'.setVm vm2) rfl (X2.noted hW2)
  refine ⟨t2, hstep₁ _ (fun acts => ?_), b2⟩
  rw [doInvoke_state]
  exact hst2.trans (x_caught X2.here hfd b1)
/-- a contract of a method in a launch without stack traces -/
def ConL (y : MethodName) (ws : List Cond) (rm : Room) (L : g_L) (M : g_M) (av : List g_v) (L' : g_L) (M' : g_M) (r : Option g_v) : Prop :=
  (∀ k j, g_rg (M k j)) → g_wf L → (∀ v ∈ av, g_okl L.length v) → ∀ (l : Launch), l.stackTraces = false → ∀ (D : va_G) (cs : g_cs) (ad : Nat → Nat) (sz : Nat),
    Met l y ws rm (g_Pre D cs ad L M av sz) (g_Post D cs (va_A (g_W cs ad L M) sz) ad L.length L' M' r) rm.cells rm.slots (va_A (g_W cs ad L M) sz)
theorem conW_of {y : MethodName} {ws ws' : List Cond} {rm : Room} {bytes : ByteArray} {maxL : Nat} {ret : Option FieldType} {hh : List (Nat × Nat × Nat × Nat)} {av : List g_v} {ls0 : g_Ls} {L' : g_L} {M' : g_M} {r : Option g_v} (hy : plainName y.cls = true) (hw : ws = Cond.codeWith y bytes maxL ret hh :: ws') (hlen : av.length ≤ maxL) (hls : ∀ (i : Nat) (v : g_v), ls0[i]? = some (some v) → av[i]? = some v)
    (hgw : ∀ w ∈ gw, w ∈ ws) (hE : Ev (y.cls, bytes, maxL, ret, x_tab hh, y.name) rm (g_fin bytes ret rm.cells rm.slots L' M' r) 0 ls0 [] L M 0 0) : ConL y ws rm L M av L' M' r := by
  intro hRg hwf hav l hltr D cs ad sz
  refine va_MetW (cc := bytes) (maxL := maxL) (ret := ret) (hh := hh) hy hw ?_
  intro p e s m args below meth c s₁ B hml hv
  obtain ⟨rfl, hsz, hP, hK, hD0, hZ0⟩ := hv
  subst hsz
  have hts := atoms_spec (ws := ws) B.pre
  have hown : s.vm.findClass y.cls = some m.cls := findClass_of_methodNamed B.named
  have hnm : meth.name = y.name := (name_of_methodNamed B.named B.method).1
  have htab : x_rows c = hh := by
    obtain ⟨m9, meth9, c9, g1, g2, g3, -, -, g4, -⟩ := Cond.codeWith_spec (hts _ (by rw [hw]; exact List.mem_cons_self))
    cases B.named.symm.trans g1
    cases B.method.symm.trans g2
    cases (Stand.of_body B).code.symm.trans g3
    exact g4
  have hl := lv_entry (av.map (g_val ad)) (n := maxL) (by rw [g_sl av hav]; exact hlen)
  rw [lg_entry_eq]
  refine hE p l e s m _ below meth c _ D cs (va_A (g_W cs ad L M) s.heap.size) ⟨⟨B.exec, B.bytes, hml, hown, fun w hw => hts w (hgw w hw)⟩, B.returns, B.notSynchronized, hK, fun x h => Or.inr h, ⟨hZ0, x_no_of hP, hltr, htab⟩, hnm⟩ ad s.heap [] _ ⟨hP, hD0.self, va_S.rf, hRg, hwf⟩ ⟨⟨hl.1, hl.2.1, fun i v hi => ?_⟩, fun i v hi => ?_, fun v hv => absurd hv List.not_mem_nil⟩ ?_
  · have h1 := g_args (ad := ad) av 0 i v hav (hls i v hi)
    rw [Nat.zero_add] at h1
    exact hl.2.2 _ h1
  · exact hav v (List.mem_of_getElem? (hls i v hi))
  · intro pc' ls' st' L2 M2 nc' ns' ad' H' locs' lsA' hf f2 f3 hH' hV'
    obtain ⟨rfl, rfl, n1, n2, rfl, hr⟩ := hf
    refine W.widen n1 n2 ?_
    have hpost : ∀ t : State, t.heap = H' → s.WarmedH t.vm → g_Post D cs (va_A (g_W cs ad L M) s.heap.size) ad L.length L2 M2 r (av.map (g_val ad)).toArray s (.returned (r.map (g_val ad'))) t :=
      fun t ht hW => ⟨⟨ad', f2, f3, rfl, by rw [ht]; exact hH'.1, hH'.2.1, hH'.2.2.2.1, hH'.2.2.2.2, fun v hv => hV'.2.2 v (by rw [hv]; exact List.mem_cons_self)⟩, hH'.2.2.1.F ht⟩
    rcases r with _ | z | k | z | a
    · exact W.vret B.exec B.bytes (B.returns.trans hr.2) hpost hH'.2.2.1.2.2 hr.1
    · obtain ⟨hr1, hr2 | ⟨hr2, hz⟩⟩ := hr
      · exact W.iret B.exec B.bytes (B.returns.trans hr2) hpost hH'.2.2.1.2.2 hr1
      · refine W.zret B.exec B.bytes (B.returns.trans hr2) ?_ hpost hH'.2.2.1.2.2 hr1
        rcases hz with rfl | rfl
        · decide +kernel
        · decide +kernel
    · exact absurd hr id
    · exact absurd hr id
    · exact absurd hr id
end XEV
end
section
section LW1
variable {Me : g_Me} {R : Room} {Fi : g_Fin} {pc q : Nat} {ls : g_Ls} {st : List g_v} {L : g_L} {M : g_M} {nc ns : Nat}
theorem g_ofL {x : Int} (h : g_rg x) : (Int32.ofInt x).toInt64 = Int64.ofInt x := by
  rw [← Int64.ofInt_int32ToInt, g_t h]
theorem ev_i2l {x : Int} (h : decode Me.2.1 pc = .ok (.i2l, 1)) (hq : pc + 1 = q) (k : Ev Me R Fi q ls (g_j x :: st) L M nc ns) : Ev Me R Fi pc ls (g_i x :: st) L M nc ns := by
  subst hq
  intro p l e s m args below meth c Q D cs A C ad H locs lsA hH hV hF
  have hx : g_rg x := g_hd hV.2.2
  exact lv_i2l C.1.1 C.1.2.1 h (g_ofL hx) (k p l e s m args below meth c Q D cs A C ad H locs lsA hH (g_V_st hV (g_st1 (v := g_j x) hx (g_tl hV.2.2))) hF)
theorem g_updL (f : Nat → Int) (i : Nat) (z : Int) : vp_updL (fun j => Int64.ofInt (f j)) i (Int64.ofInt z) = fun j => Int64.ofInt (if j = i then z else f j) := by
  funext j
  unfold vp_updL
  split <;> rfl
theorem ev_lastore {k n : Nat} {x z : Int} (h : decode Me.2.1 pc = .ok (.lastore, 1)) (hq : pc + 1 = q) (hL : L[k]? = some (.inl (2, n))) (h0 : 0 ≤ x) (hn : x < n) (kk : Ev Me R Fi q ls st L (g_up M k x.toNat z) nc ns) : Ev Me R Fi pc ls (g_j z :: g_i x :: g_r k :: st) L M nc ns := by
  subst hq
  intro p l e s m args below meth c Q D cs A C0 ad H locs lsA hH hV hF
  have hx : g_rg x := g_hd (g_tl hV.2.2)
  refine va_last (D := D) C0.1.1 C0.1.2.1 C0.2.2.2.1.1 hH.1 hH.2.1 hH.2.2.1 k 2 (g_W_at hL) rfl (g_in hx h0 hn) h ?_
  intro H1 locs1 a1 a2 a3
  rw [g_cl hx h0, g_updL] at a1 a2
  have e9 : (g_W cs ad L M).set k (ad k, .inl (cs.2.2, n, .inr (.inl (fun j => Int64.ofInt (if j = x.toNat then z else M k j))))) = g_W cs ad L (g_up M k x.toNat z) := by
    rw [← g_W_set hL (fun a ha => g_upN (i := x.toNat) (z := z) ha)]
    simp only [g_ent, g_arr, g_up_k]
  rw [e9] at a1 a2
  have hz : g_rg z := g_hd hV.2.2
  exact kk p l e s m args below meth c Q D cs A C0 ad H1 locs1 lsA ⟨a1, a2, a3, g_up_rg hH.2.2.2.1 hz, hH.2.2.2.2⟩ (g_V_st hV (g_tl (g_tl (g_tl hV.2.2)))) hF
theorem ev_laload {k n : Nat} {x z : Int} (h : decode Me.2.1 pc = .ok (.laload, 1)) (hq : pc + 1 = q) (hL : L[k]? = some (.inl (2, n))) (h0 : 0 ≤ x) (hn : x < n) (hz : M k x.toNat = z) (kk : Ev Me R Fi q ls (g_j z :: st) L M nc ns) : Ev Me R Fi pc ls (g_i x :: g_r k :: st) L M nc ns := by
  subst hq
  subst hz
  intro p l e s m args below meth c Q D cs A C0 ad H locs lsA hH hV hF
  have hx : g_rg x := g_hd hV.2.2
  refine va_lald (D := D) C0.1.1 C0.1.2.1 C0.2.2.2.1.1 hH.1 k 2 (g_W_at hL) rfl (g_in hx h0 hn) h ?_
  rw [g_cl hx h0]
  exact kk p l e s m args below meth c Q D cs A C0 ad H locs lsA hH (g_V_st hV (g_st1 (v := g_j (M k x.toNat)) (hH.2.2.2.1 k x.toNat) (g_tl (g_tl hV.2.2)))) hF
theorem g_tL {z : Int} (h : g_rg z) : (Int64.ofInt z).toInt = z := Int64.toInt_ofInt_of_le (by have := h.1; omega) (by have := h.2; omega)
theorem ev_lcmp {x y z : Int} (h : decode Me.2.1 pc = .ok (.lcmp, 1)) (hq : pc + 1 = q) (hz : (if y < x then 1 else if x = y then 0 else -1) = z) (k : Ev Me R Fi q ls (g_i z :: st) L M nc ns) : Ev Me R Fi pc ls (g_j y :: g_j x :: st) L M nc ns := by
  subst hq
  subst hz
  intro p l e s m args below meth c Q D cs A C ad H locs lsA hH hV hF
  have hy : g_rg y := g_hd hV.2.2
  have hx : g_rg x := g_hd (g_tl hV.2.2)
  have hk := k p l e s m args below meth c Q D cs A C ad H locs lsA hH (g_V_st hV (g_st1 (v := g_i (if y < x then 1 else if x = y then 0 else -1)) (by show g_rg _; unfold g_rg; split <;> (try split) <;> omega) (g_tl (g_tl hV.2.2)))) hF
  refine W.lcmp (x := Int64.ofInt x) (y := Int64.ofInt y) C.1.1 C.1.2.1 h ?_
  have a1 : Int64.ofInt y < Int64.ofInt x ↔ y < x := by rw [Int64.lt_iff_toInt_lt, g_tL hy, g_tL hx]
  have a2 : Int64.ofInt x = Int64.ofInt y ↔ x = y := by rw [← Int64.toInt_inj, g_tL hy, g_tL hx]
  have e9 : lg_cmp (Int64.ofInt x) (Int64.ofInt y) = Int32.ofInt (if y < x then 1 else if x = y then 0 else -1) := by
    unfold lg_cmp
    simp only [a1, a2, GT.gt]
    split
    · rfl
    · split <;> rfl
  rw [e9]
  exact hk
/-- the law's own script -/
theorem ev_sld {b N : Nat} {xs : Nat → Int32} {x : Int} (hEx : ∀ l s c A, Me.2.2.2.2.1 l s c A → va_X b N xs s s.heap ∧ b < s.heap.size ∧ ¬ A b) (h : decode Me.2.1 pc = .ok (.iaload, 1)) (hq : pc + 1 = q) (h0 : 0 ≤ x) (hn : x < N) (k : Ev Me R Fi q ls (g_i (xs x.toNat).toInt :: st) L M nc ns) : Ev Me R Fi pc ls (g_i x :: g_o b :: st) L M nc ns := by
  subst hq
  intro p l e s m args below meth c Q D cs A C ad H locs lsA hH hV hF
  have hx : g_rg x := g_hd hV.2.2
  obtain ⟨e1, e2, e3⟩ := hEx _ _ _ _ C.2.2.2.2.2.1.2.2
  have hk := k p l e s m args below meth c Q D cs A C ad H locs lsA hH (g_V_st hV (g_st1 (v := g_i (xs x.toNat).toInt) (g_rg_toInt _) (g_tl (g_tl hV.2.2)))) hF
  refine va_sld C.1.1 C.1.2.1 e1 e2 e3 hH.2.2.1 (g_in hx h0 hn) h ?_
  rw [g_cl hx h0]
  have e9 : g_val ad (g_i (xs x.toNat).toInt) = .int (xs x.toNat) := by
    show Value.int (Int32.ofInt (xs x.toNat).toInt) = _
    rw [Int32.ofInt_toInt]
  rw [List.map_cons, e9] at hk
  exact hk
theorem ev_slen {b N : Nat} {xs : Nat → Int32} (hEx : ∀ l s c A, Me.2.2.2.2.1 l s c A → va_X b N xs s s.heap ∧ b < s.heap.size ∧ ¬ A b) (hN : N < 2147483648) (h : decode Me.2.1 pc = .ok (.arraylength, 1)) (hq : pc + 1 = q) (k : Ev Me R Fi q ls (g_i (N : Int) :: st) L M nc ns) : Ev Me R Fi pc ls (g_o b :: st) L M nc ns := by
  subst hq
  intro p l e s m args below meth c Q D cs A C ad H locs lsA hH hV hF
  obtain ⟨e1, e2, e3⟩ := hEx _ _ _ _ C.2.2.2.2.2.1.2.2
  have hk := k p l e s m args below meth c Q D cs A C ad H locs lsA hH (g_V_st hV (g_st1 (v := g_i (N : Int)) (by show g_rg _; unfold g_rg; omega) (g_tl hV.2.2))) hF
  refine va_slen C.1.1 C.1.2.1 e1 e2 e3 hH.2.2.1 h ?_
  have e9 : g_val ad (g_i (N : Int)) = .int (Int32.ofNat N) := by
    show Value.int (Int32.ofInt (N : Int)) = _
    rw [Int32.ofInt_eq_ofNat]
  rw [List.map_cons, e9] at hk
  exact hk
theorem ev_tsIn {dflt lo hi off : Int} {offs : Array Int} {len tgt : Nat} {x : Int} (h : decode Me.2.1 pc = .ok (.tableswitch dflt lo hi offs, len)) (h1 : lo ≤ x) (h2 : x ≤ hi) (ho : offs[(x - lo).toNat]? = some off) (ht : (pc : Int) + off = (tgt : Int)) (k : Ev Me R Fi tgt ls st L M nc ns) : Ev Me R Fi pc ls (g_i x :: st) L M nc ns := by
  intro p l e s m args below meth c Q D cs A C ad H locs lsA hH hV hF
  have hx : g_rg x := g_hd hV.2.2
  exact lv_tableIn C.1.1 C.1.2.1 h (by rw [g_t hx]; omega) (by rw [g_t hx]; omega) (by rw [g_t hx]; exact ho) ht (k p l e s m args below meth c Q D cs A C ad H locs lsA hH (g_V_st hV (g_tl hV.2.2)) hF)
theorem ev_tsOut {dflt lo hi : Int} {offs : Array Int} {len tgt : Nat} {x : Int} (h : decode Me.2.1 pc = .ok (.tableswitch dflt lo hi offs, len)) (h1 : x < lo ∨ hi < x) (ht : (pc : Int) + dflt = (tgt : Int)) (k : Ev Me R Fi tgt ls st L M nc ns) : Ev Me R Fi pc ls (g_i x :: st) L M nc ns := by
  intro p l e s m args below meth c Q D cs A C ad H locs lsA hH hV hF
  have hx : g_rg x := g_hd hV.2.2
  exact lv_tableOut C.1.1 C.1.2.1 h (by rw [g_t hx]; exact h1) ht (k p l e s m args below meth c Q D cs A C ad H locs lsA hH (g_V_st hV (g_tl hV.2.2)) hF)
end LW1
end
section
section LW2
variable {Me : g_Me} {R : Room} {Fi : g_Fin} {pc q : Nat} {ls : g_Ls} {st : List g_v} {L : g_L} {M : g_M} {nc ns : Nat}
/-- a static method with a table of handlers -/
def g_CW (own : String) (idx : Nat) (y : MethodName) (ws : List Cond) (n maxL : Nat) : Prop :=
  (∃ (bytes : ByteArray) (ret : Option FieldType) (hh : List (Nat × Nat × Nat × Nat)) (ws' : List Cond), ws = Cond.codeWith y bytes maxL ret hh :: ws') ∧ GoodIn gw ws ∧ (y.cls ≠ "java/lang/invoke/MethodHandle" ∧ y.cls ≠ "java/lang/invoke/VarHandle" ∧ (parseMethodDescriptor y.desc).map (fun d => d.parameters.length) = some n) ∧ Cond.static y ∈ gw ∧ Cond.initialized y.cls ∈ gw ∧ Cond.methodLink own idx y ∈ gw
theorem ev_callW {idx maxL : Nat} {y : MethodName} {ws : List Cond} {rm : Room} {As st0 : List g_v} {L' : g_L} {M' : g_M} {r : Option g_v} {nc' ns' : Nat} (hl0 : ∀ l s c A, Me.2.2.2.2.1 l s c A → l.stackTraces = false) (h : decode Me.2.1 pc = .ok (.invokestatic idx, 3)) (hq : pc + 3 = q) (hC : g_CW Me.1 idx y ws As.length maxL) (hM : ConL y ws rm L M As L' M' r)
    (hR : rm.frames + 1 ≤ R.frames ∧ 8 + (maxL + 11) + rm.locals ≤ R.locals) (hcs : nc + rm.cells ≤ R.cells ∧ ns + rm.slots ≤ R.slots) (hnj : As.all g_nj = true) (hs : st0 = As.reverse ++ st) (hst : (st.map g_cw).sum ≤ 8) (hnc : nc + rm.cells = nc') (hns : ns + rm.slots = ns')
    (kk : Ev Me R Fi q ls (r.toList ++ st) L' M' nc' ns') : Ev Me R Fi pc ls st0 L M nc ns := by
  subst hq
  subst hnc
  subst hns
  intro p l e s m args below meth c Q D cs A C0 ad H locs lsA hH hV hF
  obtain ⟨⟨bytes, ret, hh, ws', hw⟩, hG, hd, h1, h2, h3⟩ := hC
  have hts := C0.1.2.2.2.2
  have hltr := hl0 _ _ _ _ C0.2.2.2.2.2.1.2.2
  have hav : ∀ v ∈ As, g_okl L.length v := by
    intro v hv
    exact g_nj_okl (List.all_eq_true.mp hnj v hv) (hV.2.2 v (by rw [hs]; exact List.mem_append_left _ (List.mem_reverse.mpr hv)))
  have hcw : Cond.codeWith y bytes maxL ret hh ∈ ws := by rw [hw]; exact List.mem_cons_self
  have hwsU : ∀ w ∈ ws, ∀ (a' : Array Value) (U : State), s.WarmedH U.vm → w.before a' U = true := pay_in hts hG
  have hK : Back l R p e below s args y 3 8 (PreOf R rm.cells rm.slots (g_Pre D cs ad L M As H.size)) (PostOf (g_Post D cs (va_A (g_W cs ad L M) H.size) ad L.length L' M' r) rm.cells rm.slots (va_A (g_W cs ad L M) H.size)) :=
    va_backW (hh := hh) (bytes := bytes) (maxL := maxL) (ret := ret) (hM hH.2.2.2.1 hH.2.2.2.2 hav l hltr D cs ad H.size) g_blind rfl rfl hR.1 hR.2 hwsU hcw (fun a' U hW => word_at hW (Or.inl (by first | rfl | simp [Cond.onTables, Cond.keeps, Cond.steady])) (hts _ h2))
  have hrun : va_Run p l e R s m args below meth c H locs nc ns rm.cells rm.slots (F0 m pc lsA (st0.map (g_val ad))) (st.map (g_val ad)) (g_Post D cs (va_A (g_W cs ad L M) H.size) ad L.length L' M' r (As.map (g_val ad)).toArray) (va_A (g_W cs ad L M) H.size) := by
    intro T hT X
    obtain ⟨mk, methM, cM, hnamed, hmethM, -, -, -, -, -, -, hsigM⟩ := Cond.codeWith_spec (hts _ (hG _ hcw).1)
    have hstatic : methM.isStatic = true := Cond.static_spec hnamed hmethM (hts _ h1)
    obtain ⟨kP, hkP, -⟩ := className_of_methodNamed hnamed
    have hinitP : kP.init = .initialized := Cond.initialized_spec (findClass_of_methodNamed hnamed) hkP (hts _ h2)
    obtain ⟨vm₁, X₁, hstep₁⟩ := X.invokestatic C0.1.1 C0.1.2.2.2.1 (hts _ h3) hnamed hmethM hstatic hkP hinitP ⟨hd.1, hd.2.1⟩ (g := F0 m pc lsA (st0.map (g_val ad))) rfl (argsL := As.map (g_val ad)) (rest := st.map (g_val ad)) (by
      have h9 := hd.2.2
      rw [hsigM] at h9
      rw [List.length_map]
      exact (Option.some.inj h9).symm) (by rw [hs]; simp) (by rw [C0.1.2.1]; exact h)
    obtain ⟨v, ⟨U', l2, c2, s2⟩, X', ⟨g', mk', t, Lo, e1, e2, hq9, g1, hLo, g2, g3⟩, hsteps⟩ := hK m meth c ⟨T.setVm vm₁, locs, nc, ns⟩ (F0 m pc lsA (st.map (g_val ad))) (.invokestatic idx) mk (As.map (g_val ad)).toArray X₁ rfl (by rw [C0.1.2.2.1]; exact hV.1.1) (by rw [C0.1.2.1]; exact h) (lv_room (by rw [g_cw_sum]; exact hst)) (X₁.named hnamed) ⟨hcs.1, hcs.2, g_preC C0.2.2.2.1 C0.2.2.2.2.2.1.1 C0.2.2.2.2.1 hH (T.setVm vm₁) hT X₁.warmed⟩
    dsimp only [Pt.U, Pt.locs, Pt.cells, Pt.slots] at X' e1 e2 g1 g2 g3 hsteps
    subst g1; subst g2; subst g3
    exact ⟨v, (T.setVm vm₁).calling g' mk' (As.map (g_val ad)).toArray, t, U', Lo, hT, X', hLo, e1, e2, hq9, fun target h9 => hstep₁ _ fun acts => by rw [doInvoke_state]; exact hsteps.trans h9⟩
  exact g_callE C0 hH hV hs hF kk hrun
end LW2
end
