section
-- ===== PART A: goes FIRST, ahead of the names: the tables' words, and 'selects' of the private methods out of them =====
/-- a private method of a class that the tables say can be made, by its rows of tables_1 -/
def lw_okq (q : MethodName × Nat) : Prop := (q.1.cls ≠ "java/lang/invoke/MethodHandle" ∧ q.1.cls ≠ "java/lang/invoke/VarHandle") ∧ Cond.instantiable q.1.cls q.2 ∈ tables_1 ∧ Cond.privateMethod q.1 ∈ tables_1 ∧ Cond.instanceMethod q.1 ∈ tables_1
theorem lw_p0 : lw_okq (⟨"TwoLakes", "changed", "()Z"⟩, 13) := ⟨⟨by decide +kernel, by decide +kernel⟩, List.mem_of_getElem? (i := 14) (by decide +kernel), List.mem_of_getElem? (i := 233) (by decide +kernel), List.mem_of_getElem? (i := 234) (by decide +kernel)⟩
theorem lw_p1 : lw_okq (⟨"TwoLakes", "machineOf", "(I)LTwoLakes$Machine;"⟩, 13) := ⟨⟨by decide +kernel, by decide +kernel⟩, List.mem_of_getElem? (i := 14) (by decide +kernel), List.mem_of_getElem? (i := 258) (by decide +kernel), List.mem_of_getElem? (i := 259) (by decide +kernel)⟩
theorem lw_p2 : lw_okq (⟨"TwoLakes", "isLegalNow", "(I)Z"⟩, 13) := ⟨⟨by decide +kernel, by decide +kernel⟩, List.mem_of_getElem? (i := 14) (by decide +kernel), List.mem_of_getElem? (i := 296) (by decide +kernel), List.mem_of_getElem? (i := 297) (by decide +kernel)⟩
theorem lw_p3 : lw_okq (⟨"TwoLakes$Doings", "lookAt", "(II)V"⟩, 9) := ⟨⟨by decide +kernel, by decide +kernel⟩, List.mem_of_getElem? (i := 112) (by decide +kernel), List.mem_of_getElem? (i := 300) (by decide +kernel), List.mem_of_getElem? (i := 301) (by decide +kernel)⟩
theorem lw_p4 : lw_okq (⟨"TwoLakes$Doings", "measure", "(II)V"⟩, 9) := ⟨⟨by decide +kernel, by decide +kernel⟩, List.mem_of_getElem? (i := 112) (by decide +kernel), List.mem_of_getElem? (i := 304) (by decide +kernel), List.mem_of_getElem? (i := 305) (by decide +kernel)⟩
theorem lw_p5 : lw_okq (⟨"TwoLakes$Machine", "letDown", "(I)I"⟩, 8) := ⟨⟨by decide +kernel, by decide +kernel⟩, List.mem_of_getElem? (i := 71) (by decide +kernel), List.mem_of_getElem? (i := 308) (by decide +kernel), List.mem_of_getElem? (i := 309) (by decide +kernel)⟩
theorem lw_p6 : lw_okq (⟨"TwoLakes$Machine", "energyOf", "(I)I"⟩, 8) := ⟨⟨by decide +kernel, by decide +kernel⟩, List.mem_of_getElem? (i := 71) (by decide +kernel), List.mem_of_getElem? (i := 312) (by decide +kernel), List.mem_of_getElem? (i := 313) (by decide +kernel)⟩
theorem lw_p7 : lw_okq (⟨"TwoLakes$Doings", "isForbidden", "(II)Z"⟩, 9) := ⟨⟨by decide +kernel, by decide +kernel⟩, List.mem_of_getElem? (i := 112) (by decide +kernel), List.mem_of_getElem? (i := 316) (by decide +kernel), List.mem_of_getElem? (i := 317) (by decide +kernel)⟩
theorem lw_p8 : lw_okq (⟨"TwoLakes$Machine", "canBe", "(II)Z"⟩, 8) := ⟨⟨by decide +kernel, by decide +kernel⟩, List.mem_of_getElem? (i := 71) (by decide +kernel), List.mem_of_getElem? (i := 320) (by decide +kernel), List.mem_of_getElem? (i := 321) (by decide +kernel)⟩
theorem lw_p9 : lw_okq (⟨"TwoLakes$Machine", "backup", "(II)I"⟩, 8) := ⟨⟨by decide +kernel, by decide +kernel⟩, List.mem_of_getElem? (i := 71) (by decide +kernel), List.mem_of_getElem? (i := 327) (by decide +kernel), List.mem_of_getElem? (i := 328) (by decide +kernel)⟩
theorem lw_p10 : lw_okq (⟨"TwoLakes$Lakes", "leastUpper", "(I)I"⟩, 9) := ⟨⟨by decide +kernel, by decide +kernel⟩, List.mem_of_getElem? (i := 22) (by decide +kernel), List.mem_of_getElem? (i := 331) (by decide +kernel), List.mem_of_getElem? (i := 332) (by decide +kernel)⟩
theorem lw_p11 : lw_okq (⟨"TwoLakes$Doings", "unitsNeeded", "(II)I"⟩, 9) := ⟨⟨by decide +kernel, by decide +kernel⟩, List.mem_of_getElem? (i := 112) (by decide +kernel), List.mem_of_getElem? (i := 339) (by decide +kernel), List.mem_of_getElem? (i := 340) (by decide +kernel)⟩
theorem lw_p12 : lw_okq (⟨"TwoLakes$Machine", "unitsForBackup", "(II)I"⟩, 8) := ⟨⟨by decide +kernel, by decide +kernel⟩, List.mem_of_getElem? (i := 71) (by decide +kernel), List.mem_of_getElem? (i := 343) (by decide +kernel), List.mem_of_getElem? (i := 344) (by decide +kernel)⟩
theorem lw_p13 : lw_okq (⟨"TwoLakes$Lakes", "mostUpper", "(I)I"⟩, 9) := ⟨⟨by decide +kernel, by decide +kernel⟩, List.mem_of_getElem? (i := 22) (by decide +kernel), List.mem_of_getElem? (i := 347) (by decide +kernel), List.mem_of_getElem? (i := 348) (by decide +kernel)⟩
theorem lw_p14 : lw_okq (⟨"TwoLakes", "modesNow", "()I"⟩, 13) := ⟨⟨by decide +kernel, by decide +kernel⟩, List.mem_of_getElem? (i := 14) (by decide +kernel), List.mem_of_getElem? (i := 355) (by decide +kernel), List.mem_of_getElem? (i := 356) (by decide +kernel)⟩
theorem lw_p15 : lw_okq (⟨"TwoLakes$Doings", "startCost", "(II)I"⟩, 9) := ⟨⟨by decide +kernel, by decide +kernel⟩, List.mem_of_getElem? (i := 112) (by decide +kernel), List.mem_of_getElem? (i := 359) (by decide +kernel), List.mem_of_getElem? (i := 360) (by decide +kernel)⟩
def lw_privs_1 : List (MethodName × Nat) := [(⟨"TwoLakes", "changed", "()Z"⟩, 13), (⟨"TwoLakes", "machineOf", "(I)LTwoLakes$Machine;"⟩, 13), (⟨"TwoLakes", "isLegalNow", "(I)Z"⟩, 13), (⟨"TwoLakes$Doings", "lookAt", "(II)V"⟩, 9), (⟨"TwoLakes$Doings", "measure", "(II)V"⟩, 9), (⟨"TwoLakes$Machine", "letDown", "(I)I"⟩, 8), (⟨"TwoLakes$Machine", "energyOf", "(I)I"⟩, 8), (⟨"TwoLakes$Doings", "isForbidden", "(II)Z"⟩, 9), (⟨"TwoLakes$Machine", "canBe", "(II)Z"⟩, 8), (⟨"TwoLakes$Machine", "backup", "(II)I"⟩, 8), (⟨"TwoLakes$Lakes", "leastUpper", "(I)I"⟩, 9), (⟨"TwoLakes$Doings", "unitsNeeded", "(II)I"⟩, 9), (⟨"TwoLakes$Machine", "unitsForBackup", "(II)I"⟩, 8), (⟨"TwoLakes$Lakes", "mostUpper", "(I)I"⟩, 9), (⟨"TwoLakes", "modesNow", "()I"⟩, 13), (⟨"TwoLakes$Doings", "startCost", "(II)I"⟩, 9)]
theorem lw_r1 : ∀ q ∈ lw_privs_1, lw_okq q := List.forall_mem_cons.mpr ⟨lw_p0, List.forall_mem_cons.mpr ⟨lw_p1, List.forall_mem_cons.mpr ⟨lw_p2, List.forall_mem_cons.mpr ⟨lw_p3, List.forall_mem_cons.mpr ⟨lw_p4, List.forall_mem_cons.mpr ⟨lw_p5, List.forall_mem_cons.mpr ⟨lw_p6, List.forall_mem_cons.mpr ⟨lw_p7, List.forall_mem_cons.mpr ⟨lw_p8, List.forall_mem_cons.mpr ⟨lw_p9, List.forall_mem_cons.mpr ⟨lw_p10, List.forall_mem_cons.mpr ⟨lw_p11, List.forall_mem_cons.mpr ⟨lw_p12, List.forall_mem_cons.mpr ⟨lw_p13, List.forall_mem_cons.mpr ⟨lw_p14, List.forall_mem_cons.mpr ⟨lw_p15, fun _ h => absurd h List.not_mem_nil⟩⟩⟩⟩⟩⟩⟩⟩⟩⟩⟩⟩⟩⟩⟩⟩
theorem lw_p16 : lw_okq (⟨"TwoLakes$Doings", "isOpen", "(II)Z"⟩, 9) := ⟨⟨by decide +kernel, by decide +kernel⟩, List.mem_of_getElem? (i := 112) (by decide +kernel), List.mem_of_getElem? (i := 369) (by decide +kernel), List.mem_of_getElem? (i := 370) (by decide +kernel)⟩
theorem lw_p17 : lw_okq (⟨"TwoLakes", "worthWith", "(I)I"⟩, 13) := ⟨⟨by decide +kernel, by decide +kernel⟩, List.mem_of_getElem? (i := 14) (by decide +kernel), List.mem_of_getElem? (i := 377) (by decide +kernel), List.mem_of_getElem? (i := 378) (by decide +kernel)⟩
theorem lw_p18 : lw_okq (⟨"TwoLakes", "planAll", "(I)V"⟩, 13) := ⟨⟨by decide +kernel, by decide +kernel⟩, List.mem_of_getElem? (i := 14) (by decide +kernel), List.mem_of_getElem? (i := 381) (by decide +kernel), List.mem_of_getElem? (i := 382) (by decide +kernel)⟩
theorem lw_p19 : lw_okq (⟨"TwoLakes$Doings", "foresee", "(II)V"⟩, 9) := ⟨⟨by decide +kernel, by decide +kernel⟩, List.mem_of_getElem? (i := 112) (by decide +kernel), List.mem_of_getElem? (i := 385) (by decide +kernel), List.mem_of_getElem? (i := 386) (by decide +kernel)⟩
theorem lw_p20 : lw_okq (⟨"TwoLakes$Doings", "countStarts", "()V"⟩, 9) := ⟨⟨by decide +kernel, by decide +kernel⟩, List.mem_of_getElem? (i := 112) (by decide +kernel), List.mem_of_getElem? (i := 390) (by decide +kernel), List.mem_of_getElem? (i := 391) (by decide +kernel)⟩
theorem lw_p21 : lw_okq (⟨"TwoLakes", "planWorld", "(I)V"⟩, 13) := ⟨⟨by decide +kernel, by decide +kernel⟩, List.mem_of_getElem? (i := 14) (by decide +kernel), List.mem_of_getElem? (i := 395) (by decide +kernel), List.mem_of_getElem? (i := 396) (by decide +kernel)⟩
theorem lw_p22 : lw_okq (⟨"TwoLakes$Outlook", "endWith", "(I)V"⟩, 5) := ⟨⟨by decide +kernel, by decide +kernel⟩, List.mem_of_getElem? (i := 155) (by decide +kernel), List.mem_of_getElem? (i := 399) (by decide +kernel), List.mem_of_getElem? (i := 400) (by decide +kernel)⟩
theorem lw_p23 : lw_okq (⟨"TwoLakes$Outlook", "plan", "(LTwoLakes$Doings;II)V"⟩, 5) := ⟨⟨by decide +kernel, by decide +kernel⟩, List.mem_of_getElem? (i := 155) (by decide +kernel), List.mem_of_getElem? (i := 404) (by decide +kernel), List.mem_of_getElem? (i := 405) (by decide +kernel)⟩
theorem lw_p24 : lw_okq (⟨"TwoLakes$Outlook", "tryFromAllModes", "(LTwoLakes$Doings;II)V"⟩, 5) := ⟨⟨by decide +kernel, by decide +kernel⟩, List.mem_of_getElem? (i := 155) (by decide +kernel), List.mem_of_getElem? (i := 409) (by decide +kernel), List.mem_of_getElem? (i := 410) (by decide +kernel)⟩
theorem lw_p25 : lw_okq (⟨"TwoLakes$Outlook", "tryAtAllLevels", "(LTwoLakes$Doings;IIII)V"⟩, 5) := ⟨⟨by decide +kernel, by decide +kernel⟩, List.mem_of_getElem? (i := 155) (by decide +kernel), List.mem_of_getElem? (i := 413) (by decide +kernel), List.mem_of_getElem? (i := 414) (by decide +kernel)⟩
theorem lw_p26 : lw_okq (⟨"TwoLakes", "mixWorlds", "()V"⟩, 13) := ⟨⟨by decide +kernel, by decide +kernel⟩, List.mem_of_getElem? (i := 14) (by decide +kernel), List.mem_of_getElem? (i := 417) (by decide +kernel), List.mem_of_getElem? (i := 418) (by decide +kernel)⟩
theorem lw_p27 : lw_okq (⟨"TwoLakes$Outlook", "mixIn", "(LTwoLakes$Outlook;I)V"⟩, 5) := ⟨⟨by decide +kernel, by decide +kernel⟩, List.mem_of_getElem? (i := 155) (by decide +kernel), List.mem_of_getElem? (i := 421) (by decide +kernel), List.mem_of_getElem? (i := 422) (by decide +kernel)⟩
theorem lw_p28 : lw_okq (⟨"TwoLakes", "bestDoing", "(I)I"⟩, 13) := ⟨⟨by decide +kernel, by decide +kernel⟩, List.mem_of_getElem? (i := 14) (by decide +kernel), List.mem_of_getElem? (i := 429) (by decide +kernel), List.mem_of_getElem? (i := 430) (by decide +kernel)⟩
theorem lw_p29 : lw_okq (⟨"TwoLakes", "carryOut", "(II)I"⟩, 13) := ⟨⟨by decide +kernel, by decide +kernel⟩, List.mem_of_getElem? (i := 14) (by decide +kernel), List.mem_of_getElem? (i := 442) (by decide +kernel), List.mem_of_getElem? (i := 443) (by decide +kernel)⟩
theorem lw_p30 : lw_okq (⟨"TwoLakes$Machine", "turnTo", "(I)V"⟩, 8) := ⟨⟨by decide +kernel, by decide +kernel⟩, List.mem_of_getElem? (i := 71) (by decide +kernel), List.mem_of_getElem? (i := 446) (by decide +kernel), List.mem_of_getElem? (i := 447) (by decide +kernel)⟩
theorem lw_p31 : lw_okq (⟨"java/lang/Throwable", "fillInStackTrace", "(I)Ljava/lang/Throwable;"⟩, 6) := ⟨⟨by decide +kernel, by decide +kernel⟩, List.mem_of_getElem? (i := 499) (by decide +kernel), List.mem_of_getElem? (i := 497) (by decide +kernel), List.mem_of_getElem? (i := 498) (by decide +kernel)⟩
def lw_privs_2 : List (MethodName × Nat) := [(⟨"TwoLakes$Doings", "isOpen", "(II)Z"⟩, 9), (⟨"TwoLakes", "worthWith", "(I)I"⟩, 13), (⟨"TwoLakes", "planAll", "(I)V"⟩, 13), (⟨"TwoLakes$Doings", "foresee", "(II)V"⟩, 9), (⟨"TwoLakes$Doings", "countStarts", "()V"⟩, 9), (⟨"TwoLakes", "planWorld", "(I)V"⟩, 13), (⟨"TwoLakes$Outlook", "endWith", "(I)V"⟩, 5), (⟨"TwoLakes$Outlook", "plan", "(LTwoLakes$Doings;II)V"⟩, 5), (⟨"TwoLakes$Outlook", "tryFromAllModes", "(LTwoLakes$Doings;II)V"⟩, 5), (⟨"TwoLakes$Outlook", "tryAtAllLevels", "(LTwoLakes$Doings;IIII)V"⟩, 5), (⟨"TwoLakes", "mixWorlds", "()V"⟩, 13), (⟨"TwoLakes$Outlook", "mixIn", "(LTwoLakes$Outlook;I)V"⟩, 5), (⟨"TwoLakes", "bestDoing", "(I)I"⟩, 13), (⟨"TwoLakes", "carryOut", "(II)I"⟩, 13), (⟨"TwoLakes$Machine", "turnTo", "(I)V"⟩, 8), (⟨"java/lang/Throwable", "fillInStackTrace", "(I)Ljava/lang/Throwable;"⟩, 6)]
theorem lw_r2 : ∀ q ∈ lw_privs_2, lw_okq q := List.forall_mem_cons.mpr ⟨lw_p16, List.forall_mem_cons.mpr ⟨lw_p17, List.forall_mem_cons.mpr ⟨lw_p18, List.forall_mem_cons.mpr ⟨lw_p19, List.forall_mem_cons.mpr ⟨lw_p20, List.forall_mem_cons.mpr ⟨lw_p21, List.forall_mem_cons.mpr ⟨lw_p22, List.forall_mem_cons.mpr ⟨lw_p23, List.forall_mem_cons.mpr ⟨lw_p24, List.forall_mem_cons.mpr ⟨lw_p25, List.forall_mem_cons.mpr ⟨lw_p26, List.forall_mem_cons.mpr ⟨lw_p27, List.forall_mem_cons.mpr ⟨lw_p28, List.forall_mem_cons.mpr ⟨lw_p29, List.forall_mem_cons.mpr ⟨lw_p30, List.forall_mem_cons.mpr ⟨lw_p31, fun _ h => absurd h List.not_mem_nil⟩⟩⟩⟩⟩⟩⟩⟩⟩⟩⟩⟩⟩⟩⟩⟩
theorem lw_p32 : lw_okq (⟨"TwoLakesModel", "worthNow", "()I"⟩, 26) := ⟨⟨by decide +kernel, by decide +kernel⟩, List.mem_of_getElem? (i := 530) (by decide +kernel), List.mem_of_getElem? (i := 672) (by decide +kernel), List.mem_of_getElem? (i := 673) (by decide +kernel)⟩
theorem lw_p33 : lw_okq (⟨"TwoLakesModel", "laysOut", "(I)V"⟩, 26) := ⟨⟨by decide +kernel, by decide +kernel⟩, List.mem_of_getElem? (i := 530) (by decide +kernel), List.mem_of_getElem? (i := 676) (by decide +kernel), List.mem_of_getElem? (i := 677) (by decide +kernel)⟩
theorem lw_p34 : lw_okq (⟨"TwoLakesModel", "bestOf", "(IIII)I"⟩, 26) := ⟨⟨by decide +kernel, by decide +kernel⟩, List.mem_of_getElem? (i := 530) (by decide +kernel), List.mem_of_getElem? (i := 680) (by decide +kernel), List.mem_of_getElem? (i := 681) (by decide +kernel)⟩
theorem lw_p35 : lw_okq (⟨"TwoLakesModel", "brings", "(IIIIII)I"⟩, 26) := ⟨⟨by decide +kernel, by decide +kernel⟩, List.mem_of_getElem? (i := 530) (by decide +kernel), List.mem_of_getElem? (i := 685) (by decide +kernel), List.mem_of_getElem? (i := 686) (by decide +kernel)⟩
theorem lw_p36 : lw_okq (⟨"TwoLakesModel", "isLegal", "(IIIIIII)Z"⟩, 26) := ⟨⟨by decide +kernel, by decide +kernel⟩, List.mem_of_getElem? (i := 530) (by decide +kernel), List.mem_of_getElem? (i := 689) (by decide +kernel), List.mem_of_getElem? (i := 690) (by decide +kernel)⟩
theorem lw_p37 : lw_okq (⟨"TwoLakesModel", "loses", "(II)I"⟩, 26) := ⟨⟨by decide +kernel, by decide +kernel⟩, List.mem_of_getElem? (i := 530) (by decide +kernel), List.mem_of_getElem? (i := 693) (by decide +kernel), List.mem_of_getElem? (i := 694) (by decide +kernel)⟩
theorem lw_p38 : lw_okq (⟨"TwoLakesModel", "mayGo", "(IIII)Z"⟩, 26) := ⟨⟨by decide +kernel, by decide +kernel⟩, List.mem_of_getElem? (i := 530) (by decide +kernel), List.mem_of_getElem? (i := 700) (by decide +kernel), List.mem_of_getElem? (i := 701) (by decide +kernel)⟩
theorem lw_p39 : lw_okq (⟨"TwoLakesModel", "isReserved", "(IIII)Z"⟩, 26) := ⟨⟨by decide +kernel, by decide +kernel⟩, List.mem_of_getElem? (i := 530) (by decide +kernel), List.mem_of_getElem? (i := 704) (by decide +kernel), List.mem_of_getElem? (i := 705) (by decide +kernel)⟩
theorem lw_p40 : lw_okq (⟨"TwoLakesModel", "isReady", "(III)Z"⟩, 26) := ⟨⟨by decide +kernel, by decide +kernel⟩, List.mem_of_getElem? (i := 530) (by decide +kernel), List.mem_of_getElem? (i := 708) (by decide +kernel), List.mem_of_getElem? (i := 709) (by decide +kernel)⟩
theorem lw_p41 : lw_okq (⟨"TwoLakesModel", "money", "(IIIIII)I"⟩, 26) := ⟨⟨by decide +kernel, by decide +kernel⟩, List.mem_of_getElem? (i := 530) (by decide +kernel), List.mem_of_getElem? (i := 712) (by decide +kernel), List.mem_of_getElem? (i := 713) (by decide +kernel)⟩
theorem lw_p42 : lw_okq (⟨"TwoLakesModel", "weighed", "(II)I"⟩, 26) := ⟨⟨by decide +kernel, by decide +kernel⟩, List.mem_of_getElem? (i := 530) (by decide +kernel), List.mem_of_getElem? (i := 716) (by decide +kernel), List.mem_of_getElem? (i := 717) (by decide +kernel)⟩
theorem lw_p43 : lw_okq (⟨"TwoLakesModel", "stateNow", "()I"⟩, 26) := ⟨⟨by decide +kernel, by decide +kernel⟩, List.mem_of_getElem? (i := 530) (by decide +kernel), List.mem_of_getElem? (i := 720) (by decide +kernel), List.mem_of_getElem? (i := 721) (by decide +kernel)⟩
theorem lw_p44 : lw_okq (⟨"TwoLakesModel", "doing", "(I)I"⟩, 26) := ⟨⟨by decide +kernel, by decide +kernel⟩, List.mem_of_getElem? (i := 530) (by decide +kernel), List.mem_of_getElem? (i := 728) (by decide +kernel), List.mem_of_getElem? (i := 729) (by decide +kernel)⟩
theorem lw_p45 : lw_okq (⟨"TwoLakesModel", "isLegalNow", "(II)Z"⟩, 26) := ⟨⟨by decide +kernel, by decide +kernel⟩, List.mem_of_getElem? (i := 530) (by decide +kernel), List.mem_of_getElem? (i := 743) (by decide +kernel), List.mem_of_getElem? (i := 744) (by decide +kernel)⟩
theorem lw_p46 : lw_okq (⟨"TwoLakesModel", "does", "(III)I"⟩, 26) := ⟨⟨by decide +kernel, by decide +kernel⟩, List.mem_of_getElem? (i := 530) (by decide +kernel), List.mem_of_getElem? (i := 751) (by decide +kernel), List.mem_of_getElem? (i := 752) (by decide +kernel)⟩
def lw_privs_3 : List (MethodName × Nat) := [(⟨"TwoLakesModel", "worthNow", "()I"⟩, 26), (⟨"TwoLakesModel", "laysOut", "(I)V"⟩, 26), (⟨"TwoLakesModel", "bestOf", "(IIII)I"⟩, 26), (⟨"TwoLakesModel", "brings", "(IIIIII)I"⟩, 26), (⟨"TwoLakesModel", "isLegal", "(IIIIIII)Z"⟩, 26), (⟨"TwoLakesModel", "loses", "(II)I"⟩, 26), (⟨"TwoLakesModel", "mayGo", "(IIII)Z"⟩, 26), (⟨"TwoLakesModel", "isReserved", "(IIII)Z"⟩, 26), (⟨"TwoLakesModel", "isReady", "(III)Z"⟩, 26), (⟨"TwoLakesModel", "money", "(IIIIII)I"⟩, 26), (⟨"TwoLakesModel", "weighed", "(II)I"⟩, 26), (⟨"TwoLakesModel", "stateNow", "()I"⟩, 26), (⟨"TwoLakesModel", "doing", "(I)I"⟩, 26), (⟨"TwoLakesModel", "isLegalNow", "(II)Z"⟩, 26), (⟨"TwoLakesModel", "does", "(III)I"⟩, 26)]
theorem lw_r3 : ∀ q ∈ lw_privs_3, lw_okq q := List.forall_mem_cons.mpr ⟨lw_p32, List.forall_mem_cons.mpr ⟨lw_p33, List.forall_mem_cons.mpr ⟨lw_p34, List.forall_mem_cons.mpr ⟨lw_p35, List.forall_mem_cons.mpr ⟨lw_p36, List.forall_mem_cons.mpr ⟨lw_p37, List.forall_mem_cons.mpr ⟨lw_p38, List.forall_mem_cons.mpr ⟨lw_p39, List.forall_mem_cons.mpr ⟨lw_p40, List.forall_mem_cons.mpr ⟨lw_p41, List.forall_mem_cons.mpr ⟨lw_p42, List.forall_mem_cons.mpr ⟨lw_p43, List.forall_mem_cons.mpr ⟨lw_p44, List.forall_mem_cons.mpr ⟨lw_p45, List.forall_mem_cons.mpr ⟨lw_p46, fun _ h => absurd h List.not_mem_nil⟩⟩⟩⟩⟩⟩⟩⟩⟩⟩⟩⟩⟩⟩⟩
def lw_privs : List (MethodName × Nat) := lw_privs_1 ++ (lw_privs_2 ++ (lw_privs_3))
def lw_tbl : List Cond := k2_sels lw_privs ++ tables_1
theorem lw_privs_ok : ∀ q ∈ lw_privs, lw_okq q := by
  show ∀ q ∈ lw_privs_1 ++ (lw_privs_2 ++ (lw_privs_3)), lw_okq q
  exact List.forall_mem_append.mpr ⟨lw_r1, List.forall_mem_append.mpr ⟨lw_r2, lw_r3⟩⟩
end
section
/-! ===== BEGIN words of one list among another's, by their places ===== -/
theorem goodIn_r {big : List Cond} (ws : List Cond) (ps : List Nat) (hp : ws = ps.filterMap (fun i => big[i]?)) (h : ws.all goodWord = true) : GoodIn big ws := by
  intro w hw
  have h1 := List.all_eq_true.mp h w hw
  rw [hp] at hw
  obtain ⟨i, -, hi⟩ := List.mem_filterMap.mp hw
  have hm : w ∈ big := by first | exact List.mem_of_getElem? hi | exact List.getElem?_mem hi
  exact ⟨hm, good_of_word h1⟩
theorem goodIn_app {big a b : List Cond} (ha : GoodIn big a) (hb : GoodIn big b) : GoodIn big (a ++ b) := fun w h => (List.mem_append.mp h).elim (ha w) (hb w)
theorem goodIn_ca {big a b : List Cond} {c : Cond} (ha : GoodIn big (c :: a)) (hb : GoodIn big b) : GoodIn big (c :: (a ++ b)) := fun w h => (List.mem_cons.mp h).elim (fun e => ha w (List.mem_cons.mpr (Or.inl e))) (fun h => (List.mem_append.mp h).elim (fun h => ha w (List.mem_cons.mpr (Or.inr h))) (hb w))
theorem goodIn_sub {big ws : List Cond} (hm : ∀ w ∈ ws, w ∈ big) (h : ws.all goodWord = true) : GoodIn big ws := fun w hw => ⟨hm w hw, good_of_word (List.all_eq_true.mp h w hw)⟩
/-! ===== END ===== -/
/-! ===== BEGIN printed: names, fields, word lists, decode rows ===== -/
def RX0 : String := "TwoLakes$Doings"
def TX0 : u_T := fun k => match k with
  | 0 => ("TwoLakes$Doings", "basin", "LTwoLakes$Lakes;", true)
  | 1 => ("TwoLakes$Doings", "first", "LTwoLakes$Machine;", true)
  | 2 => ("TwoLakes$Doings", "second", "LTwoLakes$Machine;", true)
  | 3 => ("TwoLakes$Doings", "energy", "[I", true)
  | 4 => ("TwoLakes$Doings", "upperShift", "[I", true)
  | 5 => ("TwoLakes$Doings", "lowerShift", "[I", true)
  | 6 => ("TwoLakes$Doings", "lowest", "[I", true)
  | 7 => ("TwoLakes$Doings", "highest", "[I", true)
  | _ => ("TwoLakes$Doings", "startCosts", "[I", true)
def tyX0 : Nat → FieldType := fun k => match k with
  | 0 => .object "TwoLakes$Lakes"
  | 1 => .object "TwoLakes$Machine"
  | 2 => .object "TwoLakes$Machine"
  | 3 => .array .int
  | 4 => .array .int
  | 5 => .array .int
  | 6 => .array .int
  | 7 => .array .int
  | _ => .array .int
abbrev wsX00 : List Cond := u_ws RX0 TX0 9
theorem nmX0 : ∀ a, a < 9 → ∀ b, b < 9 → a ≠ b → (TX0 a).2.1 ≠ (TX0 b).2.1 := by decide +kernel
theorem tyX0_ok : ∀ k, k < 9 → parseFieldDescriptor (TX0 k).2.2.1 = some (tyX0 k) := by decide +kernel
abbrev cX0_init : ByteArray := prog_2_method_1_code
def yX0_init : MethodName := ⟨RX0, "<init>", "(LTwoLakes$Lakes;LTwoLakes$Machine;LTwoLakes$Machine;)V"⟩
abbrev cX0_foresee : ByteArray := prog_2_method_2_code
def yX0_foresee : MethodName := ⟨RX0, "foresee", "(II)V"⟩
abbrev cX0_lookAt : ByteArray := prog_2_method_3_code
def yX0_lookAt : MethodName := ⟨RX0, "lookAt", "(II)V"⟩
abbrev cX0_isOpen : ByteArray := prog_2_method_4_code
def yX0_isOpen : MethodName := ⟨RX0, "isOpen", "(II)Z"⟩
abbrev cX0_measure : ByteArray := prog_2_method_5_code
def yX0_measure : MethodName := ⟨RX0, "measure", "(II)V"⟩
abbrev cX0_isForbidden : ByteArray := prog_2_method_6_code
def yX0_isForbidden : MethodName := ⟨RX0, "isForbidden", "(II)Z"⟩
abbrev cX0_unitsNeeded : ByteArray := prog_2_method_7_code
def yX0_unitsNeeded : MethodName := ⟨RX0, "unitsNeeded", "(II)I"⟩
abbrev cX0_startCost : ByteArray := prog_2_method_8_code
def yX0_startCost : MethodName := ⟨RX0, "startCost", "(II)I"⟩
abbrev cX0_countStarts : ByteArray := prog_2_method_9_code
def yX0_countStarts : MethodName := ⟨RX0, "countStarts", "()V"⟩
def RX1 : String := "TwoLakes$Lakes"
def TX1 : u_T := fun k => match k with
  | 0 => ("TwoLakes$Lakes", "upperRoom", "I", false)
  | 1 => ("TwoLakes$Lakes", "lowerRoom", "I", false)
  | 2 => ("TwoLakes$Lakes", "upperSpeed", "I", false)
  | 3 => ("TwoLakes$Lakes", "lowerSpeed", "I", false)
  | 4 => ("TwoLakes$Lakes", "upper", "I", false)
  | 5 => ("TwoLakes$Lakes", "lower", "I", false)
  | 6 => ("TwoLakes$Lakes", "inflow", "[I", true)
  | 7 => ("TwoLakes$Lakes", "outflow", "[I", true)
  | _ => ("TwoLakes$Lakes", "promised", "[I", true)
def tyX1 : Nat → FieldType := fun k => match k with
  | 0 => .int
  | 1 => .int
  | 2 => .int
  | 3 => .int
  | 4 => .int
  | 5 => .int
  | 6 => .array .int
  | 7 => .array .int
  | _ => .array .int
abbrev wsX10 : List Cond := u_ws RX1 TX1 9
theorem nmX1 : ∀ a, a < 9 → ∀ b, b < 9 → a ≠ b → (TX1 a).2.1 ≠ (TX1 b).2.1 := by decide +kernel
theorem tyX1_ok : ∀ k, k < 9 → parseFieldDescriptor (TX1 k).2.2.1 = some (tyX1 k) := by decide +kernel
abbrev cX1_init : ByteArray := prog_3_method_1_code
def yX1_init : MethodName := ⟨RX1, "<init>", "()V"⟩
abbrev cX1_leastUpper : ByteArray := prog_3_method_2_code
def yX1_leastUpper : MethodName := ⟨RX1, "leastUpper", "(I)I"⟩
abbrev cX1_mostUpper : ByteArray := prog_3_method_3_code
def yX1_mostUpper : MethodName := ⟨RX1, "mostUpper", "(I)I"⟩
def RX2 : String := "TwoLakes$Machine"
def TX2 : u_T := fun k => match k with
  | 0 => ("TwoLakes$Machine", "down", "I", false)
  | 1 => ("TwoLakes$Machine", "gives", "I", false)
  | 2 => ("TwoLakes$Machine", "lifts", "I", false)
  | 3 => ("TwoLakes$Machine", "takes", "I", false)
  | 4 => ("TwoLakes$Machine", "startCost", "I", false)
  | 5 => ("TwoLakes$Machine", "mode", "I", false)
  | 6 => ("TwoLakes$Machine", "starts", "I", false)
  | _ => ("TwoLakes$Machine", "isOut", "[Z", true)
def tyX2 : Nat → FieldType := fun k => match k with
  | 0 => .int
  | 1 => .int
  | 2 => .int
  | 3 => .int
  | 4 => .int
  | 5 => .int
  | 6 => .int
  | _ => .array .boolean
abbrev wsX20 : List Cond := u_ws RX2 TX2 8
theorem nmX2 : ∀ a, a < 8 → ∀ b, b < 8 → a ≠ b → (TX2 a).2.1 ≠ (TX2 b).2.1 := by decide +kernel
theorem tyX2_ok : ∀ k, k < 8 → parseFieldDescriptor (TX2 k).2.2.1 = some (tyX2 k) := by decide +kernel
abbrev cX2_init : ByteArray := prog_4_method_1_code
def yX2_init : MethodName := ⟨RX2, "<init>", "()V"⟩
abbrev cX2_canBe : ByteArray := prog_4_method_2_code
def yX2_canBe : MethodName := ⟨RX2, "canBe", "(II)Z"⟩
abbrev cX2_letDown : ByteArray := prog_4_method_3_code
def yX2_letDown : MethodName := ⟨RX2, "letDown", "(I)I"⟩
abbrev cX2_energyOf : ByteArray := prog_4_method_4_code
def yX2_energyOf : MethodName := ⟨RX2, "energyOf", "(I)I"⟩
abbrev cX2_backup : ByteArray := prog_4_method_5_code
def yX2_backup : MethodName := ⟨RX2, "backup", "(II)I"⟩
abbrev cX2_unitsForBackup : ByteArray := prog_4_method_6_code
def yX2_unitsForBackup : MethodName := ⟨RX2, "unitsForBackup", "(II)I"⟩
abbrev cX2_isStart : ByteArray := prog_4_method_7_code
def yX2_isStart : MethodName := ⟨RX2, "isStart", "(II)Z"⟩
abbrev cX2_canFollow : ByteArray := prog_4_method_8_code
def yX2_canFollow : MethodName := ⟨RX2, "canFollow", "(II)Z"⟩
abbrev cX2_turnTo : ByteArray := prog_4_method_9_code
def yX2_turnTo : MethodName := ⟨RX2, "turnTo", "(I)V"⟩
def RX3 : String := "TwoLakes$Outlook"
def TX3 : u_T := fun k => match k with
  | 0 => ("TwoLakes$Outlook", "prices", "[I", true)
  | 1 => ("TwoLakes$Outlook", "startScale", "I", false)
  | 2 => ("TwoLakes$Outlook", "values", "[I", false)
  | 3 => ("TwoLakes$Outlook", "behind", "[I", false)
  | _ => ("TwoLakes$Outlook", "choices", "[I", true)
def tyX3 : Nat → FieldType := fun k => match k with
  | 0 => .array .int
  | 1 => .int
  | 2 => .array .int
  | 3 => .array .int
  | _ => .array .int
abbrev wsX30 : List Cond := u_ws RX3 TX3 5
theorem nmX3 : ∀ a, a < 5 → ∀ b, b < 5 → a ≠ b → (TX3 a).2.1 ≠ (TX3 b).2.1 := by decide +kernel
theorem tyX3_ok : ∀ k, k < 5 → parseFieldDescriptor (TX3 k).2.2.1 = some (tyX3 k) := by decide +kernel
abbrev cX3_init : ByteArray := prog_5_method_1_code
def yX3_init : MethodName := ⟨RX3, "<init>", "()V"⟩
abbrev cX3_endWith : ByteArray := prog_5_method_2_code
def yX3_endWith : MethodName := ⟨RX3, "endWith", "(I)V"⟩
abbrev cX3_mixIn : ByteArray := prog_5_method_3_code
def yX3_mixIn : MethodName := ⟨RX3, "mixIn", "(LTwoLakes$Outlook;I)V"⟩
abbrev cX3_plan : ByteArray := prog_5_method_4_code
def yX3_plan : MethodName := ⟨RX3, "plan", "(LTwoLakes$Doings;II)V"⟩
abbrev cX3_tryFromAllModes : ByteArray := prog_5_method_5_code
def yX3_tryFromAllModes : MethodName := ⟨RX3, "tryFromAllModes", "(LTwoLakes$Doings;II)V"⟩
abbrev cX3_tryAtAllLevels : ByteArray := prog_5_method_6_code
def yX3_tryAtAllLevels : MethodName := ⟨RX3, "tryAtAllLevels", "(LTwoLakes$Doings;IIII)V"⟩
def RX4 : String := "TwoLakes"
def TX4 : u_T := fun k => match k with
  | 0 => ("TwoLakes", "basin", "LTwoLakes$Lakes;", true)
  | 1 => ("TwoLakes", "first", "LTwoLakes$Machine;", true)
  | 2 => ("TwoLakes", "second", "LTwoLakes$Machine;", true)
  | 3 => ("TwoLakes", "doings", "LTwoLakes$Doings;", true)
  | 4 => ("TwoLakes", "outlooks", "[LTwoLakes$Outlook;", true)
  | 5 => ("TwoLakes", "common", "LTwoLakes$Outlook;", true)
  | 6 => ("TwoLakes", "weight", "[I", true)
  | 7 => ("TwoLakes", "knownWorth", "[I", true)
  | 8 => ("TwoLakes", "knownDoing", "[I", true)
  | 9 => ("TwoLakes", "revealHour", "I", false)
  | 10 => ("TwoLakes", "endPrice", "I", false)
  | 11 => ("TwoLakes", "now", "I", false)
  | _ => ("TwoLakes", "purse", "I", false)
def tyX4 : Nat → FieldType := fun k => match k with
  | 0 => .object "TwoLakes$Lakes"
  | 1 => .object "TwoLakes$Machine"
  | 2 => .object "TwoLakes$Machine"
  | 3 => .object "TwoLakes$Doings"
  | 4 => .array (.object "TwoLakes$Outlook")
  | 5 => .object "TwoLakes$Outlook"
  | 6 => .array .int
  | 7 => .array .int
  | 8 => .array .int
  | 9 => .int
  | 10 => .int
  | 11 => .int
  | _ => .int
abbrev wsX40 : List Cond := u_ws RX4 TX4 13
theorem nmX4 : ∀ a, a < 13 → ∀ b, b < 13 → a ≠ b → (TX4 a).2.1 ≠ (TX4 b).2.1 := by decide +kernel
theorem tyX4_ok : ∀ k, k < 13 → parseFieldDescriptor (TX4 k).2.2.1 = some (tyX4 k) := by decide +kernel
abbrev cX4_init : ByteArray := prog_1_method_1_code
def yX4_init : MethodName := ⟨RX4, "<init>", "()V"⟩
abbrev cX4_lakes : ByteArray := prog_1_method_2_code
def yX4_lakes : MethodName := ⟨RX4, "lakes", "(IIII)Z"⟩
abbrev cX4_speeds : ByteArray := prog_1_method_3_code
def yX4_speeds : MethodName := ⟨RX4, "speeds", "(II)Z"⟩
abbrev cX4_flows : ByteArray := prog_1_method_4_code
def yX4_flows : MethodName := ⟨RX4, "flows", "(III)Z"⟩
abbrev cX4_machine : ByteArray := prog_1_method_5_code
def yX4_machine : MethodName := ⟨RX4, "machine", "(IIIIII)Z"⟩
abbrev cX4_out : ByteArray := prog_1_method_6_code
def yX4_out : MethodName := ⟨RX4, "out", "(IIIZ)Z"⟩
abbrev cX4_reserve : ByteArray := prog_1_method_7_code
def yX4_reserve : MethodName := ⟨RX4, "reserve", "(II)Z"⟩
abbrev cX4_weights : ByteArray := prog_1_method_8_code
def yX4_weights : MethodName := ⟨RX4, "weights", "(III)Z"⟩
abbrev cX4_price : ByteArray := prog_1_method_9_code
def yX4_price : MethodName := ⟨RX4, "price", "(III)Z"⟩
abbrev cX4_reveal : ByteArray := prog_1_method_10_code
def yX4_reveal : MethodName := ⟨RX4, "reveal", "(I)Z"⟩
abbrev cX4_end : ByteArray := prog_1_method_11_code
def yX4_end : MethodName := ⟨RX4, "end", "(I)Z"⟩
abbrev cX4_legal : ByteArray := prog_1_method_12_code
def yX4_legal : MethodName := ⟨RX4, "legal", "(II)I"⟩
abbrev cX4_worth : ByteArray := prog_1_method_13_code
def yX4_worth : MethodName := ⟨RX4, "worth", "()I"⟩
abbrev cX4_mode : ByteArray := prog_1_method_14_code
def yX4_mode : MethodName := ⟨RX4, "mode", "(II)I"⟩
abbrev cX4_water : ByteArray := prog_1_method_15_code
def yX4_water : MethodName := ⟨RX4, "water", "(I)I"⟩
abbrev cX4_done : ByteArray := prog_1_method_16_code
def yX4_done : MethodName := ⟨RX4, "done", "(III)I"⟩
abbrev cX4_runs : ByteArray := prog_1_method_17_code
def yX4_runs : MethodName := ⟨RX4, "runs", "(II)I"⟩
abbrev cX4_count : ByteArray := prog_1_method_18_code
def yX4_count : MethodName := ⟨RX4, "count", "(I)I"⟩
abbrev cX4_within : ByteArray := prog_1_method_19_code
def yX4_within : MethodName := ⟨RX4, "within", "(III)Z"⟩
abbrev cX4_isHour : ByteArray := prog_1_method_20_code
def yX4_isHour : MethodName := ⟨RX4, "isHour", "(I)Z"⟩
abbrev cX4_isWorld : ByteArray := prog_1_method_21_code
def yX4_isWorld : MethodName := ⟨RX4, "isWorld", "(I)Z"⟩
abbrev cX4_isMachine : ByteArray := prog_1_method_22_code
def yX4_isMachine : MethodName := ⟨RX4, "isMachine", "(I)Z"⟩
abbrev cX4_isMode : ByteArray := prog_1_method_23_code
def yX4_isMode : MethodName := ⟨RX4, "isMode", "(I)Z"⟩
abbrev cX4_isOfMachine : ByteArray := prog_1_method_24_code
def yX4_isOfMachine : MethodName := ⟨RX4, "isOfMachine", "(I)Z"⟩
abbrev cX4_machineOf : ByteArray := prog_1_method_25_code
def yX4_machineOf : MethodName := ⟨RX4, "machineOf", "(I)LTwoLakes$Machine;"⟩
abbrev cX4_changed : ByteArray := prog_1_method_26_code
def yX4_changed : MethodName := ⟨RX4, "changed", "()Z"⟩
abbrev cX4_modesNow : ByteArray := prog_1_method_27_code
def yX4_modesNow : MethodName := ⟨RX4, "modesNow", "()I"⟩
abbrev cX4_isLegalNow : ByteArray := prog_1_method_28_code
def yX4_isLegalNow : MethodName := ⟨RX4, "isLegalNow", "(I)Z"⟩
abbrev cX4_carryOut : ByteArray := prog_1_method_29_code
def yX4_carryOut : MethodName := ⟨RX4, "carryOut", "(II)I"⟩
abbrev cX4_worthWith : ByteArray := prog_1_method_30_code
def yX4_worthWith : MethodName := ⟨RX4, "worthWith", "(I)I"⟩
abbrev cX4_bestDoing : ByteArray := prog_1_method_31_code
def yX4_bestDoing : MethodName := ⟨RX4, "bestDoing", "(I)I"⟩
abbrev cX4_planAll : ByteArray := prog_1_method_32_code
def yX4_planAll : MethodName := ⟨RX4, "planAll", "(I)V"⟩
abbrev cX4_planWorld : ByteArray := prog_1_method_33_code
def yX4_planWorld : MethodName := ⟨RX4, "planWorld", "(I)V"⟩
abbrev cX4_mixWorlds : ByteArray := prog_1_method_34_code
def yX4_mixWorlds : MethodName := ⟨RX4, "mixWorlds", "()V"⟩
def RX5 : String := "TwoLakesModel"
def TX5 : u_T := fun k => match k with
  | 0 => ("TwoLakesModel", "thrown", "I", false)
  | 1 => ("TwoLakesModel", "now", "I", false)
  | 2 => ("TwoLakesModel", "most", "I", false)
  | 3 => ("TwoLakesModel", "mostLower", "I", false)
  | 4 => ("TwoLakesModel", "upper", "I", false)
  | 5 => ("TwoLakesModel", "lower", "I", false)
  | 6 => ("TwoLakesModel", "speed", "I", false)
  | 7 => ("TwoLakesModel", "speedLower", "I", false)
  | 8 => ("TwoLakesModel", "in", "[I", true)
  | 9 => ("TwoLakesModel", "out", "[I", true)
  | 10 => ("TwoLakesModel", "reserves", "[I", true)
  | 11 => ("TwoLakesModel", "lets", "[I", true)
  | 12 => ("TwoLakesModel", "gives", "[I", true)
  | 13 => ("TwoLakesModel", "lifts", "[I", true)
  | 14 => ("TwoLakesModel", "takes", "[I", true)
  | 15 => ("TwoLakesModel", "startCost", "[I", true)
  | 16 => ("TwoLakesModel", "isOut", "[Z", true)
  | 17 => ("TwoLakesModel", "weight", "[I", true)
  | 18 => ("TwoLakesModel", "prices", "[I", true)
  | 19 => ("TwoLakesModel", "reveal", "I", false)
  | 20 => ("TwoLakesModel", "end", "I", false)
  | 21 => ("TwoLakesModel", "mode", "[I", true)
  | 22 => ("TwoLakesModel", "started", "[I", true)
  | 23 => ("TwoLakesModel", "purse", "I", false)
  | 24 => ("TwoLakesModel", "bestIn", "[I", true)
  | _ => ("TwoLakesModel", "bestAll", "[I", true)
def tyX5 : Nat → FieldType := fun k => match k with
  | 0 => .int
  | 1 => .int
  | 2 => .int
  | 3 => .int
  | 4 => .int
  | 5 => .int
  | 6 => .int
  | 7 => .int
  | 8 => .array .int
  | 9 => .array .int
  | 10 => .array .int
  | 11 => .array .int
  | 12 => .array .int
  | 13 => .array .int
  | 14 => .array .int
  | 15 => .array .int
  | 16 => .array .boolean
  | 17 => .array .int
  | 18 => .array .int
  | 19 => .int
  | 20 => .int
  | 21 => .array .int
  | 22 => .array .int
  | 23 => .int
  | 24 => .array .int
  | _ => .array .int
abbrev wsX50 : List Cond := u_ws RX5 TX5 26
theorem nmX5 : ∀ a, a < 26 → ∀ b, b < 26 → a ≠ b → (TX5 a).2.1 ≠ (TX5 b).2.1 := by decide +kernel
theorem tyX5_ok : ∀ k, k < 26 → parseFieldDescriptor (TX5 k).2.2.1 = some (tyX5 k) := by decide +kernel
abbrev cX5_init : ByteArray := prog_7_method_1_code
def yX5_init : MethodName := ⟨RX5, "<init>", "()V"⟩
abbrev cX5_thrown : ByteArray := prog_7_method_2_code
def yX5_thrown : MethodName := ⟨RX5, "thrown", "()I"⟩
abbrev cX5_within : ByteArray := prog_7_method_3_code
def yX5_within : MethodName := ⟨RX5, "within", "(III)Z"⟩
abbrev cX5_lakes : ByteArray := prog_7_method_4_code
def yX5_lakes : MethodName := ⟨RX5, "lakes", "(IIII)Z"⟩
abbrev cX5_speeds : ByteArray := prog_7_method_5_code
def yX5_speeds : MethodName := ⟨RX5, "speeds", "(II)Z"⟩
abbrev cX5_isHour : ByteArray := prog_7_method_6_code
def yX5_isHour : MethodName := ⟨RX5, "isHour", "(I)Z"⟩
abbrev cX5_flows : ByteArray := prog_7_method_7_code
def yX5_flows : MethodName := ⟨RX5, "flows", "(III)Z"⟩
abbrev cX5_machine : ByteArray := prog_7_method_8_code
def yX5_machine : MethodName := ⟨RX5, "machine", "(IIIIII)Z"⟩
abbrev cX5_out : ByteArray := prog_7_method_9_code
def yX5_out : MethodName := ⟨RX5, "out", "(IIIZ)Z"⟩
abbrev cX5_reserve : ByteArray := prog_7_method_10_code
def yX5_reserve : MethodName := ⟨RX5, "reserve", "(II)Z"⟩
abbrev cX5_weights : ByteArray := prog_7_method_11_code
def yX5_weights : MethodName := ⟨RX5, "weights", "(III)Z"⟩
abbrev cX5_isWorld : ByteArray := prog_7_method_12_code
def yX5_isWorld : MethodName := ⟨RX5, "isWorld", "(I)Z"⟩
abbrev cX5_price : ByteArray := prog_7_method_13_code
def yX5_price : MethodName := ⟨RX5, "price", "(III)Z"⟩
abbrev cX5_reveal : ByteArray := prog_7_method_14_code
def yX5_reveal : MethodName := ⟨RX5, "reveal", "(I)Z"⟩
abbrev cX5_end : ByteArray := prog_7_method_15_code
def yX5_end : MethodName := ⟨RX5, "end", "(I)Z"⟩
abbrev cX5_loses : ByteArray := prog_7_method_16_code
def yX5_loses : MethodName := ⟨RX5, "loses", "(II)I"⟩
abbrev cX5_mayGo : ByteArray := prog_7_method_17_code
def yX5_mayGo : MethodName := ⟨RX5, "mayGo", "(IIII)Z"⟩
abbrev cX5_isReady : ByteArray := prog_7_method_18_code
def yX5_isReady : MethodName := ⟨RX5, "isReady", "(III)Z"⟩
abbrev cX5_isReserved : ByteArray := prog_7_method_19_code
def yX5_isReserved : MethodName := ⟨RX5, "isReserved", "(IIII)Z"⟩
abbrev cX5_far : ByteArray := prog_7_method_20_code
def yX5_far : MethodName := ⟨RX5, "far", "(II)I"⟩
abbrev cX5_isLegal : ByteArray := prog_7_method_21_code
def yX5_isLegal : MethodName := ⟨RX5, "isLegal", "(IIIIIII)Z"⟩
abbrev cX5_money : ByteArray := prog_7_method_22_code
def yX5_money : MethodName := ⟨RX5, "money", "(IIIIII)I"⟩
abbrev cX5_laysOut : ByteArray := prog_7_method_23_code
def yX5_laysOut : MethodName := ⟨RX5, "laysOut", "(I)V"⟩
abbrev cX5_weighed : ByteArray := prog_7_method_24_code
def yX5_weighed : MethodName := ⟨RX5, "weighed", "(II)I"⟩
abbrev cX5_brings : ByteArray := prog_7_method_25_code
def yX5_brings : MethodName := ⟨RX5, "brings", "(IIIIII)I"⟩
abbrev cX5_bestOf : ByteArray := prog_7_method_26_code
def yX5_bestOf : MethodName := ⟨RX5, "bestOf", "(IIII)I"⟩
abbrev cX5_stateNow : ByteArray := prog_7_method_27_code
def yX5_stateNow : MethodName := ⟨RX5, "stateNow", "()I"⟩
abbrev cX5_worthNow : ByteArray := prog_7_method_28_code
def yX5_worthNow : MethodName := ⟨RX5, "worthNow", "()I"⟩
abbrev cX5_worth : ByteArray := prog_7_method_29_code
def yX5_worth : MethodName := ⟨RX5, "worth", "()I"⟩
abbrev cX5_doing : ByteArray := prog_7_method_30_code
def yX5_doing : MethodName := ⟨RX5, "doing", "(I)I"⟩
abbrev cX5_mode : ByteArray := prog_7_method_31_code
def yX5_mode : MethodName := ⟨RX5, "mode", "(II)I"⟩
abbrev cX5_water : ByteArray := prog_7_method_32_code
def yX5_water : MethodName := ⟨RX5, "water", "(I)I"⟩
abbrev cX5_areModes : ByteArray := prog_7_method_33_code
def yX5_areModes : MethodName := ⟨RX5, "areModes", "(II)Z"⟩
abbrev cX5_isLegalNow : ByteArray := prog_7_method_34_code
def yX5_isLegalNow : MethodName := ⟨RX5, "isLegalNow", "(II)Z"⟩
abbrev cX5_legal : ByteArray := prog_7_method_35_code
def yX5_legal : MethodName := ⟨RX5, "legal", "(II)I"⟩
abbrev cX5_does : ByteArray := prog_7_method_36_code
def yX5_does : MethodName := ⟨RX5, "does", "(III)I"⟩
abbrev cX5_done : ByteArray := prog_7_method_37_code
def yX5_done : MethodName := ⟨RX5, "done", "(III)I"⟩
abbrev cX5_runs : ByteArray := prog_7_method_38_code
def yX5_runs : MethodName := ⟨RX5, "runs", "(II)I"⟩
abbrev cX5_count : ByteArray := prog_7_method_39_code
def yX5_count : MethodName := ⟨RX5, "count", "(I)I"⟩
def RJ9 : String := "java/lang/Math"
def TJ9 : u_T := fun k => match k with
  | _ => ("", "", "", false)
def tyJ9 : Nat → FieldType := fun k => match k with
  | _ => .int
abbrev wsJ90 : List Cond := u_ws RJ9 TJ9 0
theorem nmJ9 : ∀ a, a < 0 → ∀ b, b < 0 → a ≠ b → (TJ9 a).2.1 ≠ (TJ9 b).2.1 := by decide +kernel
theorem tyJ9_ok : ∀ k, k < 0 → parseFieldDescriptor (TJ9 k).2.2.1 = some (tyJ9 k) := by decide +kernel
abbrev cJ9_abs_0f7a4 : ByteArray := prog_9_method_59_code
def yJ9_abs_0f7a4 : MethodName := ⟨RJ9, "abs", "(I)I"⟩
abbrev cJ9_max_7cf53 : ByteArray := prog_9_method_65_code
def yJ9_max_7cf53 : MethodName := ⟨RJ9, "max", "(II)I"⟩
abbrev cJ9_min_7cf53 : ByteArray := prog_9_method_69_code
def yJ9_min_7cf53 : MethodName := ⟨RJ9, "min", "(II)I"⟩
def RJ0 : String := "java/lang/String"
def TJ0 : u_T := fun k => match k with
  | _ => ("", "", "", false)
def tyJ0 : Nat → FieldType := fun k => match k with
  | _ => .int
abbrev wsJ00 : List Cond := u_ws RJ0 TJ0 0
theorem nmJ0 : ∀ a, a < 0 → ∀ b, b < 0 → a ≠ b → (TJ0 a).2.1 ≠ (TJ0 b).2.1 := by decide +kernel
theorem tyJ0_ok : ∀ k, k < 0 → parseFieldDescriptor (TJ0 k).2.2.1 = some (tyJ0 k) := by decide +kernel
def RJ7 : String := "java/util/Arrays"
def TJ7 : u_T := fun k => match k with
  | _ => ("", "", "", false)
def tyJ7 : Nat → FieldType := fun k => match k with
  | _ => .int
abbrev wsJ70 : List Cond := u_ws RJ7 TJ7 0
theorem nmJ7 : ∀ a, a < 0 → ∀ b, b < 0 → a ≠ b → (TJ7 a).2.1 ≠ (TJ7 b).2.1 := by decide +kernel
theorem tyJ7_ok : ∀ k, k < 0 → parseFieldDescriptor (TJ7 k).2.2.1 = some (tyJ7 k) := by decide +kernel
abbrev cJ7_fill_53178 : ByteArray := prog_13_method_103_code
def yJ7_fill_53178 : MethodName := ⟨RJ7, "fill", "([II)V"⟩
def RL : String := "TwoLakesLaw"
abbrev cL_done : ByteArray := method_3_code
def yL_done : MethodName := ⟨RL, "done", "(LTwoLakes;III[J)I"⟩
abbrev cL_law : ByteArray := code
def yL_law : MethodName := ⟨RL, "law", "([I)Z"⟩
def wsX0_init : List Cond := .code yX0_init cX0_init 4 none :: ([.methodLink RX0 3 objectInit, .instanceMethod objectInit, .code objectInit ⟨#[0xb1]⟩ 1 none, .arrayClass .int, .fieldLink RX0 9 "TwoLakes$Doings" "energy" "[I", .fieldLink RX0 15 "TwoLakes$Doings" "upperShift" "[I", .fieldLink RX0 18 "TwoLakes$Doings" "lowerShift" "[I", .fieldLink RX0 21 "TwoLakes$Doings" "lowest" "[I", .fieldLink RX0 24 "TwoLakes$Doings" "highest" "[I", .fieldLink RX0 27 "TwoLakes$Doings" "startCosts" "[I", .fieldLink RX0 30 "TwoLakes$Doings" "basin" "LTwoLakes$Lakes;", .fieldLink RX0 34 "TwoLakes$Doings" "first" "LTwoLakes$Machine;", .fieldLink RX0 38 "TwoLakes$Doings" "second" "LTwoLakes$Machine;"] ++ wsX00)
def wsX2_letDown : List Cond := .code yX2_letDown cX2_letDown 2 (some .int) :: ([.fieldLink RX2 9 "TwoLakes$Machine" "down" "I", .fieldLink RX2 18 "TwoLakes$Machine" "lifts" "I"] ++ wsX20)
def wsX2_energyOf : List Cond := .code yX2_energyOf cX2_energyOf 2 (some .int) :: ([.fieldLink RX2 15 "TwoLakes$Machine" "gives" "I", .fieldLink RX2 21 "TwoLakes$Machine" "takes" "I"] ++ wsX20)
def wsX0_measure : List Cond := .code yX0_measure cX0_measure 7 none :: ([.fieldLink RX0 34 "TwoLakes$Doings" "first" "LTwoLakes$Machine;", .fieldLink RX0 38 "TwoLakes$Doings" "second" "LTwoLakes$Machine;", .fieldLink RX0 9 "TwoLakes$Doings" "energy" "[I", .fieldLink RX0 15 "TwoLakes$Doings" "upperShift" "[I", .fieldLink RX0 30 "TwoLakes$Doings" "basin" "LTwoLakes$Lakes;", .fieldLink RX0 18 "TwoLakes$Doings" "lowerShift" "[I", .instanceMethod yX2_letDown, .initialized RX2, .selects RX2 yX2_letDown yX2_letDown, .code yX2_letDown cX2_letDown 2 (some .int), .fieldLink RX2 9 "TwoLakes$Machine" "down" "I", .fieldLink RX2 18 "TwoLakes$Machine" "lifts" "I", .instanceMethod yX2_energyOf, .selects RX2 yX2_energyOf yX2_energyOf, .code yX2_energyOf cX2_energyOf 2 (some .int), .fieldLink RX2 15 "TwoLakes$Machine" "gives" "I", .fieldLink RX2 21 "TwoLakes$Machine" "takes" "I"] ++ wsX00 ++ wsX10 ++ wsX20)
def wsX2_canBe : List Cond := .code yX2_canBe cX2_canBe 3 (some .boolean) :: ([.fieldLink RX2 33 "TwoLakes$Machine" "isOut" "[Z"] ++ wsX20)
def wsX2_backup : List Cond := .code yX2_backup cX2_backup 3 (some .int) :: ([.fieldLink RX2 21 "TwoLakes$Machine" "takes" "I", .fieldLink RX2 33 "TwoLakes$Machine" "isOut" "[Z", .fieldLink RX2 15 "TwoLakes$Machine" "gives" "I"] ++ wsX20)
def wsX0_isForbidden : List Cond := .code yX0_isForbidden cX0_isForbidden 6 (some .boolean) :: ([.fieldLink RX0 34 "TwoLakes$Doings" "first" "LTwoLakes$Machine;", .fieldLink RX0 38 "TwoLakes$Doings" "second" "LTwoLakes$Machine;", .fieldLink RX0 15 "TwoLakes$Doings" "upperShift" "[I", .methodLink RX0 93 Lib.Math.abs.name, .static Lib.Math.abs.name, .initialized "java/lang/Math", .code Lib.Math.abs.name Lib.Math.abs.code 1 (some .int), .fieldLink RX0 30 "TwoLakes$Doings" "basin" "LTwoLakes$Lakes;", .fieldLink RX0 18 "TwoLakes$Doings" "lowerShift" "[I", .instanceMethod yX2_canBe, .initialized RX2, .selects RX2 yX2_canBe yX2_canBe, .code yX2_canBe cX2_canBe 3 (some .boolean), .fieldLink RX2 33 "TwoLakes$Machine" "isOut" "[Z", .instanceMethod yX2_backup, .selects RX2 yX2_backup yX2_backup, .code yX2_backup cX2_backup 3 (some .int), .fieldLink RX2 21 "TwoLakes$Machine" "takes" "I", .fieldLink RX2 15 "TwoLakes$Machine" "gives" "I"] ++ wsX00 ++ wsX10 ++ wsX20)
def wsX1_leastUpper : List Cond := .code yX1_leastUpper cX1_leastUpper 2 (some .int) :: ([.fieldLink RX1 15 "TwoLakes$Lakes" "lowerRoom" "I", .methodLink RX1 40 Lib.Math.max.name, .static Lib.Math.max.name, .initialized "java/lang/Math", .code Lib.Math.max.name Lib.Math.max.code 2 (some .int)] ++ wsX10)
def wsX2_unitsForBackup : List Cond := .code yX2_unitsForBackup cX2_unitsForBackup 3 (some .int) :: ([.fieldLink RX2 33 "TwoLakes$Machine" "isOut" "[Z", .fieldLink RX2 9 "TwoLakes$Machine" "down" "I"] ++ wsX20)
def wsX0_unitsNeeded : List Cond := .code yX0_unitsNeeded cX0_unitsNeeded 3 (some .int) :: ([.fieldLink RX0 30 "TwoLakes$Doings" "basin" "LTwoLakes$Lakes;", .fieldLink RX0 34 "TwoLakes$Doings" "first" "LTwoLakes$Machine;", .fieldLink RX0 38 "TwoLakes$Doings" "second" "LTwoLakes$Machine;", .instanceMethod yX2_unitsForBackup, .initialized RX2, .selects RX2 yX2_unitsForBackup yX2_unitsForBackup, .code yX2_unitsForBackup cX2_unitsForBackup 3 (some .int), .fieldLink RX2 33 "TwoLakes$Machine" "isOut" "[Z", .fieldLink RX2 9 "TwoLakes$Machine" "down" "I"] ++ wsX00 ++ wsX10 ++ wsX20)
def wsX1_mostUpper : List Cond := .code yX1_mostUpper cX1_mostUpper 2 (some .int) :: ([.fieldLink RX1 9 "TwoLakes$Lakes" "upperRoom" "I", .methodLink RX1 46 Lib.Math.min.name, .static Lib.Math.min.name, .initialized "java/lang/Math", .code Lib.Math.min.name Lib.Math.min.code 2 (some .int)] ++ wsX10)
def wsX0_lookAt_r1 : List Cond := [Cond.fieldLink RX0 30 "TwoLakes$Doings" "basin" "LTwoLakes$Lakes;", Cond.fieldLink RX0 21 "TwoLakes$Doings" "lowest" "[I", Cond.fieldLink RX0 24 "TwoLakes$Doings" "highest" "[I", Cond.fieldLink RX0 15 "TwoLakes$Doings" "upperShift" "[I", Cond.methodLink RX0 67 Lib.Math.max.name, Cond.static Lib.Math.max.name, Cond.initialized "java/lang/Math", Cond.code Lib.Math.max.name Lib.Math.max.code 2 (some .int), Cond.methodLink RX0 79 Lib.Math.min.name, Cond.static Lib.Math.min.name, Cond.code Lib.Math.min.name Lib.Math.min.code 2 (some .int), Cond.methodLink RX0 56 yX0_measure, Cond.instanceMethod yX0_measure, Cond.selects RX0 yX0_measure yX0_measure, Cond.initialized RX0, Cond.code yX0_measure cX0_measure 7 none, Cond.fieldLink RX0 34 "TwoLakes$Doings" "first" "LTwoLakes$Machine;", Cond.fieldLink RX0 38 "TwoLakes$Doings" "second" "LTwoLakes$Machine;", Cond.fieldLink RX0 9 "TwoLakes$Doings" "energy" "[I", Cond.fieldLink RX0 18 "TwoLakes$Doings" "lowerShift" "[I", Cond.instanceMethod yX2_letDown, Cond.initialized RX2, Cond.selects RX2 yX2_letDown yX2_letDown, Cond.code yX2_letDown cX2_letDown 2 (some .int)]
def wsX0_lookAt_r2 : List Cond := [Cond.fieldLink RX2 9 "TwoLakes$Machine" "down" "I", Cond.fieldLink RX2 18 "TwoLakes$Machine" "lifts" "I", Cond.instanceMethod yX2_energyOf, Cond.selects RX2 yX2_energyOf yX2_energyOf, Cond.code yX2_energyOf cX2_energyOf 2 (some .int), Cond.fieldLink RX2 15 "TwoLakes$Machine" "gives" "I", Cond.fieldLink RX2 21 "TwoLakes$Machine" "takes" "I", Cond.methodLink RX0 59 yX0_isForbidden, Cond.instanceMethod yX0_isForbidden, Cond.selects RX0 yX0_isForbidden yX0_isForbidden, Cond.code yX0_isForbidden cX0_isForbidden 6 (some .boolean), Cond.methodLink RX0 93 Lib.Math.abs.name, Cond.static Lib.Math.abs.name, Cond.code Lib.Math.abs.name Lib.Math.abs.code 1 (some .int), Cond.instanceMethod yX2_canBe, Cond.selects RX2 yX2_canBe yX2_canBe, Cond.code yX2_canBe cX2_canBe 3 (some .boolean), Cond.fieldLink RX2 33 "TwoLakes$Machine" "isOut" "[Z", Cond.instanceMethod yX2_backup, Cond.selects RX2 yX2_backup yX2_backup, Cond.code yX2_backup cX2_backup 3 (some .int), Cond.instanceMethod yX1_leastUpper, Cond.initialized RX1, Cond.selects RX1 yX1_leastUpper yX1_leastUpper]
def wsX0_lookAt_r3 : List Cond := [Cond.code yX1_leastUpper cX1_leastUpper 2 (some .int), Cond.fieldLink RX1 15 "TwoLakes$Lakes" "lowerRoom" "I", Cond.methodLink RX1 40 Lib.Math.max.name, Cond.methodLink RX0 73 yX0_unitsNeeded, Cond.instanceMethod yX0_unitsNeeded, Cond.selects RX0 yX0_unitsNeeded yX0_unitsNeeded, Cond.code yX0_unitsNeeded cX0_unitsNeeded 3 (some .int), Cond.instanceMethod yX2_unitsForBackup, Cond.selects RX2 yX2_unitsForBackup yX2_unitsForBackup, Cond.code yX2_unitsForBackup cX2_unitsForBackup 3 (some .int), Cond.instanceMethod yX1_mostUpper, Cond.selects RX1 yX1_mostUpper yX1_mostUpper, Cond.code yX1_mostUpper cX1_mostUpper 2 (some .int), Cond.fieldLink RX1 9 "TwoLakes$Lakes" "upperRoom" "I", Cond.methodLink RX1 46 Lib.Math.min.name]
def wsX0_lookAt : List Cond := .code yX0_lookAt cX0_lookAt 8 none :: ((wsX0_lookAt_r1 ++ (wsX0_lookAt_r2 ++ wsX0_lookAt_r3)) ++ wsX00 ++ wsX10 ++ wsX20)
def wsX2_canFollow : List Cond := .code yX2_canFollow cX2_canFollow 2 (some .boolean) :: ([])
def wsX2_isStart : List Cond := .code yX2_isStart cX2_isStart 2 (some .boolean) :: ([])
def wsX0_startCost : List Cond := .code yX0_startCost cX0_startCost 8 (some .int) :: ([.fieldLink RX0 34 "TwoLakes$Doings" "first" "LTwoLakes$Machine;", .fieldLink RX0 38 "TwoLakes$Doings" "second" "LTwoLakes$Machine;", .static yX2_canFollow, .initialized RX2, .code yX2_canFollow cX2_canFollow 2 (some .boolean), .static yX2_isStart, .code yX2_isStart cX2_isStart 2 (some .boolean)] ++ wsX00 ++ wsX20)
def wsX0_countStarts : List Cond := .code yX0_countStarts cX0_countStarts 3 none :: ([.fieldLink RX0 27 "TwoLakes$Doings" "startCosts" "[I", .methodLink RX0 121 yX0_startCost, .instanceMethod yX0_startCost, .selects RX0 yX0_startCost yX0_startCost, .initialized RX0, .code yX0_startCost cX0_startCost 8 (some .int), .fieldLink RX0 34 "TwoLakes$Doings" "first" "LTwoLakes$Machine;", .fieldLink RX0 38 "TwoLakes$Doings" "second" "LTwoLakes$Machine;", .static yX2_canFollow, .initialized RX2, .code yX2_canFollow cX2_canFollow 2 (some .boolean), .static yX2_isStart, .code yX2_isStart cX2_isStart 2 (some .boolean)] ++ wsX00 ++ wsX20)
def wsX0_foresee_r1 : List Cond := [Cond.fieldLink RX0 30 "TwoLakes$Doings" "basin" "LTwoLakes$Lakes;", Cond.methodLink RX0 41 yX0_lookAt, Cond.instanceMethod yX0_lookAt, Cond.selects RX0 yX0_lookAt yX0_lookAt, Cond.initialized RX0, Cond.code yX0_lookAt cX0_lookAt 8 none, Cond.fieldLink RX0 21 "TwoLakes$Doings" "lowest" "[I", Cond.fieldLink RX0 24 "TwoLakes$Doings" "highest" "[I", Cond.fieldLink RX0 15 "TwoLakes$Doings" "upperShift" "[I", Cond.methodLink RX0 67 Lib.Math.max.name, Cond.static Lib.Math.max.name, Cond.initialized "java/lang/Math", Cond.code Lib.Math.max.name Lib.Math.max.code 2 (some .int), Cond.methodLink RX0 79 Lib.Math.min.name, Cond.static Lib.Math.min.name, Cond.code Lib.Math.min.name Lib.Math.min.code 2 (some .int), Cond.methodLink RX0 56 yX0_measure, Cond.instanceMethod yX0_measure, Cond.selects RX0 yX0_measure yX0_measure, Cond.code yX0_measure cX0_measure 7 none, Cond.fieldLink RX0 34 "TwoLakes$Doings" "first" "LTwoLakes$Machine;", Cond.fieldLink RX0 38 "TwoLakes$Doings" "second" "LTwoLakes$Machine;", Cond.fieldLink RX0 9 "TwoLakes$Doings" "energy" "[I", Cond.fieldLink RX0 18 "TwoLakes$Doings" "lowerShift" "[I"]
def wsX0_foresee_r2 : List Cond := [Cond.instanceMethod yX2_letDown, Cond.initialized RX2, Cond.selects RX2 yX2_letDown yX2_letDown, Cond.code yX2_letDown cX2_letDown 2 (some .int), Cond.fieldLink RX2 9 "TwoLakes$Machine" "down" "I", Cond.fieldLink RX2 18 "TwoLakes$Machine" "lifts" "I", Cond.instanceMethod yX2_energyOf, Cond.selects RX2 yX2_energyOf yX2_energyOf, Cond.code yX2_energyOf cX2_energyOf 2 (some .int), Cond.fieldLink RX2 15 "TwoLakes$Machine" "gives" "I", Cond.fieldLink RX2 21 "TwoLakes$Machine" "takes" "I", Cond.methodLink RX0 59 yX0_isForbidden, Cond.instanceMethod yX0_isForbidden, Cond.selects RX0 yX0_isForbidden yX0_isForbidden, Cond.code yX0_isForbidden cX0_isForbidden 6 (some .boolean), Cond.methodLink RX0 93 Lib.Math.abs.name, Cond.static Lib.Math.abs.name, Cond.code Lib.Math.abs.name Lib.Math.abs.code 1 (some .int), Cond.instanceMethod yX2_canBe, Cond.selects RX2 yX2_canBe yX2_canBe, Cond.code yX2_canBe cX2_canBe 3 (some .boolean), Cond.fieldLink RX2 33 "TwoLakes$Machine" "isOut" "[Z", Cond.instanceMethod yX2_backup, Cond.selects RX2 yX2_backup yX2_backup]
def wsX0_foresee_r3 : List Cond := [Cond.code yX2_backup cX2_backup 3 (some .int), Cond.instanceMethod yX1_leastUpper, Cond.initialized RX1, Cond.selects RX1 yX1_leastUpper yX1_leastUpper, Cond.code yX1_leastUpper cX1_leastUpper 2 (some .int), Cond.fieldLink RX1 15 "TwoLakes$Lakes" "lowerRoom" "I", Cond.methodLink RX1 40 Lib.Math.max.name, Cond.methodLink RX0 73 yX0_unitsNeeded, Cond.instanceMethod yX0_unitsNeeded, Cond.selects RX0 yX0_unitsNeeded yX0_unitsNeeded, Cond.code yX0_unitsNeeded cX0_unitsNeeded 3 (some .int), Cond.instanceMethod yX2_unitsForBackup, Cond.selects RX2 yX2_unitsForBackup yX2_unitsForBackup, Cond.code yX2_unitsForBackup cX2_unitsForBackup 3 (some .int), Cond.instanceMethod yX1_mostUpper, Cond.selects RX1 yX1_mostUpper yX1_mostUpper, Cond.code yX1_mostUpper cX1_mostUpper 2 (some .int), Cond.fieldLink RX1 9 "TwoLakes$Lakes" "upperRoom" "I", Cond.methodLink RX1 46 Lib.Math.min.name, Cond.methodLink RX0 53 yX0_countStarts, Cond.instanceMethod yX0_countStarts, Cond.selects RX0 yX0_countStarts yX0_countStarts, Cond.code yX0_countStarts cX0_countStarts 3 none, Cond.fieldLink RX0 27 "TwoLakes$Doings" "startCosts" "[I"]
def wsX0_foresee_r4 : List Cond := [Cond.methodLink RX0 121 yX0_startCost, Cond.instanceMethod yX0_startCost, Cond.selects RX0 yX0_startCost yX0_startCost, Cond.code yX0_startCost cX0_startCost 8 (some .int), Cond.static yX2_canFollow, Cond.code yX2_canFollow cX2_canFollow 2 (some .boolean), Cond.static yX2_isStart, Cond.code yX2_isStart cX2_isStart 2 (some .boolean)]
def wsX0_foresee : List Cond := .code yX0_foresee cX0_foresee 5 none :: ((wsX0_foresee_r1 ++ (wsX0_foresee_r2 ++ (wsX0_foresee_r3 ++ wsX0_foresee_r4))) ++ wsX00 ++ wsX10 ++ wsX20)
def wsX0_isOpen : List Cond := .code yX0_isOpen cX0_isOpen 3 (some .boolean) :: ([.fieldLink RX0 21 "TwoLakes$Doings" "lowest" "[I", .fieldLink RX0 24 "TwoLakes$Doings" "highest" "[I"] ++ wsX00)
def wsX1_init : List Cond := .code yX1_init cX1_init 1 none :: ([.methodLink RX1 3 objectInit, .instanceMethod objectInit, .code objectInit ⟨#[0xb1]⟩ 1 none, .fieldLink RX1 9 "TwoLakes$Lakes" "upperRoom" "I", .fieldLink RX1 15 "TwoLakes$Lakes" "lowerRoom" "I", .fieldLink RX1 18 "TwoLakes$Lakes" "upperSpeed" "I", .fieldLink RX1 21 "TwoLakes$Lakes" "lowerSpeed" "I", .fieldLink RX1 24 "TwoLakes$Lakes" "upper" "I", .fieldLink RX1 27 "TwoLakes$Lakes" "lower" "I", .arrayClass .int, .fieldLink RX1 30 "TwoLakes$Lakes" "inflow" "[I", .fieldLink RX1 34 "TwoLakes$Lakes" "outflow" "[I", .fieldLink RX1 37 "TwoLakes$Lakes" "promised" "[I"] ++ wsX10)
def wsX2_init : List Cond := .code yX2_init cX2_init 1 none :: ([.methodLink RX2 3 objectInit, .instanceMethod objectInit, .code objectInit ⟨#[0xb1]⟩ 1 none, .fieldLink RX2 9 "TwoLakes$Machine" "down" "I", .fieldLink RX2 15 "TwoLakes$Machine" "gives" "I", .fieldLink RX2 18 "TwoLakes$Machine" "lifts" "I", .fieldLink RX2 21 "TwoLakes$Machine" "takes" "I", .fieldLink RX2 24 "TwoLakes$Machine" "startCost" "I", .fieldLink RX2 27 "TwoLakes$Machine" "mode" "I", .fieldLink RX2 30 "TwoLakes$Machine" "starts" "I", .arrayClass .boolean, .fieldLink RX2 33 "TwoLakes$Machine" "isOut" "[Z"] ++ wsX20)
def wsX2_turnTo : List Cond := .code yX2_turnTo cX2_turnTo 2 none :: ([.fieldLink RX2 27 "TwoLakes$Machine" "mode" "I", .fieldLink RX2 30 "TwoLakes$Machine" "starts" "I", .methodLink RX2 37 yX2_isStart, .static yX2_isStart, .initialized RX2, .code yX2_isStart cX2_isStart 2 (some .boolean)] ++ wsX20)
def wsJ7_fill_53178 : List Cond := .code yJ7_fill_53178 cJ7_fill_53178 4 none :: ([])
def wsX3_init : List Cond := .code yX3_init cX3_init 1 none :: ([.methodLink RX3 3 objectInit, .instanceMethod objectInit, .code objectInit ⟨#[0xb1]⟩ 1 none, .arrayClass .int, .fieldLink RX3 9 "TwoLakes$Outlook" "prices" "[I", .fieldLink RX3 15 "TwoLakes$Outlook" "startScale" "I", .fieldLink RX3 19 "TwoLakes$Outlook" "values" "[I", .fieldLink RX3 22 "TwoLakes$Outlook" "behind" "[I", .fieldLink RX3 25 "TwoLakes$Outlook" "choices" "[I", .methodLink RX3 28 yJ7_fill_53178, .static yJ7_fill_53178, .initialized RJ7, .code yJ7_fill_53178 cJ7_fill_53178 4 none] ++ wsX30)
def wsX3_endWith : List Cond := .code yX3_endWith cX3_endWith 3 none :: ([.fieldLink RX3 19 "TwoLakes$Outlook" "values" "[I"] ++ wsX30)
def wsX3_mixIn : List Cond := .code yX3_mixIn cX3_mixIn 5 none :: ([.fieldLink RX3 15 "TwoLakes$Outlook" "startScale" "I", .fieldLink RX3 9 "TwoLakes$Outlook" "prices" "[I", .fieldLink RX3 19 "TwoLakes$Outlook" "values" "[I", .constant RX3 34 (-1000000000)] ++ wsX30)
def wsX3_tryAtAllLevels : List Cond := .code yX3_tryAtAllLevels cX3_tryAtAllLevels 11 none :: ([.fieldLink RX3 22 "TwoLakes$Outlook" "behind" "[I", .constant RX3 34 (-1000000000), .fieldLink RX3 19 "TwoLakes$Outlook" "values" "[I", .fieldLink RX3 25 "TwoLakes$Outlook" "choices" "[I"] ++ wsX00 ++ wsX30)
def wsX3_tryFromAllModes : List Cond := .code yX3_tryFromAllModes cX3_tryFromAllModes 7 none :: ([.fieldLink RX3 9 "TwoLakes$Outlook" "prices" "[I", .fieldLink RX3 15 "TwoLakes$Outlook" "startScale" "I", .methodLink RX3 47 yX3_tryAtAllLevels, .instanceMethod yX3_tryAtAllLevels, .selects RX3 yX3_tryAtAllLevels yX3_tryAtAllLevels, .initialized RX3, .code yX3_tryAtAllLevels cX3_tryAtAllLevels 11 none, .fieldLink RX3 22 "TwoLakes$Outlook" "behind" "[I", .constant RX3 34 (-1000000000), .fieldLink RX3 19 "TwoLakes$Outlook" "values" "[I", .fieldLink RX3 25 "TwoLakes$Outlook" "choices" "[I"] ++ wsX30 ++ wsX00)
def wsX3_plan : List Cond := .code yX3_plan cX3_plan 7 none :: ([.fieldLink RX3 22 "TwoLakes$Outlook" "behind" "[I", .fieldLink RX3 19 "TwoLakes$Outlook" "values" "[I", .constant RX3 34 (-1000000000), .fieldLink RX3 25 "TwoLakes$Outlook" "choices" "[I", .methodLink RX3 28 yJ7_fill_53178, .static yJ7_fill_53178, .initialized RJ7, .code yJ7_fill_53178 cJ7_fill_53178 4 none, .methodLink RX3 35 yX3_tryFromAllModes, .instanceMethod yX3_tryFromAllModes, .selects RX3 yX3_tryFromAllModes yX3_tryFromAllModes, .initialized RX3, .code yX3_tryFromAllModes cX3_tryFromAllModes 7 none, .fieldLink RX3 9 "TwoLakes$Outlook" "prices" "[I", .fieldLink RX3 15 "TwoLakes$Outlook" "startScale" "I", .methodLink RX3 47 yX3_tryAtAllLevels, .instanceMethod yX3_tryAtAllLevels, .selects RX3 yX3_tryAtAllLevels yX3_tryAtAllLevels, .code yX3_tryAtAllLevels cX3_tryAtAllLevels 11 none] ++ wsX30 ++ wsX00)
def wsX4_init_r1 : List Cond := [Cond.methodLink RX4 1 objectInit, Cond.instanceMethod objectInit, Cond.code objectInit ⟨#[0xb1]⟩ 1 none, Cond.classLink RX4 7 RX1, Cond.instantiable RX1 9, Cond.initialized RX1, Cond.fieldLink RX4 10 "TwoLakes" "basin" "LTwoLakes$Lakes;", Cond.classLink RX4 16 RX2, Cond.instantiable RX2 8, Cond.initialized RX2, Cond.fieldLink RX4 19 "TwoLakes" "first" "LTwoLakes$Machine;", Cond.fieldLink RX4 23 "TwoLakes" "second" "LTwoLakes$Machine;", Cond.classLink RX4 26 RX0, Cond.instantiable RX0 9, Cond.initialized RX0, Cond.fieldLink RX4 31 "TwoLakes" "doings" "LTwoLakes$Doings;", Cond.classLink RX4 35 RX3, Cond.fieldLink RX4 37 "TwoLakes" "outlooks" "[LTwoLakes$Outlook;", Cond.instantiable RX3 5, Cond.initialized RX3, Cond.fieldLink RX4 42 "TwoLakes" "common" "LTwoLakes$Outlook;", Cond.arrayClass .int, Cond.fieldLink RX4 46 "TwoLakes" "weight" "[I", Cond.fieldLink RX4 50 "TwoLakes" "knownWorth" "[I"]
def wsX4_init_r2 : List Cond := [Cond.fieldLink RX4 53 "TwoLakes" "knownDoing" "[I", Cond.fieldLink RX4 56 "TwoLakes" "revealHour" "I", Cond.fieldLink RX4 60 "TwoLakes" "endPrice" "I", Cond.fieldLink RX4 63 "TwoLakes" "now" "I", Cond.fieldLink RX4 66 "TwoLakes" "purse" "I", Cond.constant RX4 69 (-2000000000), Cond.instanceMethod yX1_init, Cond.code yX1_init cX1_init 1 none, Cond.methodLink RX1 3 objectInit, Cond.fieldLink RX1 9 "TwoLakes$Lakes" "upperRoom" "I", Cond.fieldLink RX1 15 "TwoLakes$Lakes" "lowerRoom" "I", Cond.fieldLink RX1 18 "TwoLakes$Lakes" "upperSpeed" "I", Cond.fieldLink RX1 21 "TwoLakes$Lakes" "lowerSpeed" "I", Cond.fieldLink RX1 24 "TwoLakes$Lakes" "upper" "I", Cond.fieldLink RX1 27 "TwoLakes$Lakes" "lower" "I", Cond.fieldLink RX1 30 "TwoLakes$Lakes" "inflow" "[I", Cond.fieldLink RX1 34 "TwoLakes$Lakes" "outflow" "[I", Cond.fieldLink RX1 37 "TwoLakes$Lakes" "promised" "[I", Cond.instanceMethod yX2_init, Cond.code yX2_init cX2_init 1 none, Cond.methodLink RX2 3 objectInit, Cond.fieldLink RX2 9 "TwoLakes$Machine" "down" "I", Cond.fieldLink RX2 15 "TwoLakes$Machine" "gives" "I", Cond.fieldLink RX2 18 "TwoLakes$Machine" "lifts" "I"]
def wsX4_init_r3 : List Cond := [Cond.fieldLink RX2 21 "TwoLakes$Machine" "takes" "I", Cond.fieldLink RX2 24 "TwoLakes$Machine" "startCost" "I", Cond.fieldLink RX2 27 "TwoLakes$Machine" "mode" "I", Cond.fieldLink RX2 30 "TwoLakes$Machine" "starts" "I", Cond.arrayClass .boolean, Cond.fieldLink RX2 33 "TwoLakes$Machine" "isOut" "[Z", Cond.instanceMethod yX0_init, Cond.code yX0_init cX0_init 4 none, Cond.methodLink RX0 3 objectInit, Cond.fieldLink RX0 9 "TwoLakes$Doings" "energy" "[I", Cond.fieldLink RX0 15 "TwoLakes$Doings" "upperShift" "[I", Cond.fieldLink RX0 18 "TwoLakes$Doings" "lowerShift" "[I", Cond.fieldLink RX0 21 "TwoLakes$Doings" "lowest" "[I", Cond.fieldLink RX0 24 "TwoLakes$Doings" "highest" "[I", Cond.fieldLink RX0 27 "TwoLakes$Doings" "startCosts" "[I", Cond.fieldLink RX0 30 "TwoLakes$Doings" "basin" "LTwoLakes$Lakes;", Cond.fieldLink RX0 34 "TwoLakes$Doings" "first" "LTwoLakes$Machine;", Cond.fieldLink RX0 38 "TwoLakes$Doings" "second" "LTwoLakes$Machine;", Cond.instanceMethod yX3_init, Cond.code yX3_init cX3_init 1 none, Cond.methodLink RX3 3 objectInit, Cond.fieldLink RX3 9 "TwoLakes$Outlook" "prices" "[I", Cond.fieldLink RX3 15 "TwoLakes$Outlook" "startScale" "I", Cond.fieldLink RX3 19 "TwoLakes$Outlook" "values" "[I"]
def wsX4_init_r4 : List Cond := [Cond.fieldLink RX3 22 "TwoLakes$Outlook" "behind" "[I", Cond.fieldLink RX3 25 "TwoLakes$Outlook" "choices" "[I", Cond.methodLink RX3 28 yJ7_fill_53178, Cond.static yJ7_fill_53178, Cond.initialized RJ7, Cond.code yJ7_fill_53178 cJ7_fill_53178 4 none, Cond.methodLink RX4 70 yJ7_fill_53178]
def wsX4_init : List Cond := .code yX4_init cX4_init 2 none :: ((wsX4_init_r1 ++ (wsX4_init_r2 ++ (wsX4_init_r3 ++ wsX4_init_r4))) ++ wsX10 ++ wsX40 ++ wsX20 ++ wsX00 ++ wsX30)
def wsX4_within : List Cond := .code yX4_within cX4_within 3 (some .boolean) :: ([])
def wsX4_changed : List Cond := .code yX4_changed cX4_changed 1 (some .boolean) :: ([.fieldLink RX4 50 "TwoLakes" "knownWorth" "[I", .constant RX4 69 (-2000000000), .fieldLink RX4 53 "TwoLakes" "knownDoing" "[I", .methodLink RX4 70 yJ7_fill_53178, .static yJ7_fill_53178, .initialized RJ7, .code yJ7_fill_53178 cJ7_fill_53178 4 none] ++ wsX40)
def wsX4_lakes : List Cond := .code yX4_lakes cX4_lakes 5 (some .boolean) :: ([.fieldLink RX4 63 "TwoLakes" "now" "I", .fieldLink RX4 10 "TwoLakes" "basin" "LTwoLakes$Lakes;", .methodLink RX4 76 yX4_within, .static yX4_within, .initialized RX4, .code yX4_within cX4_within 3 (some .boolean), .methodLink RX4 92 yX4_changed, .instanceMethod yX4_changed, .selects RX4 yX4_changed yX4_changed, .code yX4_changed cX4_changed 1 (some .boolean), .fieldLink RX4 50 "TwoLakes" "knownWorth" "[I", .constant RX4 69 (-2000000000), .fieldLink RX4 53 "TwoLakes" "knownDoing" "[I", .methodLink RX4 70 yJ7_fill_53178, .static yJ7_fill_53178, .initialized RJ7, .code yJ7_fill_53178 cJ7_fill_53178 4 none] ++ wsX40 ++ wsX10)
def wsX4_speeds : List Cond := .code yX4_speeds cX4_speeds 3 (some .boolean) :: ([.fieldLink RX4 10 "TwoLakes" "basin" "LTwoLakes$Lakes;", .methodLink RX4 76 yX4_within, .static yX4_within, .initialized RX4, .code yX4_within cX4_within 3 (some .boolean), .methodLink RX4 92 yX4_changed, .instanceMethod yX4_changed, .selects RX4 yX4_changed yX4_changed, .code yX4_changed cX4_changed 1 (some .boolean), .fieldLink RX4 50 "TwoLakes" "knownWorth" "[I", .constant RX4 69 (-2000000000), .fieldLink RX4 53 "TwoLakes" "knownDoing" "[I", .methodLink RX4 70 yJ7_fill_53178, .static yJ7_fill_53178, .initialized RJ7, .code yJ7_fill_53178 cJ7_fill_53178 4 none] ++ wsX40 ++ wsX10)
def wsX4_isHour : List Cond := .code yX4_isHour cX4_isHour 1 (some .boolean) :: ([.methodLink RX4 76 yX4_within, .static yX4_within, .initialized RX4, .code yX4_within cX4_within 3 (some .boolean)])
def wsX4_flows : List Cond := .code yX4_flows cX4_flows 4 (some .boolean) :: ([.fieldLink RX4 10 "TwoLakes" "basin" "LTwoLakes$Lakes;", .methodLink RX4 102 yX4_isHour, .static yX4_isHour, .initialized RX4, .code yX4_isHour cX4_isHour 1 (some .boolean), .methodLink RX4 76 yX4_within, .static yX4_within, .code yX4_within cX4_within 3 (some .boolean), .methodLink RX4 92 yX4_changed, .instanceMethod yX4_changed, .selects RX4 yX4_changed yX4_changed, .code yX4_changed cX4_changed 1 (some .boolean), .fieldLink RX4 50 "TwoLakes" "knownWorth" "[I", .constant RX4 69 (-2000000000), .fieldLink RX4 53 "TwoLakes" "knownDoing" "[I", .methodLink RX4 70 yJ7_fill_53178, .static yJ7_fill_53178, .initialized RJ7, .code yJ7_fill_53178 cJ7_fill_53178 4 none] ++ wsX40 ++ wsX10)
def wsX4_isMachine : List Cond := .code yX4_isMachine cX4_isMachine 1 (some .boolean) :: ([.methodLink RX4 76 yX4_within, .static yX4_within, .initialized RX4, .code yX4_within cX4_within 3 (some .boolean)])
def wsX4_isOfMachine : List Cond := .code yX4_isOfMachine cX4_isOfMachine 1 (some .boolean) :: ([.methodLink RX4 76 yX4_within, .static yX4_within, .initialized RX4, .code yX4_within cX4_within 3 (some .boolean)])
def wsX4_machineOf : List Cond := .code yX4_machineOf cX4_machineOf 2 (some (.object "TwoLakes$Machine")) :: ([.fieldLink RX4 19 "TwoLakes" "first" "LTwoLakes$Machine;", .fieldLink RX4 23 "TwoLakes" "second" "LTwoLakes$Machine;"] ++ wsX40)
def wsX4_machine_r1 : List Cond := [Cond.methodLink RX4 112 yX4_isMachine, Cond.static yX4_isMachine, Cond.initialized RX4, Cond.code yX4_isMachine cX4_isMachine 1 (some .boolean), Cond.methodLink RX4 76 yX4_within, Cond.static yX4_within, Cond.code yX4_within cX4_within 3 (some .boolean), Cond.methodLink RX4 115 yX4_isOfMachine, Cond.static yX4_isOfMachine, Cond.code yX4_isOfMachine cX4_isOfMachine 1 (some .boolean), Cond.methodLink RX4 118 yX4_machineOf, Cond.instanceMethod yX4_machineOf, Cond.selects RX4 yX4_machineOf yX4_machineOf, Cond.code yX4_machineOf cX4_machineOf 2 (some (.object "TwoLakes$Machine")), Cond.fieldLink RX4 19 "TwoLakes" "first" "LTwoLakes$Machine;", Cond.fieldLink RX4 23 "TwoLakes" "second" "LTwoLakes$Machine;", Cond.methodLink RX4 92 yX4_changed, Cond.instanceMethod yX4_changed, Cond.selects RX4 yX4_changed yX4_changed, Cond.code yX4_changed cX4_changed 1 (some .boolean), Cond.fieldLink RX4 50 "TwoLakes" "knownWorth" "[I", Cond.constant RX4 69 (-2000000000), Cond.fieldLink RX4 53 "TwoLakes" "knownDoing" "[I", Cond.methodLink RX4 70 yJ7_fill_53178]
def wsX4_machine_r2 : List Cond := [Cond.static yJ7_fill_53178, Cond.initialized RJ7, Cond.code yJ7_fill_53178 cJ7_fill_53178 4 none]
def wsX4_machine : List Cond := .code yX4_machine cX4_machine 8 (some .boolean) :: ((wsX4_machine_r1 ++ wsX4_machine_r2) ++ wsX20 ++ wsX40)
def wsX4_out_r1 : List Cond := [Cond.methodLink RX4 112 yX4_isMachine, Cond.static yX4_isMachine, Cond.initialized RX4, Cond.code yX4_isMachine cX4_isMachine 1 (some .boolean), Cond.methodLink RX4 76 yX4_within, Cond.static yX4_within, Cond.code yX4_within cX4_within 3 (some .boolean), Cond.methodLink RX4 102 yX4_isHour, Cond.static yX4_isHour, Cond.code yX4_isHour cX4_isHour 1 (some .boolean), Cond.methodLink RX4 118 yX4_machineOf, Cond.instanceMethod yX4_machineOf, Cond.selects RX4 yX4_machineOf yX4_machineOf, Cond.code yX4_machineOf cX4_machineOf 2 (some (.object "TwoLakes$Machine")), Cond.fieldLink RX4 19 "TwoLakes" "first" "LTwoLakes$Machine;", Cond.fieldLink RX4 23 "TwoLakes" "second" "LTwoLakes$Machine;", Cond.methodLink RX4 92 yX4_changed, Cond.instanceMethod yX4_changed, Cond.selects RX4 yX4_changed yX4_changed, Cond.code yX4_changed cX4_changed 1 (some .boolean), Cond.fieldLink RX4 50 "TwoLakes" "knownWorth" "[I", Cond.constant RX4 69 (-2000000000), Cond.fieldLink RX4 53 "TwoLakes" "knownDoing" "[I", Cond.methodLink RX4 70 yJ7_fill_53178]
def wsX4_out_r2 : List Cond := [Cond.static yJ7_fill_53178, Cond.initialized RJ7, Cond.code yJ7_fill_53178 cJ7_fill_53178 4 none]
def wsX4_out : List Cond := .code yX4_out cX4_out 7 (some .boolean) :: ((wsX4_out_r1 ++ wsX4_out_r2) ++ wsX20 ++ wsX40)
def wsX4_reserve : List Cond := .code yX4_reserve cX4_reserve 3 (some .boolean) :: ([.fieldLink RX4 10 "TwoLakes" "basin" "LTwoLakes$Lakes;", .methodLink RX4 102 yX4_isHour, .static yX4_isHour, .initialized RX4, .code yX4_isHour cX4_isHour 1 (some .boolean), .methodLink RX4 76 yX4_within, .static yX4_within, .code yX4_within cX4_within 3 (some .boolean), .methodLink RX4 92 yX4_changed, .instanceMethod yX4_changed, .selects RX4 yX4_changed yX4_changed, .code yX4_changed cX4_changed 1 (some .boolean), .fieldLink RX4 50 "TwoLakes" "knownWorth" "[I", .constant RX4 69 (-2000000000), .fieldLink RX4 53 "TwoLakes" "knownDoing" "[I", .methodLink RX4 70 yJ7_fill_53178, .static yJ7_fill_53178, .initialized RJ7, .code yJ7_fill_53178 cJ7_fill_53178 4 none] ++ wsX40 ++ wsX10)
def wsX4_weights : List Cond := .code yX4_weights cX4_weights 4 (some .boolean) :: ([.fieldLink RX4 46 "TwoLakes" "weight" "[I", .methodLink RX4 76 yX4_within, .static yX4_within, .initialized RX4, .code yX4_within cX4_within 3 (some .boolean), .methodLink RX4 92 yX4_changed, .instanceMethod yX4_changed, .selects RX4 yX4_changed yX4_changed, .code yX4_changed cX4_changed 1 (some .boolean), .fieldLink RX4 50 "TwoLakes" "knownWorth" "[I", .constant RX4 69 (-2000000000), .fieldLink RX4 53 "TwoLakes" "knownDoing" "[I", .methodLink RX4 70 yJ7_fill_53178, .static yJ7_fill_53178, .initialized RJ7, .code yJ7_fill_53178 cJ7_fill_53178 4 none] ++ wsX40)
def wsX4_isWorld : List Cond := .code yX4_isWorld cX4_isWorld 1 (some .boolean) :: ([.methodLink RX4 76 yX4_within, .static yX4_within, .initialized RX4, .code yX4_within cX4_within 3 (some .boolean)])
def wsX4_price : List Cond := .code yX4_price cX4_price 4 (some .boolean) :: ([.fieldLink RX4 37 "TwoLakes" "outlooks" "[LTwoLakes$Outlook;", .methodLink RX4 144 yX4_isWorld, .static yX4_isWorld, .initialized RX4, .code yX4_isWorld cX4_isWorld 1 (some .boolean), .methodLink RX4 76 yX4_within, .static yX4_within, .code yX4_within cX4_within 3 (some .boolean), .methodLink RX4 102 yX4_isHour, .static yX4_isHour, .code yX4_isHour cX4_isHour 1 (some .boolean), .methodLink RX4 92 yX4_changed, .instanceMethod yX4_changed, .selects RX4 yX4_changed yX4_changed, .code yX4_changed cX4_changed 1 (some .boolean), .fieldLink RX4 50 "TwoLakes" "knownWorth" "[I", .constant RX4 69 (-2000000000), .fieldLink RX4 53 "TwoLakes" "knownDoing" "[I", .methodLink RX4 70 yJ7_fill_53178, .static yJ7_fill_53178, .initialized RJ7, .code yJ7_fill_53178 cJ7_fill_53178 4 none] ++ wsX40 ++ wsX30)
def wsX4_reveal : List Cond := .code yX4_reveal cX4_reveal 2 (some .boolean) :: ([.fieldLink RX4 56 "TwoLakes" "revealHour" "I", .methodLink RX4 76 yX4_within, .static yX4_within, .initialized RX4, .code yX4_within cX4_within 3 (some .boolean), .methodLink RX4 92 yX4_changed, .instanceMethod yX4_changed, .selects RX4 yX4_changed yX4_changed, .code yX4_changed cX4_changed 1 (some .boolean), .fieldLink RX4 50 "TwoLakes" "knownWorth" "[I", .constant RX4 69 (-2000000000), .fieldLink RX4 53 "TwoLakes" "knownDoing" "[I", .methodLink RX4 70 yJ7_fill_53178, .static yJ7_fill_53178, .initialized RJ7, .code yJ7_fill_53178 cJ7_fill_53178 4 none] ++ wsX40)
def wsX4_end : List Cond := .code yX4_end cX4_end 2 (some .boolean) :: ([.fieldLink RX4 60 "TwoLakes" "endPrice" "I", .methodLink RX4 76 yX4_within, .static yX4_within, .initialized RX4, .code yX4_within cX4_within 3 (some .boolean), .methodLink RX4 92 yX4_changed, .instanceMethod yX4_changed, .selects RX4 yX4_changed yX4_changed, .code yX4_changed cX4_changed 1 (some .boolean), .fieldLink RX4 50 "TwoLakes" "knownWorth" "[I", .constant RX4 69 (-2000000000), .fieldLink RX4 53 "TwoLakes" "knownDoing" "[I", .methodLink RX4 70 yJ7_fill_53178, .static yJ7_fill_53178, .initialized RJ7, .code yJ7_fill_53178 cJ7_fill_53178 4 none] ++ wsX40)
def wsX4_isMode : List Cond := .code yX4_isMode cX4_isMode 1 (some .boolean) :: ([.methodLink RX4 76 yX4_within, .static yX4_within, .initialized RX4, .code yX4_within cX4_within 3 (some .boolean)])
def wsX4_modesNow : List Cond := .code yX4_modesNow cX4_modesNow 1 (some .int) :: ([.fieldLink RX4 19 "TwoLakes" "first" "LTwoLakes$Machine;", .fieldLink RX4 23 "TwoLakes" "second" "LTwoLakes$Machine;"] ++ wsX40 ++ wsX20)
def wsX4_isLegalNow_r1 : List Cond := [Cond.fieldLink RX4 31 "TwoLakes" "doings" "LTwoLakes$Doings;", Cond.fieldLink RX4 63 "TwoLakes" "now" "I", Cond.fieldLink RX4 10 "TwoLakes" "basin" "LTwoLakes$Lakes;", Cond.instanceMethod yX0_lookAt, Cond.initialized RX0, Cond.selects RX0 yX0_lookAt yX0_lookAt, Cond.code yX0_lookAt cX0_lookAt 8 none, Cond.fieldLink RX0 30 "TwoLakes$Doings" "basin" "LTwoLakes$Lakes;", Cond.fieldLink RX0 21 "TwoLakes$Doings" "lowest" "[I", Cond.fieldLink RX0 24 "TwoLakes$Doings" "highest" "[I", Cond.fieldLink RX0 15 "TwoLakes$Doings" "upperShift" "[I", Cond.methodLink RX0 67 Lib.Math.max.name, Cond.static Lib.Math.max.name, Cond.initialized "java/lang/Math", Cond.code Lib.Math.max.name Lib.Math.max.code 2 (some .int), Cond.methodLink RX0 79 Lib.Math.min.name, Cond.static Lib.Math.min.name, Cond.code Lib.Math.min.name Lib.Math.min.code 2 (some .int), Cond.methodLink RX0 56 yX0_measure, Cond.instanceMethod yX0_measure, Cond.selects RX0 yX0_measure yX0_measure, Cond.code yX0_measure cX0_measure 7 none, Cond.fieldLink RX0 34 "TwoLakes$Doings" "first" "LTwoLakes$Machine;", Cond.fieldLink RX0 38 "TwoLakes$Doings" "second" "LTwoLakes$Machine;"]
def wsX4_isLegalNow_r2 : List Cond := [Cond.fieldLink RX0 9 "TwoLakes$Doings" "energy" "[I", Cond.fieldLink RX0 18 "TwoLakes$Doings" "lowerShift" "[I", Cond.instanceMethod yX2_letDown, Cond.initialized RX2, Cond.selects RX2 yX2_letDown yX2_letDown, Cond.code yX2_letDown cX2_letDown 2 (some .int), Cond.fieldLink RX2 9 "TwoLakes$Machine" "down" "I", Cond.fieldLink RX2 18 "TwoLakes$Machine" "lifts" "I", Cond.instanceMethod yX2_energyOf, Cond.selects RX2 yX2_energyOf yX2_energyOf, Cond.code yX2_energyOf cX2_energyOf 2 (some .int), Cond.fieldLink RX2 15 "TwoLakes$Machine" "gives" "I", Cond.fieldLink RX2 21 "TwoLakes$Machine" "takes" "I", Cond.methodLink RX0 59 yX0_isForbidden, Cond.instanceMethod yX0_isForbidden, Cond.selects RX0 yX0_isForbidden yX0_isForbidden, Cond.code yX0_isForbidden cX0_isForbidden 6 (some .boolean), Cond.methodLink RX0 93 Lib.Math.abs.name, Cond.static Lib.Math.abs.name, Cond.code Lib.Math.abs.name Lib.Math.abs.code 1 (some .int), Cond.instanceMethod yX2_canBe, Cond.selects RX2 yX2_canBe yX2_canBe, Cond.code yX2_canBe cX2_canBe 3 (some .boolean), Cond.fieldLink RX2 33 "TwoLakes$Machine" "isOut" "[Z"]
def wsX4_isLegalNow_r3 : List Cond := [Cond.instanceMethod yX2_backup, Cond.selects RX2 yX2_backup yX2_backup, Cond.code yX2_backup cX2_backup 3 (some .int), Cond.instanceMethod yX1_leastUpper, Cond.initialized RX1, Cond.selects RX1 yX1_leastUpper yX1_leastUpper, Cond.code yX1_leastUpper cX1_leastUpper 2 (some .int), Cond.fieldLink RX1 15 "TwoLakes$Lakes" "lowerRoom" "I", Cond.methodLink RX1 40 Lib.Math.max.name, Cond.methodLink RX0 73 yX0_unitsNeeded, Cond.instanceMethod yX0_unitsNeeded, Cond.selects RX0 yX0_unitsNeeded yX0_unitsNeeded, Cond.code yX0_unitsNeeded cX0_unitsNeeded 3 (some .int), Cond.instanceMethod yX2_unitsForBackup, Cond.selects RX2 yX2_unitsForBackup yX2_unitsForBackup, Cond.code yX2_unitsForBackup cX2_unitsForBackup 3 (some .int), Cond.instanceMethod yX1_mostUpper, Cond.selects RX1 yX1_mostUpper yX1_mostUpper, Cond.code yX1_mostUpper cX1_mostUpper 2 (some .int), Cond.fieldLink RX1 9 "TwoLakes$Lakes" "upperRoom" "I", Cond.methodLink RX1 46 Lib.Math.min.name, Cond.methodLink RX4 187 yX4_modesNow, Cond.instanceMethod yX4_modesNow, Cond.selects RX4 yX4_modesNow yX4_modesNow]
def wsX4_isLegalNow_r4 : List Cond := [Cond.initialized RX4, Cond.code yX4_modesNow cX4_modesNow 1 (some .int), Cond.fieldLink RX4 19 "TwoLakes" "first" "LTwoLakes$Machine;", Cond.fieldLink RX4 23 "TwoLakes" "second" "LTwoLakes$Machine;", Cond.instanceMethod yX0_startCost, Cond.selects RX0 yX0_startCost yX0_startCost, Cond.code yX0_startCost cX0_startCost 8 (some .int), Cond.static yX2_canFollow, Cond.code yX2_canFollow cX2_canFollow 2 (some .boolean), Cond.static yX2_isStart, Cond.code yX2_isStart cX2_isStart 2 (some .boolean), Cond.instanceMethod yX0_isOpen, Cond.selects RX0 yX0_isOpen yX0_isOpen, Cond.code yX0_isOpen cX0_isOpen 3 (some .boolean)]
def wsX4_isLegalNow : List Cond := .code yX4_isLegalNow cX4_isLegalNow 3 (some .boolean) :: ((wsX4_isLegalNow_r1 ++ (wsX4_isLegalNow_r2 ++ (wsX4_isLegalNow_r3 ++ wsX4_isLegalNow_r4))) ++ wsX40 ++ wsX10 ++ wsX00 ++ wsX20)
def wsX4_legal_r1 : List Cond := [Cond.fieldLink RX4 63 "TwoLakes" "now" "I", Cond.methodLink RX4 150 yX4_isMode, Cond.static yX4_isMode, Cond.initialized RX4, Cond.code yX4_isMode cX4_isMode 1 (some .boolean), Cond.methodLink RX4 76 yX4_within, Cond.static yX4_within, Cond.code yX4_within cX4_within 3 (some .boolean), Cond.methodLink RX4 153 yX4_isLegalNow, Cond.instanceMethod yX4_isLegalNow, Cond.selects RX4 yX4_isLegalNow yX4_isLegalNow, Cond.code yX4_isLegalNow cX4_isLegalNow 3 (some .boolean), Cond.fieldLink RX4 31 "TwoLakes" "doings" "LTwoLakes$Doings;", Cond.fieldLink RX4 10 "TwoLakes" "basin" "LTwoLakes$Lakes;", Cond.instanceMethod yX0_lookAt, Cond.initialized RX0, Cond.selects RX0 yX0_lookAt yX0_lookAt, Cond.code yX0_lookAt cX0_lookAt 8 none, Cond.fieldLink RX0 30 "TwoLakes$Doings" "basin" "LTwoLakes$Lakes;", Cond.fieldLink RX0 21 "TwoLakes$Doings" "lowest" "[I", Cond.fieldLink RX0 24 "TwoLakes$Doings" "highest" "[I", Cond.fieldLink RX0 15 "TwoLakes$Doings" "upperShift" "[I", Cond.methodLink RX0 67 Lib.Math.max.name, Cond.static Lib.Math.max.name]
def wsX4_legal_r2 : List Cond := [Cond.initialized "java/lang/Math", Cond.code Lib.Math.max.name Lib.Math.max.code 2 (some .int), Cond.methodLink RX0 79 Lib.Math.min.name, Cond.static Lib.Math.min.name, Cond.code Lib.Math.min.name Lib.Math.min.code 2 (some .int), Cond.methodLink RX0 56 yX0_measure, Cond.instanceMethod yX0_measure, Cond.selects RX0 yX0_measure yX0_measure, Cond.code yX0_measure cX0_measure 7 none, Cond.fieldLink RX0 34 "TwoLakes$Doings" "first" "LTwoLakes$Machine;", Cond.fieldLink RX0 38 "TwoLakes$Doings" "second" "LTwoLakes$Machine;", Cond.fieldLink RX0 9 "TwoLakes$Doings" "energy" "[I", Cond.fieldLink RX0 18 "TwoLakes$Doings" "lowerShift" "[I", Cond.instanceMethod yX2_letDown, Cond.initialized RX2, Cond.selects RX2 yX2_letDown yX2_letDown, Cond.code yX2_letDown cX2_letDown 2 (some .int), Cond.fieldLink RX2 9 "TwoLakes$Machine" "down" "I", Cond.fieldLink RX2 18 "TwoLakes$Machine" "lifts" "I", Cond.instanceMethod yX2_energyOf, Cond.selects RX2 yX2_energyOf yX2_energyOf, Cond.code yX2_energyOf cX2_energyOf 2 (some .int), Cond.fieldLink RX2 15 "TwoLakes$Machine" "gives" "I", Cond.fieldLink RX2 21 "TwoLakes$Machine" "takes" "I"]
def wsX4_legal_r3 : List Cond := [Cond.methodLink RX0 59 yX0_isForbidden, Cond.instanceMethod yX0_isForbidden, Cond.selects RX0 yX0_isForbidden yX0_isForbidden, Cond.code yX0_isForbidden cX0_isForbidden 6 (some .boolean), Cond.methodLink RX0 93 Lib.Math.abs.name, Cond.static Lib.Math.abs.name, Cond.code Lib.Math.abs.name Lib.Math.abs.code 1 (some .int), Cond.instanceMethod yX2_canBe, Cond.selects RX2 yX2_canBe yX2_canBe, Cond.code yX2_canBe cX2_canBe 3 (some .boolean), Cond.fieldLink RX2 33 "TwoLakes$Machine" "isOut" "[Z", Cond.instanceMethod yX2_backup, Cond.selects RX2 yX2_backup yX2_backup, Cond.code yX2_backup cX2_backup 3 (some .int), Cond.instanceMethod yX1_leastUpper, Cond.initialized RX1, Cond.selects RX1 yX1_leastUpper yX1_leastUpper, Cond.code yX1_leastUpper cX1_leastUpper 2 (some .int), Cond.fieldLink RX1 15 "TwoLakes$Lakes" "lowerRoom" "I", Cond.methodLink RX1 40 Lib.Math.max.name, Cond.methodLink RX0 73 yX0_unitsNeeded, Cond.instanceMethod yX0_unitsNeeded, Cond.selects RX0 yX0_unitsNeeded yX0_unitsNeeded, Cond.code yX0_unitsNeeded cX0_unitsNeeded 3 (some .int)]
def wsX4_legal_r4 : List Cond := [Cond.instanceMethod yX2_unitsForBackup, Cond.selects RX2 yX2_unitsForBackup yX2_unitsForBackup, Cond.code yX2_unitsForBackup cX2_unitsForBackup 3 (some .int), Cond.instanceMethod yX1_mostUpper, Cond.selects RX1 yX1_mostUpper yX1_mostUpper, Cond.code yX1_mostUpper cX1_mostUpper 2 (some .int), Cond.fieldLink RX1 9 "TwoLakes$Lakes" "upperRoom" "I", Cond.methodLink RX1 46 Lib.Math.min.name, Cond.methodLink RX4 187 yX4_modesNow, Cond.instanceMethod yX4_modesNow, Cond.selects RX4 yX4_modesNow yX4_modesNow, Cond.code yX4_modesNow cX4_modesNow 1 (some .int), Cond.fieldLink RX4 19 "TwoLakes" "first" "LTwoLakes$Machine;", Cond.fieldLink RX4 23 "TwoLakes" "second" "LTwoLakes$Machine;", Cond.instanceMethod yX0_startCost, Cond.selects RX0 yX0_startCost yX0_startCost, Cond.code yX0_startCost cX0_startCost 8 (some .int), Cond.static yX2_canFollow, Cond.code yX2_canFollow cX2_canFollow 2 (some .boolean), Cond.static yX2_isStart, Cond.code yX2_isStart cX2_isStart 2 (some .boolean), Cond.instanceMethod yX0_isOpen, Cond.selects RX0 yX0_isOpen yX0_isOpen, Cond.code yX0_isOpen cX0_isOpen 3 (some .boolean)]
def wsX4_legal : List Cond := .code yX4_legal cX4_legal 3 (some .int) :: ((wsX4_legal_r1 ++ (wsX4_legal_r2 ++ (wsX4_legal_r3 ++ wsX4_legal_r4))) ++ wsX40 ++ wsX10 ++ wsX00 ++ wsX20)
def wsX4_planWorld_r1 : List Cond := [Cond.fieldLink RX4 37 "TwoLakes" "outlooks" "[LTwoLakes$Outlook;", Cond.fieldLink RX4 60 "TwoLakes" "endPrice" "I", Cond.fieldLink RX4 31 "TwoLakes" "doings" "LTwoLakes$Doings;", Cond.fieldLink RX4 63 "TwoLakes" "now" "I", Cond.fieldLink RX4 56 "TwoLakes" "revealHour" "I", Cond.methodLink RX4 235 Lib.Math.max.name, Cond.static Lib.Math.max.name, Cond.initialized "java/lang/Math", Cond.code Lib.Math.max.name Lib.Math.max.code 2 (some .int), Cond.instanceMethod yX3_endWith, Cond.initialized RX3, Cond.selects RX3 yX3_endWith yX3_endWith, Cond.code yX3_endWith cX3_endWith 3 none, Cond.fieldLink RX3 19 "TwoLakes$Outlook" "values" "[I", Cond.instanceMethod yX3_plan, Cond.selects RX3 yX3_plan yX3_plan, Cond.code yX3_plan cX3_plan 7 none, Cond.fieldLink RX3 22 "TwoLakes$Outlook" "behind" "[I", Cond.constant RX3 34 (-1000000000), Cond.fieldLink RX3 25 "TwoLakes$Outlook" "choices" "[I", Cond.methodLink RX3 28 yJ7_fill_53178, Cond.static yJ7_fill_53178, Cond.initialized RJ7, Cond.code yJ7_fill_53178 cJ7_fill_53178 4 none]
def wsX4_planWorld_r2 : List Cond := [Cond.methodLink RX3 35 yX3_tryFromAllModes, Cond.instanceMethod yX3_tryFromAllModes, Cond.selects RX3 yX3_tryFromAllModes yX3_tryFromAllModes, Cond.code yX3_tryFromAllModes cX3_tryFromAllModes 7 none, Cond.fieldLink RX3 9 "TwoLakes$Outlook" "prices" "[I", Cond.fieldLink RX3 15 "TwoLakes$Outlook" "startScale" "I", Cond.methodLink RX3 47 yX3_tryAtAllLevels, Cond.instanceMethod yX3_tryAtAllLevels, Cond.selects RX3 yX3_tryAtAllLevels yX3_tryAtAllLevels, Cond.code yX3_tryAtAllLevels cX3_tryAtAllLevels 11 none]
def wsX4_planWorld : List Cond := .code yX4_planWorld cX4_planWorld 2 none :: ((wsX4_planWorld_r1 ++ wsX4_planWorld_r2) ++ wsX40 ++ wsX30 ++ wsX00)
def wsX4_mixWorlds : List Cond := .code yX4_mixWorlds cX4_mixWorlds 2 none :: ([.fieldLink RX4 42 "TwoLakes" "common" "LTwoLakes$Outlook;", .fieldLink RX4 46 "TwoLakes" "weight" "[I", .fieldLink RX4 37 "TwoLakes" "outlooks" "[LTwoLakes$Outlook;", .methodLink RX4 70 yJ7_fill_53178, .static yJ7_fill_53178, .initialized RJ7, .code yJ7_fill_53178 cJ7_fill_53178 4 none, .instanceMethod yX3_mixIn, .initialized RX3, .selects RX3 yX3_mixIn yX3_mixIn, .code yX3_mixIn cX3_mixIn 5 none, .fieldLink RX3 15 "TwoLakes$Outlook" "startScale" "I", .fieldLink RX3 9 "TwoLakes$Outlook" "prices" "[I", .fieldLink RX3 19 "TwoLakes$Outlook" "values" "[I", .constant RX3 34 (-1000000000)] ++ wsX40 ++ wsX30)
def wsX4_planAll_r1 : List Cond := [Cond.fieldLink RX4 31 "TwoLakes" "doings" "LTwoLakes$Doings;", Cond.fieldLink RX4 63 "TwoLakes" "now" "I", Cond.fieldLink RX4 10 "TwoLakes" "basin" "LTwoLakes$Lakes;", Cond.fieldLink RX4 46 "TwoLakes" "weight" "[I", Cond.fieldLink RX4 42 "TwoLakes" "common" "LTwoLakes$Outlook;", Cond.fieldLink RX4 56 "TwoLakes" "revealHour" "I", Cond.instanceMethod yX0_foresee, Cond.initialized RX0, Cond.selects RX0 yX0_foresee yX0_foresee, Cond.code yX0_foresee cX0_foresee 5 none, Cond.fieldLink RX0 30 "TwoLakes$Doings" "basin" "LTwoLakes$Lakes;", Cond.methodLink RX0 41 yX0_lookAt, Cond.instanceMethod yX0_lookAt, Cond.selects RX0 yX0_lookAt yX0_lookAt, Cond.code yX0_lookAt cX0_lookAt 8 none, Cond.fieldLink RX0 21 "TwoLakes$Doings" "lowest" "[I", Cond.fieldLink RX0 24 "TwoLakes$Doings" "highest" "[I", Cond.fieldLink RX0 15 "TwoLakes$Doings" "upperShift" "[I", Cond.methodLink RX0 67 Lib.Math.max.name, Cond.static Lib.Math.max.name, Cond.initialized "java/lang/Math", Cond.code Lib.Math.max.name Lib.Math.max.code 2 (some .int), Cond.methodLink RX0 79 Lib.Math.min.name, Cond.static Lib.Math.min.name]
def wsX4_planAll_r2 : List Cond := [Cond.code Lib.Math.min.name Lib.Math.min.code 2 (some .int), Cond.methodLink RX0 56 yX0_measure, Cond.instanceMethod yX0_measure, Cond.selects RX0 yX0_measure yX0_measure, Cond.code yX0_measure cX0_measure 7 none, Cond.fieldLink RX0 34 "TwoLakes$Doings" "first" "LTwoLakes$Machine;", Cond.fieldLink RX0 38 "TwoLakes$Doings" "second" "LTwoLakes$Machine;", Cond.fieldLink RX0 9 "TwoLakes$Doings" "energy" "[I", Cond.fieldLink RX0 18 "TwoLakes$Doings" "lowerShift" "[I", Cond.instanceMethod yX2_letDown, Cond.initialized RX2, Cond.selects RX2 yX2_letDown yX2_letDown, Cond.code yX2_letDown cX2_letDown 2 (some .int), Cond.fieldLink RX2 9 "TwoLakes$Machine" "down" "I", Cond.fieldLink RX2 18 "TwoLakes$Machine" "lifts" "I", Cond.instanceMethod yX2_energyOf, Cond.selects RX2 yX2_energyOf yX2_energyOf, Cond.code yX2_energyOf cX2_energyOf 2 (some .int), Cond.fieldLink RX2 15 "TwoLakes$Machine" "gives" "I", Cond.fieldLink RX2 21 "TwoLakes$Machine" "takes" "I", Cond.methodLink RX0 59 yX0_isForbidden, Cond.instanceMethod yX0_isForbidden, Cond.selects RX0 yX0_isForbidden yX0_isForbidden, Cond.code yX0_isForbidden cX0_isForbidden 6 (some .boolean)]
def wsX4_planAll_r3 : List Cond := [Cond.methodLink RX0 93 Lib.Math.abs.name, Cond.static Lib.Math.abs.name, Cond.code Lib.Math.abs.name Lib.Math.abs.code 1 (some .int), Cond.instanceMethod yX2_canBe, Cond.selects RX2 yX2_canBe yX2_canBe, Cond.code yX2_canBe cX2_canBe 3 (some .boolean), Cond.fieldLink RX2 33 "TwoLakes$Machine" "isOut" "[Z", Cond.instanceMethod yX2_backup, Cond.selects RX2 yX2_backup yX2_backup, Cond.code yX2_backup cX2_backup 3 (some .int), Cond.instanceMethod yX1_leastUpper, Cond.initialized RX1, Cond.selects RX1 yX1_leastUpper yX1_leastUpper, Cond.code yX1_leastUpper cX1_leastUpper 2 (some .int), Cond.fieldLink RX1 15 "TwoLakes$Lakes" "lowerRoom" "I", Cond.methodLink RX1 40 Lib.Math.max.name, Cond.methodLink RX0 73 yX0_unitsNeeded, Cond.instanceMethod yX0_unitsNeeded, Cond.selects RX0 yX0_unitsNeeded yX0_unitsNeeded, Cond.code yX0_unitsNeeded cX0_unitsNeeded 3 (some .int), Cond.instanceMethod yX2_unitsForBackup, Cond.selects RX2 yX2_unitsForBackup yX2_unitsForBackup, Cond.code yX2_unitsForBackup cX2_unitsForBackup 3 (some .int), Cond.instanceMethod yX1_mostUpper]
def wsX4_planAll_r4 : List Cond := [Cond.selects RX1 yX1_mostUpper yX1_mostUpper, Cond.code yX1_mostUpper cX1_mostUpper 2 (some .int), Cond.fieldLink RX1 9 "TwoLakes$Lakes" "upperRoom" "I", Cond.methodLink RX1 46 Lib.Math.min.name, Cond.methodLink RX0 53 yX0_countStarts, Cond.instanceMethod yX0_countStarts, Cond.selects RX0 yX0_countStarts yX0_countStarts, Cond.code yX0_countStarts cX0_countStarts 3 none, Cond.fieldLink RX0 27 "TwoLakes$Doings" "startCosts" "[I", Cond.methodLink RX0 121 yX0_startCost, Cond.instanceMethod yX0_startCost, Cond.selects RX0 yX0_startCost yX0_startCost, Cond.code yX0_startCost cX0_startCost 8 (some .int), Cond.static yX2_canFollow, Cond.code yX2_canFollow cX2_canFollow 2 (some .boolean), Cond.static yX2_isStart, Cond.code yX2_isStart cX2_isStart 2 (some .boolean), Cond.methodLink RX4 219 yX4_planWorld, Cond.instanceMethod yX4_planWorld, Cond.selects RX4 yX4_planWorld yX4_planWorld, Cond.initialized RX4, Cond.code yX4_planWorld cX4_planWorld 2 none, Cond.fieldLink RX4 37 "TwoLakes" "outlooks" "[LTwoLakes$Outlook;", Cond.fieldLink RX4 60 "TwoLakes" "endPrice" "I"]
def wsX4_planAll_r5 : List Cond := [Cond.methodLink RX4 235 Lib.Math.max.name, Cond.instanceMethod yX3_endWith, Cond.initialized RX3, Cond.selects RX3 yX3_endWith yX3_endWith, Cond.code yX3_endWith cX3_endWith 3 none, Cond.fieldLink RX3 19 "TwoLakes$Outlook" "values" "[I", Cond.instanceMethod yX3_plan, Cond.selects RX3 yX3_plan yX3_plan, Cond.code yX3_plan cX3_plan 7 none, Cond.fieldLink RX3 22 "TwoLakes$Outlook" "behind" "[I", Cond.constant RX3 34 (-1000000000), Cond.fieldLink RX3 25 "TwoLakes$Outlook" "choices" "[I", Cond.methodLink RX3 28 yJ7_fill_53178, Cond.static yJ7_fill_53178, Cond.initialized RJ7, Cond.code yJ7_fill_53178 cJ7_fill_53178 4 none, Cond.methodLink RX3 35 yX3_tryFromAllModes, Cond.instanceMethod yX3_tryFromAllModes, Cond.selects RX3 yX3_tryFromAllModes yX3_tryFromAllModes, Cond.code yX3_tryFromAllModes cX3_tryFromAllModes 7 none, Cond.fieldLink RX3 9 "TwoLakes$Outlook" "prices" "[I", Cond.fieldLink RX3 15 "TwoLakes$Outlook" "startScale" "I", Cond.methodLink RX3 47 yX3_tryAtAllLevels, Cond.instanceMethod yX3_tryAtAllLevels]
def wsX4_planAll_r6 : List Cond := [Cond.selects RX3 yX3_tryAtAllLevels yX3_tryAtAllLevels, Cond.code yX3_tryAtAllLevels cX3_tryAtAllLevels 11 none, Cond.methodLink RX4 225 yX4_mixWorlds, Cond.instanceMethod yX4_mixWorlds, Cond.selects RX4 yX4_mixWorlds yX4_mixWorlds, Cond.code yX4_mixWorlds cX4_mixWorlds 2 none, Cond.methodLink RX4 70 yJ7_fill_53178, Cond.instanceMethod yX3_mixIn, Cond.selects RX3 yX3_mixIn yX3_mixIn, Cond.code yX3_mixIn cX3_mixIn 5 none]
def wsX4_planAll : List Cond := .code yX4_planAll cX4_planAll 3 none :: ((wsX4_planAll_r1 ++ (wsX4_planAll_r2 ++ (wsX4_planAll_r3 ++ (wsX4_planAll_r4 ++ (wsX4_planAll_r5 ++ wsX4_planAll_r6))))) ++ wsX40 ++ wsX10 ++ wsX00 ++ wsX20 ++ wsX30)
def wsX4_worthWith_r1 : List Cond := [Cond.fieldLink RX4 50 "TwoLakes" "knownWorth" "[I", Cond.constant RX4 69 (-2000000000), Cond.fieldLink RX4 42 "TwoLakes" "common" "LTwoLakes$Outlook;", Cond.methodLink RX4 210 yX4_planAll, Cond.instanceMethod yX4_planAll, Cond.selects RX4 yX4_planAll yX4_planAll, Cond.initialized RX4, Cond.code yX4_planAll cX4_planAll 3 none, Cond.fieldLink RX4 31 "TwoLakes" "doings" "LTwoLakes$Doings;", Cond.fieldLink RX4 63 "TwoLakes" "now" "I", Cond.fieldLink RX4 10 "TwoLakes" "basin" "LTwoLakes$Lakes;", Cond.fieldLink RX4 46 "TwoLakes" "weight" "[I", Cond.fieldLink RX4 56 "TwoLakes" "revealHour" "I", Cond.instanceMethod yX0_foresee, Cond.initialized RX0, Cond.selects RX0 yX0_foresee yX0_foresee, Cond.code yX0_foresee cX0_foresee 5 none, Cond.fieldLink RX0 30 "TwoLakes$Doings" "basin" "LTwoLakes$Lakes;", Cond.methodLink RX0 41 yX0_lookAt, Cond.instanceMethod yX0_lookAt, Cond.selects RX0 yX0_lookAt yX0_lookAt, Cond.code yX0_lookAt cX0_lookAt 8 none, Cond.fieldLink RX0 21 "TwoLakes$Doings" "lowest" "[I", Cond.fieldLink RX0 24 "TwoLakes$Doings" "highest" "[I"]
def wsX4_worthWith_r2 : List Cond := [Cond.fieldLink RX0 15 "TwoLakes$Doings" "upperShift" "[I", Cond.methodLink RX0 67 Lib.Math.max.name, Cond.static Lib.Math.max.name, Cond.initialized "java/lang/Math", Cond.code Lib.Math.max.name Lib.Math.max.code 2 (some .int), Cond.methodLink RX0 79 Lib.Math.min.name, Cond.static Lib.Math.min.name, Cond.code Lib.Math.min.name Lib.Math.min.code 2 (some .int), Cond.methodLink RX0 56 yX0_measure, Cond.instanceMethod yX0_measure, Cond.selects RX0 yX0_measure yX0_measure, Cond.code yX0_measure cX0_measure 7 none, Cond.fieldLink RX0 34 "TwoLakes$Doings" "first" "LTwoLakes$Machine;", Cond.fieldLink RX0 38 "TwoLakes$Doings" "second" "LTwoLakes$Machine;", Cond.fieldLink RX0 9 "TwoLakes$Doings" "energy" "[I", Cond.fieldLink RX0 18 "TwoLakes$Doings" "lowerShift" "[I", Cond.instanceMethod yX2_letDown, Cond.initialized RX2, Cond.selects RX2 yX2_letDown yX2_letDown, Cond.code yX2_letDown cX2_letDown 2 (some .int), Cond.fieldLink RX2 9 "TwoLakes$Machine" "down" "I", Cond.fieldLink RX2 18 "TwoLakes$Machine" "lifts" "I", Cond.instanceMethod yX2_energyOf, Cond.selects RX2 yX2_energyOf yX2_energyOf]
def wsX4_worthWith_r3 : List Cond := [Cond.code yX2_energyOf cX2_energyOf 2 (some .int), Cond.fieldLink RX2 15 "TwoLakes$Machine" "gives" "I", Cond.fieldLink RX2 21 "TwoLakes$Machine" "takes" "I", Cond.methodLink RX0 59 yX0_isForbidden, Cond.instanceMethod yX0_isForbidden, Cond.selects RX0 yX0_isForbidden yX0_isForbidden, Cond.code yX0_isForbidden cX0_isForbidden 6 (some .boolean), Cond.methodLink RX0 93 Lib.Math.abs.name, Cond.static Lib.Math.abs.name, Cond.code Lib.Math.abs.name Lib.Math.abs.code 1 (some .int), Cond.instanceMethod yX2_canBe, Cond.selects RX2 yX2_canBe yX2_canBe, Cond.code yX2_canBe cX2_canBe 3 (some .boolean), Cond.fieldLink RX2 33 "TwoLakes$Machine" "isOut" "[Z", Cond.instanceMethod yX2_backup, Cond.selects RX2 yX2_backup yX2_backup, Cond.code yX2_backup cX2_backup 3 (some .int), Cond.instanceMethod yX1_leastUpper, Cond.initialized RX1, Cond.selects RX1 yX1_leastUpper yX1_leastUpper, Cond.code yX1_leastUpper cX1_leastUpper 2 (some .int), Cond.fieldLink RX1 15 "TwoLakes$Lakes" "lowerRoom" "I", Cond.methodLink RX1 40 Lib.Math.max.name, Cond.methodLink RX0 73 yX0_unitsNeeded]
def wsX4_worthWith_r4 : List Cond := [Cond.instanceMethod yX0_unitsNeeded, Cond.selects RX0 yX0_unitsNeeded yX0_unitsNeeded, Cond.code yX0_unitsNeeded cX0_unitsNeeded 3 (some .int), Cond.instanceMethod yX2_unitsForBackup, Cond.selects RX2 yX2_unitsForBackup yX2_unitsForBackup, Cond.code yX2_unitsForBackup cX2_unitsForBackup 3 (some .int), Cond.instanceMethod yX1_mostUpper, Cond.selects RX1 yX1_mostUpper yX1_mostUpper, Cond.code yX1_mostUpper cX1_mostUpper 2 (some .int), Cond.fieldLink RX1 9 "TwoLakes$Lakes" "upperRoom" "I", Cond.methodLink RX1 46 Lib.Math.min.name, Cond.methodLink RX0 53 yX0_countStarts, Cond.instanceMethod yX0_countStarts, Cond.selects RX0 yX0_countStarts yX0_countStarts, Cond.code yX0_countStarts cX0_countStarts 3 none, Cond.fieldLink RX0 27 "TwoLakes$Doings" "startCosts" "[I", Cond.methodLink RX0 121 yX0_startCost, Cond.instanceMethod yX0_startCost, Cond.selects RX0 yX0_startCost yX0_startCost, Cond.code yX0_startCost cX0_startCost 8 (some .int), Cond.static yX2_canFollow, Cond.code yX2_canFollow cX2_canFollow 2 (some .boolean), Cond.static yX2_isStart, Cond.code yX2_isStart cX2_isStart 2 (some .boolean)]
def wsX4_worthWith_r5 : List Cond := [Cond.methodLink RX4 219 yX4_planWorld, Cond.instanceMethod yX4_planWorld, Cond.selects RX4 yX4_planWorld yX4_planWorld, Cond.code yX4_planWorld cX4_planWorld 2 none, Cond.fieldLink RX4 37 "TwoLakes" "outlooks" "[LTwoLakes$Outlook;", Cond.fieldLink RX4 60 "TwoLakes" "endPrice" "I", Cond.methodLink RX4 235 Lib.Math.max.name, Cond.instanceMethod yX3_endWith, Cond.initialized RX3, Cond.selects RX3 yX3_endWith yX3_endWith, Cond.code yX3_endWith cX3_endWith 3 none, Cond.fieldLink RX3 19 "TwoLakes$Outlook" "values" "[I", Cond.instanceMethod yX3_plan, Cond.selects RX3 yX3_plan yX3_plan, Cond.code yX3_plan cX3_plan 7 none, Cond.fieldLink RX3 22 "TwoLakes$Outlook" "behind" "[I", Cond.constant RX3 34 (-1000000000), Cond.fieldLink RX3 25 "TwoLakes$Outlook" "choices" "[I", Cond.methodLink RX3 28 yJ7_fill_53178, Cond.static yJ7_fill_53178, Cond.initialized RJ7, Cond.code yJ7_fill_53178 cJ7_fill_53178 4 none, Cond.methodLink RX3 35 yX3_tryFromAllModes, Cond.instanceMethod yX3_tryFromAllModes]
def wsX4_worthWith_r6 : List Cond := [Cond.selects RX3 yX3_tryFromAllModes yX3_tryFromAllModes, Cond.code yX3_tryFromAllModes cX3_tryFromAllModes 7 none, Cond.fieldLink RX3 9 "TwoLakes$Outlook" "prices" "[I", Cond.fieldLink RX3 15 "TwoLakes$Outlook" "startScale" "I", Cond.methodLink RX3 47 yX3_tryAtAllLevels, Cond.instanceMethod yX3_tryAtAllLevels, Cond.selects RX3 yX3_tryAtAllLevels yX3_tryAtAllLevels, Cond.code yX3_tryAtAllLevels cX3_tryAtAllLevels 11 none, Cond.methodLink RX4 225 yX4_mixWorlds, Cond.instanceMethod yX4_mixWorlds, Cond.selects RX4 yX4_mixWorlds yX4_mixWorlds, Cond.code yX4_mixWorlds cX4_mixWorlds 2 none, Cond.methodLink RX4 70 yJ7_fill_53178, Cond.instanceMethod yX3_mixIn, Cond.selects RX3 yX3_mixIn yX3_mixIn, Cond.code yX3_mixIn cX3_mixIn 5 none, Cond.methodLink RX4 187 yX4_modesNow, Cond.instanceMethod yX4_modesNow, Cond.selects RX4 yX4_modesNow yX4_modesNow, Cond.code yX4_modesNow cX4_modesNow 1 (some .int), Cond.fieldLink RX4 19 "TwoLakes" "first" "LTwoLakes$Machine;", Cond.fieldLink RX4 23 "TwoLakes" "second" "LTwoLakes$Machine;"]
def wsX4_worthWith : List Cond := .code yX4_worthWith cX4_worthWith 2 (some .int) :: ((wsX4_worthWith_r1 ++ (wsX4_worthWith_r2 ++ (wsX4_worthWith_r3 ++ (wsX4_worthWith_r4 ++ (wsX4_worthWith_r5 ++ wsX4_worthWith_r6))))) ++ wsX40 ++ wsX30 ++ wsX10 ++ wsX00 ++ wsX20)
def wsX4_worth_r1 : List Cond := [Cond.fieldLink RX4 10 "TwoLakes" "basin" "LTwoLakes$Lakes;", Cond.methodLink RX4 156 yX4_worthWith, Cond.instanceMethod yX4_worthWith, Cond.selects RX4 yX4_worthWith yX4_worthWith, Cond.initialized RX4, Cond.code yX4_worthWith cX4_worthWith 2 (some .int), Cond.fieldLink RX4 50 "TwoLakes" "knownWorth" "[I", Cond.constant RX4 69 (-2000000000), Cond.fieldLink RX4 42 "TwoLakes" "common" "LTwoLakes$Outlook;", Cond.methodLink RX4 210 yX4_planAll, Cond.instanceMethod yX4_planAll, Cond.selects RX4 yX4_planAll yX4_planAll, Cond.code yX4_planAll cX4_planAll 3 none, Cond.fieldLink RX4 31 "TwoLakes" "doings" "LTwoLakes$Doings;", Cond.fieldLink RX4 63 "TwoLakes" "now" "I", Cond.fieldLink RX4 46 "TwoLakes" "weight" "[I", Cond.fieldLink RX4 56 "TwoLakes" "revealHour" "I", Cond.instanceMethod yX0_foresee, Cond.initialized RX0, Cond.selects RX0 yX0_foresee yX0_foresee, Cond.code yX0_foresee cX0_foresee 5 none, Cond.fieldLink RX0 30 "TwoLakes$Doings" "basin" "LTwoLakes$Lakes;", Cond.methodLink RX0 41 yX0_lookAt, Cond.instanceMethod yX0_lookAt]
def wsX4_worth_r2 : List Cond := [Cond.selects RX0 yX0_lookAt yX0_lookAt, Cond.code yX0_lookAt cX0_lookAt 8 none, Cond.fieldLink RX0 21 "TwoLakes$Doings" "lowest" "[I", Cond.fieldLink RX0 24 "TwoLakes$Doings" "highest" "[I", Cond.fieldLink RX0 15 "TwoLakes$Doings" "upperShift" "[I", Cond.methodLink RX0 67 Lib.Math.max.name, Cond.static Lib.Math.max.name, Cond.initialized "java/lang/Math", Cond.code Lib.Math.max.name Lib.Math.max.code 2 (some .int), Cond.methodLink RX0 79 Lib.Math.min.name, Cond.static Lib.Math.min.name, Cond.code Lib.Math.min.name Lib.Math.min.code 2 (some .int), Cond.methodLink RX0 56 yX0_measure, Cond.instanceMethod yX0_measure, Cond.selects RX0 yX0_measure yX0_measure, Cond.code yX0_measure cX0_measure 7 none, Cond.fieldLink RX0 34 "TwoLakes$Doings" "first" "LTwoLakes$Machine;", Cond.fieldLink RX0 38 "TwoLakes$Doings" "second" "LTwoLakes$Machine;", Cond.fieldLink RX0 9 "TwoLakes$Doings" "energy" "[I", Cond.fieldLink RX0 18 "TwoLakes$Doings" "lowerShift" "[I", Cond.instanceMethod yX2_letDown, Cond.initialized RX2, Cond.selects RX2 yX2_letDown yX2_letDown, Cond.code yX2_letDown cX2_letDown 2 (some .int)]
def wsX4_worth_r3 : List Cond := [Cond.fieldLink RX2 9 "TwoLakes$Machine" "down" "I", Cond.fieldLink RX2 18 "TwoLakes$Machine" "lifts" "I", Cond.instanceMethod yX2_energyOf, Cond.selects RX2 yX2_energyOf yX2_energyOf, Cond.code yX2_energyOf cX2_energyOf 2 (some .int), Cond.fieldLink RX2 15 "TwoLakes$Machine" "gives" "I", Cond.fieldLink RX2 21 "TwoLakes$Machine" "takes" "I", Cond.methodLink RX0 59 yX0_isForbidden, Cond.instanceMethod yX0_isForbidden, Cond.selects RX0 yX0_isForbidden yX0_isForbidden, Cond.code yX0_isForbidden cX0_isForbidden 6 (some .boolean), Cond.methodLink RX0 93 Lib.Math.abs.name, Cond.static Lib.Math.abs.name, Cond.code Lib.Math.abs.name Lib.Math.abs.code 1 (some .int), Cond.instanceMethod yX2_canBe, Cond.selects RX2 yX2_canBe yX2_canBe, Cond.code yX2_canBe cX2_canBe 3 (some .boolean), Cond.fieldLink RX2 33 "TwoLakes$Machine" "isOut" "[Z", Cond.instanceMethod yX2_backup, Cond.selects RX2 yX2_backup yX2_backup, Cond.code yX2_backup cX2_backup 3 (some .int), Cond.instanceMethod yX1_leastUpper, Cond.initialized RX1, Cond.selects RX1 yX1_leastUpper yX1_leastUpper]
def wsX4_worth_r4 : List Cond := [Cond.code yX1_leastUpper cX1_leastUpper 2 (some .int), Cond.fieldLink RX1 15 "TwoLakes$Lakes" "lowerRoom" "I", Cond.methodLink RX1 40 Lib.Math.max.name, Cond.methodLink RX0 73 yX0_unitsNeeded, Cond.instanceMethod yX0_unitsNeeded, Cond.selects RX0 yX0_unitsNeeded yX0_unitsNeeded, Cond.code yX0_unitsNeeded cX0_unitsNeeded 3 (some .int), Cond.instanceMethod yX2_unitsForBackup, Cond.selects RX2 yX2_unitsForBackup yX2_unitsForBackup, Cond.code yX2_unitsForBackup cX2_unitsForBackup 3 (some .int), Cond.instanceMethod yX1_mostUpper, Cond.selects RX1 yX1_mostUpper yX1_mostUpper, Cond.code yX1_mostUpper cX1_mostUpper 2 (some .int), Cond.fieldLink RX1 9 "TwoLakes$Lakes" "upperRoom" "I", Cond.methodLink RX1 46 Lib.Math.min.name, Cond.methodLink RX0 53 yX0_countStarts, Cond.instanceMethod yX0_countStarts, Cond.selects RX0 yX0_countStarts yX0_countStarts, Cond.code yX0_countStarts cX0_countStarts 3 none, Cond.fieldLink RX0 27 "TwoLakes$Doings" "startCosts" "[I", Cond.methodLink RX0 121 yX0_startCost, Cond.instanceMethod yX0_startCost, Cond.selects RX0 yX0_startCost yX0_startCost, Cond.code yX0_startCost cX0_startCost 8 (some .int)]
def wsX4_worth_r5 : List Cond := [Cond.static yX2_canFollow, Cond.code yX2_canFollow cX2_canFollow 2 (some .boolean), Cond.static yX2_isStart, Cond.code yX2_isStart cX2_isStart 2 (some .boolean), Cond.methodLink RX4 219 yX4_planWorld, Cond.instanceMethod yX4_planWorld, Cond.selects RX4 yX4_planWorld yX4_planWorld, Cond.code yX4_planWorld cX4_planWorld 2 none, Cond.fieldLink RX4 37 "TwoLakes" "outlooks" "[LTwoLakes$Outlook;", Cond.fieldLink RX4 60 "TwoLakes" "endPrice" "I", Cond.methodLink RX4 235 Lib.Math.max.name, Cond.instanceMethod yX3_endWith, Cond.initialized RX3, Cond.selects RX3 yX3_endWith yX3_endWith, Cond.code yX3_endWith cX3_endWith 3 none, Cond.fieldLink RX3 19 "TwoLakes$Outlook" "values" "[I", Cond.instanceMethod yX3_plan, Cond.selects RX3 yX3_plan yX3_plan, Cond.code yX3_plan cX3_plan 7 none, Cond.fieldLink RX3 22 "TwoLakes$Outlook" "behind" "[I", Cond.constant RX3 34 (-1000000000), Cond.fieldLink RX3 25 "TwoLakes$Outlook" "choices" "[I", Cond.methodLink RX3 28 yJ7_fill_53178, Cond.static yJ7_fill_53178]
def wsX4_worth_r6 : List Cond := [Cond.initialized RJ7, Cond.code yJ7_fill_53178 cJ7_fill_53178 4 none, Cond.methodLink RX3 35 yX3_tryFromAllModes, Cond.instanceMethod yX3_tryFromAllModes, Cond.selects RX3 yX3_tryFromAllModes yX3_tryFromAllModes, Cond.code yX3_tryFromAllModes cX3_tryFromAllModes 7 none, Cond.fieldLink RX3 9 "TwoLakes$Outlook" "prices" "[I", Cond.fieldLink RX3 15 "TwoLakes$Outlook" "startScale" "I", Cond.methodLink RX3 47 yX3_tryAtAllLevels, Cond.instanceMethod yX3_tryAtAllLevels, Cond.selects RX3 yX3_tryAtAllLevels yX3_tryAtAllLevels, Cond.code yX3_tryAtAllLevels cX3_tryAtAllLevels 11 none, Cond.methodLink RX4 225 yX4_mixWorlds, Cond.instanceMethod yX4_mixWorlds, Cond.selects RX4 yX4_mixWorlds yX4_mixWorlds, Cond.code yX4_mixWorlds cX4_mixWorlds 2 none, Cond.methodLink RX4 70 yJ7_fill_53178, Cond.instanceMethod yX3_mixIn, Cond.selects RX3 yX3_mixIn yX3_mixIn, Cond.code yX3_mixIn cX3_mixIn 5 none, Cond.methodLink RX4 187 yX4_modesNow, Cond.instanceMethod yX4_modesNow, Cond.selects RX4 yX4_modesNow yX4_modesNow, Cond.code yX4_modesNow cX4_modesNow 1 (some .int)]
def wsX4_worth_r7 : List Cond := [Cond.fieldLink RX4 19 "TwoLakes" "first" "LTwoLakes$Machine;", Cond.fieldLink RX4 23 "TwoLakes" "second" "LTwoLakes$Machine;"]
def wsX4_worth : List Cond := .code yX4_worth cX4_worth 1 (some .int) :: ((wsX4_worth_r1 ++ (wsX4_worth_r2 ++ (wsX4_worth_r3 ++ (wsX4_worth_r4 ++ (wsX4_worth_r5 ++ (wsX4_worth_r6 ++ wsX4_worth_r7)))))) ++ wsX40 ++ wsX10 ++ wsX30 ++ wsX00 ++ wsX20)
def wsX4_bestDoing_r1 : List Cond := [Cond.fieldLink RX4 63 "TwoLakes" "now" "I", Cond.fieldLink RX4 56 "TwoLakes" "revealHour" "I", Cond.fieldLink RX4 53 "TwoLakes" "knownDoing" "[I", Cond.constant RX4 69 (-2000000000), Cond.fieldLink RX4 10 "TwoLakes" "basin" "LTwoLakes$Lakes;", Cond.fieldLink RX4 31 "TwoLakes" "doings" "LTwoLakes$Doings;", Cond.fieldLink RX4 42 "TwoLakes" "common" "LTwoLakes$Outlook;", Cond.fieldLink RX4 37 "TwoLakes" "outlooks" "[LTwoLakes$Outlook;", Cond.methodLink RX4 210 yX4_planAll, Cond.instanceMethod yX4_planAll, Cond.selects RX4 yX4_planAll yX4_planAll, Cond.initialized RX4, Cond.code yX4_planAll cX4_planAll 3 none, Cond.fieldLink RX4 46 "TwoLakes" "weight" "[I", Cond.instanceMethod yX0_foresee, Cond.initialized RX0, Cond.selects RX0 yX0_foresee yX0_foresee, Cond.code yX0_foresee cX0_foresee 5 none, Cond.fieldLink RX0 30 "TwoLakes$Doings" "basin" "LTwoLakes$Lakes;", Cond.methodLink RX0 41 yX0_lookAt, Cond.instanceMethod yX0_lookAt, Cond.selects RX0 yX0_lookAt yX0_lookAt, Cond.code yX0_lookAt cX0_lookAt 8 none, Cond.fieldLink RX0 21 "TwoLakes$Doings" "lowest" "[I"]
def wsX4_bestDoing_r2 : List Cond := [Cond.fieldLink RX0 24 "TwoLakes$Doings" "highest" "[I", Cond.fieldLink RX0 15 "TwoLakes$Doings" "upperShift" "[I", Cond.methodLink RX0 67 Lib.Math.max.name, Cond.static Lib.Math.max.name, Cond.initialized "java/lang/Math", Cond.code Lib.Math.max.name Lib.Math.max.code 2 (some .int), Cond.methodLink RX0 79 Lib.Math.min.name, Cond.static Lib.Math.min.name, Cond.code Lib.Math.min.name Lib.Math.min.code 2 (some .int), Cond.methodLink RX0 56 yX0_measure, Cond.instanceMethod yX0_measure, Cond.selects RX0 yX0_measure yX0_measure, Cond.code yX0_measure cX0_measure 7 none, Cond.fieldLink RX0 34 "TwoLakes$Doings" "first" "LTwoLakes$Machine;", Cond.fieldLink RX0 38 "TwoLakes$Doings" "second" "LTwoLakes$Machine;", Cond.fieldLink RX0 9 "TwoLakes$Doings" "energy" "[I", Cond.fieldLink RX0 18 "TwoLakes$Doings" "lowerShift" "[I", Cond.instanceMethod yX2_letDown, Cond.initialized RX2, Cond.selects RX2 yX2_letDown yX2_letDown, Cond.code yX2_letDown cX2_letDown 2 (some .int), Cond.fieldLink RX2 9 "TwoLakes$Machine" "down" "I", Cond.fieldLink RX2 18 "TwoLakes$Machine" "lifts" "I", Cond.instanceMethod yX2_energyOf]
def wsX4_bestDoing_r3 : List Cond := [Cond.selects RX2 yX2_energyOf yX2_energyOf, Cond.code yX2_energyOf cX2_energyOf 2 (some .int), Cond.fieldLink RX2 15 "TwoLakes$Machine" "gives" "I", Cond.fieldLink RX2 21 "TwoLakes$Machine" "takes" "I", Cond.methodLink RX0 59 yX0_isForbidden, Cond.instanceMethod yX0_isForbidden, Cond.selects RX0 yX0_isForbidden yX0_isForbidden, Cond.code yX0_isForbidden cX0_isForbidden 6 (some .boolean), Cond.methodLink RX0 93 Lib.Math.abs.name, Cond.static Lib.Math.abs.name, Cond.code Lib.Math.abs.name Lib.Math.abs.code 1 (some .int), Cond.instanceMethod yX2_canBe, Cond.selects RX2 yX2_canBe yX2_canBe, Cond.code yX2_canBe cX2_canBe 3 (some .boolean), Cond.fieldLink RX2 33 "TwoLakes$Machine" "isOut" "[Z", Cond.instanceMethod yX2_backup, Cond.selects RX2 yX2_backup yX2_backup, Cond.code yX2_backup cX2_backup 3 (some .int), Cond.instanceMethod yX1_leastUpper, Cond.initialized RX1, Cond.selects RX1 yX1_leastUpper yX1_leastUpper, Cond.code yX1_leastUpper cX1_leastUpper 2 (some .int), Cond.fieldLink RX1 15 "TwoLakes$Lakes" "lowerRoom" "I", Cond.methodLink RX1 40 Lib.Math.max.name]
def wsX4_bestDoing_r4 : List Cond := [Cond.methodLink RX0 73 yX0_unitsNeeded, Cond.instanceMethod yX0_unitsNeeded, Cond.selects RX0 yX0_unitsNeeded yX0_unitsNeeded, Cond.code yX0_unitsNeeded cX0_unitsNeeded 3 (some .int), Cond.instanceMethod yX2_unitsForBackup, Cond.selects RX2 yX2_unitsForBackup yX2_unitsForBackup, Cond.code yX2_unitsForBackup cX2_unitsForBackup 3 (some .int), Cond.instanceMethod yX1_mostUpper, Cond.selects RX1 yX1_mostUpper yX1_mostUpper, Cond.code yX1_mostUpper cX1_mostUpper 2 (some .int), Cond.fieldLink RX1 9 "TwoLakes$Lakes" "upperRoom" "I", Cond.methodLink RX1 46 Lib.Math.min.name, Cond.methodLink RX0 53 yX0_countStarts, Cond.instanceMethod yX0_countStarts, Cond.selects RX0 yX0_countStarts yX0_countStarts, Cond.code yX0_countStarts cX0_countStarts 3 none, Cond.fieldLink RX0 27 "TwoLakes$Doings" "startCosts" "[I", Cond.methodLink RX0 121 yX0_startCost, Cond.instanceMethod yX0_startCost, Cond.selects RX0 yX0_startCost yX0_startCost, Cond.code yX0_startCost cX0_startCost 8 (some .int), Cond.static yX2_canFollow, Cond.code yX2_canFollow cX2_canFollow 2 (some .boolean), Cond.static yX2_isStart]
def wsX4_bestDoing_r5 : List Cond := [Cond.code yX2_isStart cX2_isStart 2 (some .boolean), Cond.methodLink RX4 219 yX4_planWorld, Cond.instanceMethod yX4_planWorld, Cond.selects RX4 yX4_planWorld yX4_planWorld, Cond.code yX4_planWorld cX4_planWorld 2 none, Cond.fieldLink RX4 60 "TwoLakes" "endPrice" "I", Cond.methodLink RX4 235 Lib.Math.max.name, Cond.instanceMethod yX3_endWith, Cond.initialized RX3, Cond.selects RX3 yX3_endWith yX3_endWith, Cond.code yX3_endWith cX3_endWith 3 none, Cond.fieldLink RX3 19 "TwoLakes$Outlook" "values" "[I", Cond.instanceMethod yX3_plan, Cond.selects RX3 yX3_plan yX3_plan, Cond.code yX3_plan cX3_plan 7 none, Cond.fieldLink RX3 22 "TwoLakes$Outlook" "behind" "[I", Cond.constant RX3 34 (-1000000000), Cond.fieldLink RX3 25 "TwoLakes$Outlook" "choices" "[I", Cond.methodLink RX3 28 yJ7_fill_53178, Cond.static yJ7_fill_53178, Cond.initialized RJ7, Cond.code yJ7_fill_53178 cJ7_fill_53178 4 none, Cond.methodLink RX3 35 yX3_tryFromAllModes, Cond.instanceMethod yX3_tryFromAllModes]
def wsX4_bestDoing_r6 : List Cond := [Cond.selects RX3 yX3_tryFromAllModes yX3_tryFromAllModes, Cond.code yX3_tryFromAllModes cX3_tryFromAllModes 7 none, Cond.fieldLink RX3 9 "TwoLakes$Outlook" "prices" "[I", Cond.fieldLink RX3 15 "TwoLakes$Outlook" "startScale" "I", Cond.methodLink RX3 47 yX3_tryAtAllLevels, Cond.instanceMethod yX3_tryAtAllLevels, Cond.selects RX3 yX3_tryAtAllLevels yX3_tryAtAllLevels, Cond.code yX3_tryAtAllLevels cX3_tryAtAllLevels 11 none, Cond.methodLink RX4 225 yX4_mixWorlds, Cond.instanceMethod yX4_mixWorlds, Cond.selects RX4 yX4_mixWorlds yX4_mixWorlds, Cond.code yX4_mixWorlds cX4_mixWorlds 2 none, Cond.methodLink RX4 70 yJ7_fill_53178, Cond.instanceMethod yX3_mixIn, Cond.selects RX3 yX3_mixIn yX3_mixIn, Cond.code yX3_mixIn cX3_mixIn 5 none, Cond.methodLink RX4 187 yX4_modesNow, Cond.instanceMethod yX4_modesNow, Cond.selects RX4 yX4_modesNow yX4_modesNow, Cond.code yX4_modesNow cX4_modesNow 1 (some .int), Cond.fieldLink RX4 19 "TwoLakes" "first" "LTwoLakes$Machine;", Cond.fieldLink RX4 23 "TwoLakes" "second" "LTwoLakes$Machine;"]
def wsX4_bestDoing : List Cond := .code yX4_bestDoing cX4_bestDoing 5 (some .int) :: ((wsX4_bestDoing_r1 ++ (wsX4_bestDoing_r2 ++ (wsX4_bestDoing_r3 ++ (wsX4_bestDoing_r4 ++ (wsX4_bestDoing_r5 ++ wsX4_bestDoing_r6))))) ++ wsX40 ++ wsX10 ++ wsX30 ++ wsX00 ++ wsX20)
def wsX4_mode_r1 : List Cond := [Cond.fieldLink RX4 63 "TwoLakes" "now" "I", Cond.methodLink RX4 144 yX4_isWorld, Cond.static yX4_isWorld, Cond.initialized RX4, Cond.code yX4_isWorld cX4_isWorld 1 (some .boolean), Cond.methodLink RX4 76 yX4_within, Cond.static yX4_within, Cond.code yX4_within cX4_within 3 (some .boolean), Cond.methodLink RX4 112 yX4_isMachine, Cond.static yX4_isMachine, Cond.code yX4_isMachine cX4_isMachine 1 (some .boolean), Cond.methodLink RX4 160 yX4_bestDoing, Cond.instanceMethod yX4_bestDoing, Cond.selects RX4 yX4_bestDoing yX4_bestDoing, Cond.code yX4_bestDoing cX4_bestDoing 5 (some .int), Cond.fieldLink RX4 56 "TwoLakes" "revealHour" "I", Cond.fieldLink RX4 53 "TwoLakes" "knownDoing" "[I", Cond.constant RX4 69 (-2000000000), Cond.fieldLink RX4 10 "TwoLakes" "basin" "LTwoLakes$Lakes;", Cond.fieldLink RX4 31 "TwoLakes" "doings" "LTwoLakes$Doings;", Cond.fieldLink RX4 42 "TwoLakes" "common" "LTwoLakes$Outlook;", Cond.fieldLink RX4 37 "TwoLakes" "outlooks" "[LTwoLakes$Outlook;", Cond.methodLink RX4 210 yX4_planAll, Cond.instanceMethod yX4_planAll]
def wsX4_mode_r2 : List Cond := [Cond.selects RX4 yX4_planAll yX4_planAll, Cond.code yX4_planAll cX4_planAll 3 none, Cond.fieldLink RX4 46 "TwoLakes" "weight" "[I", Cond.instanceMethod yX0_foresee, Cond.initialized RX0, Cond.selects RX0 yX0_foresee yX0_foresee, Cond.code yX0_foresee cX0_foresee 5 none, Cond.fieldLink RX0 30 "TwoLakes$Doings" "basin" "LTwoLakes$Lakes;", Cond.methodLink RX0 41 yX0_lookAt, Cond.instanceMethod yX0_lookAt, Cond.selects RX0 yX0_lookAt yX0_lookAt, Cond.code yX0_lookAt cX0_lookAt 8 none, Cond.fieldLink RX0 21 "TwoLakes$Doings" "lowest" "[I", Cond.fieldLink RX0 24 "TwoLakes$Doings" "highest" "[I", Cond.fieldLink RX0 15 "TwoLakes$Doings" "upperShift" "[I", Cond.methodLink RX0 67 Lib.Math.max.name, Cond.static Lib.Math.max.name, Cond.initialized "java/lang/Math", Cond.code Lib.Math.max.name Lib.Math.max.code 2 (some .int), Cond.methodLink RX0 79 Lib.Math.min.name, Cond.static Lib.Math.min.name, Cond.code Lib.Math.min.name Lib.Math.min.code 2 (some .int), Cond.methodLink RX0 56 yX0_measure, Cond.instanceMethod yX0_measure]
def wsX4_mode_r3 : List Cond := [Cond.selects RX0 yX0_measure yX0_measure, Cond.code yX0_measure cX0_measure 7 none, Cond.fieldLink RX0 34 "TwoLakes$Doings" "first" "LTwoLakes$Machine;", Cond.fieldLink RX0 38 "TwoLakes$Doings" "second" "LTwoLakes$Machine;", Cond.fieldLink RX0 9 "TwoLakes$Doings" "energy" "[I", Cond.fieldLink RX0 18 "TwoLakes$Doings" "lowerShift" "[I", Cond.instanceMethod yX2_letDown, Cond.initialized RX2, Cond.selects RX2 yX2_letDown yX2_letDown, Cond.code yX2_letDown cX2_letDown 2 (some .int), Cond.fieldLink RX2 9 "TwoLakes$Machine" "down" "I", Cond.fieldLink RX2 18 "TwoLakes$Machine" "lifts" "I", Cond.instanceMethod yX2_energyOf, Cond.selects RX2 yX2_energyOf yX2_energyOf, Cond.code yX2_energyOf cX2_energyOf 2 (some .int), Cond.fieldLink RX2 15 "TwoLakes$Machine" "gives" "I", Cond.fieldLink RX2 21 "TwoLakes$Machine" "takes" "I", Cond.methodLink RX0 59 yX0_isForbidden, Cond.instanceMethod yX0_isForbidden, Cond.selects RX0 yX0_isForbidden yX0_isForbidden, Cond.code yX0_isForbidden cX0_isForbidden 6 (some .boolean), Cond.methodLink RX0 93 Lib.Math.abs.name, Cond.static Lib.Math.abs.name, Cond.code Lib.Math.abs.name Lib.Math.abs.code 1 (some .int)]
def wsX4_mode_r4 : List Cond := [Cond.instanceMethod yX2_canBe, Cond.selects RX2 yX2_canBe yX2_canBe, Cond.code yX2_canBe cX2_canBe 3 (some .boolean), Cond.fieldLink RX2 33 "TwoLakes$Machine" "isOut" "[Z", Cond.instanceMethod yX2_backup, Cond.selects RX2 yX2_backup yX2_backup, Cond.code yX2_backup cX2_backup 3 (some .int), Cond.instanceMethod yX1_leastUpper, Cond.initialized RX1, Cond.selects RX1 yX1_leastUpper yX1_leastUpper, Cond.code yX1_leastUpper cX1_leastUpper 2 (some .int), Cond.fieldLink RX1 15 "TwoLakes$Lakes" "lowerRoom" "I", Cond.methodLink RX1 40 Lib.Math.max.name, Cond.methodLink RX0 73 yX0_unitsNeeded, Cond.instanceMethod yX0_unitsNeeded, Cond.selects RX0 yX0_unitsNeeded yX0_unitsNeeded, Cond.code yX0_unitsNeeded cX0_unitsNeeded 3 (some .int), Cond.instanceMethod yX2_unitsForBackup, Cond.selects RX2 yX2_unitsForBackup yX2_unitsForBackup, Cond.code yX2_unitsForBackup cX2_unitsForBackup 3 (some .int), Cond.instanceMethod yX1_mostUpper, Cond.selects RX1 yX1_mostUpper yX1_mostUpper, Cond.code yX1_mostUpper cX1_mostUpper 2 (some .int), Cond.fieldLink RX1 9 "TwoLakes$Lakes" "upperRoom" "I"]
def wsX4_mode_r5 : List Cond := [Cond.methodLink RX1 46 Lib.Math.min.name, Cond.methodLink RX0 53 yX0_countStarts, Cond.instanceMethod yX0_countStarts, Cond.selects RX0 yX0_countStarts yX0_countStarts, Cond.code yX0_countStarts cX0_countStarts 3 none, Cond.fieldLink RX0 27 "TwoLakes$Doings" "startCosts" "[I", Cond.methodLink RX0 121 yX0_startCost, Cond.instanceMethod yX0_startCost, Cond.selects RX0 yX0_startCost yX0_startCost, Cond.code yX0_startCost cX0_startCost 8 (some .int), Cond.static yX2_canFollow, Cond.code yX2_canFollow cX2_canFollow 2 (some .boolean), Cond.static yX2_isStart, Cond.code yX2_isStart cX2_isStart 2 (some .boolean), Cond.methodLink RX4 219 yX4_planWorld, Cond.instanceMethod yX4_planWorld, Cond.selects RX4 yX4_planWorld yX4_planWorld, Cond.code yX4_planWorld cX4_planWorld 2 none, Cond.fieldLink RX4 60 "TwoLakes" "endPrice" "I", Cond.methodLink RX4 235 Lib.Math.max.name, Cond.instanceMethod yX3_endWith, Cond.initialized RX3, Cond.selects RX3 yX3_endWith yX3_endWith, Cond.code yX3_endWith cX3_endWith 3 none]
def wsX4_mode_r6 : List Cond := [Cond.fieldLink RX3 19 "TwoLakes$Outlook" "values" "[I", Cond.instanceMethod yX3_plan, Cond.selects RX3 yX3_plan yX3_plan, Cond.code yX3_plan cX3_plan 7 none, Cond.fieldLink RX3 22 "TwoLakes$Outlook" "behind" "[I", Cond.constant RX3 34 (-1000000000), Cond.fieldLink RX3 25 "TwoLakes$Outlook" "choices" "[I", Cond.methodLink RX3 28 yJ7_fill_53178, Cond.static yJ7_fill_53178, Cond.initialized RJ7, Cond.code yJ7_fill_53178 cJ7_fill_53178 4 none, Cond.methodLink RX3 35 yX3_tryFromAllModes, Cond.instanceMethod yX3_tryFromAllModes, Cond.selects RX3 yX3_tryFromAllModes yX3_tryFromAllModes, Cond.code yX3_tryFromAllModes cX3_tryFromAllModes 7 none, Cond.fieldLink RX3 9 "TwoLakes$Outlook" "prices" "[I", Cond.fieldLink RX3 15 "TwoLakes$Outlook" "startScale" "I", Cond.methodLink RX3 47 yX3_tryAtAllLevels, Cond.instanceMethod yX3_tryAtAllLevels, Cond.selects RX3 yX3_tryAtAllLevels yX3_tryAtAllLevels, Cond.code yX3_tryAtAllLevels cX3_tryAtAllLevels 11 none, Cond.methodLink RX4 225 yX4_mixWorlds, Cond.instanceMethod yX4_mixWorlds, Cond.selects RX4 yX4_mixWorlds yX4_mixWorlds]
def wsX4_mode_r7 : List Cond := [Cond.code yX4_mixWorlds cX4_mixWorlds 2 none, Cond.methodLink RX4 70 yJ7_fill_53178, Cond.instanceMethod yX3_mixIn, Cond.selects RX3 yX3_mixIn yX3_mixIn, Cond.code yX3_mixIn cX3_mixIn 5 none, Cond.methodLink RX4 187 yX4_modesNow, Cond.instanceMethod yX4_modesNow, Cond.selects RX4 yX4_modesNow yX4_modesNow, Cond.code yX4_modesNow cX4_modesNow 1 (some .int), Cond.fieldLink RX4 19 "TwoLakes" "first" "LTwoLakes$Machine;", Cond.fieldLink RX4 23 "TwoLakes" "second" "LTwoLakes$Machine;"]
def wsX4_mode : List Cond := .code yX4_mode cX4_mode 4 (some .int) :: ((wsX4_mode_r1 ++ (wsX4_mode_r2 ++ (wsX4_mode_r3 ++ (wsX4_mode_r4 ++ (wsX4_mode_r5 ++ (wsX4_mode_r6 ++ wsX4_mode_r7)))))) ++ wsX40 ++ wsX10 ++ wsX30 ++ wsX00 ++ wsX20)
def wsX4_water_r1 : List Cond := [Cond.fieldLink RX4 10 "TwoLakes" "basin" "LTwoLakes$Lakes;", Cond.constant RX4 163 (-1000000000), Cond.methodLink RX4 76 yX4_within, Cond.static yX4_within, Cond.initialized RX4, Cond.code yX4_within cX4_within 3 (some .boolean), Cond.methodLink RX4 156 yX4_worthWith, Cond.instanceMethod yX4_worthWith, Cond.selects RX4 yX4_worthWith yX4_worthWith, Cond.code yX4_worthWith cX4_worthWith 2 (some .int), Cond.fieldLink RX4 50 "TwoLakes" "knownWorth" "[I", Cond.constant RX4 69 (-2000000000), Cond.fieldLink RX4 42 "TwoLakes" "common" "LTwoLakes$Outlook;", Cond.methodLink RX4 210 yX4_planAll, Cond.instanceMethod yX4_planAll, Cond.selects RX4 yX4_planAll yX4_planAll, Cond.code yX4_planAll cX4_planAll 3 none, Cond.fieldLink RX4 31 "TwoLakes" "doings" "LTwoLakes$Doings;", Cond.fieldLink RX4 63 "TwoLakes" "now" "I", Cond.fieldLink RX4 46 "TwoLakes" "weight" "[I", Cond.fieldLink RX4 56 "TwoLakes" "revealHour" "I", Cond.instanceMethod yX0_foresee, Cond.initialized RX0, Cond.selects RX0 yX0_foresee yX0_foresee]
def wsX4_water_r2 : List Cond := [Cond.code yX0_foresee cX0_foresee 5 none, Cond.fieldLink RX0 30 "TwoLakes$Doings" "basin" "LTwoLakes$Lakes;", Cond.methodLink RX0 41 yX0_lookAt, Cond.instanceMethod yX0_lookAt, Cond.selects RX0 yX0_lookAt yX0_lookAt, Cond.code yX0_lookAt cX0_lookAt 8 none, Cond.fieldLink RX0 21 "TwoLakes$Doings" "lowest" "[I", Cond.fieldLink RX0 24 "TwoLakes$Doings" "highest" "[I", Cond.fieldLink RX0 15 "TwoLakes$Doings" "upperShift" "[I", Cond.methodLink RX0 67 Lib.Math.max.name, Cond.static Lib.Math.max.name, Cond.initialized "java/lang/Math", Cond.code Lib.Math.max.name Lib.Math.max.code 2 (some .int), Cond.methodLink RX0 79 Lib.Math.min.name, Cond.static Lib.Math.min.name, Cond.code Lib.Math.min.name Lib.Math.min.code 2 (some .int), Cond.methodLink RX0 56 yX0_measure, Cond.instanceMethod yX0_measure, Cond.selects RX0 yX0_measure yX0_measure, Cond.code yX0_measure cX0_measure 7 none, Cond.fieldLink RX0 34 "TwoLakes$Doings" "first" "LTwoLakes$Machine;", Cond.fieldLink RX0 38 "TwoLakes$Doings" "second" "LTwoLakes$Machine;", Cond.fieldLink RX0 9 "TwoLakes$Doings" "energy" "[I", Cond.fieldLink RX0 18 "TwoLakes$Doings" "lowerShift" "[I"]
def wsX4_water_r3 : List Cond := [Cond.instanceMethod yX2_letDown, Cond.initialized RX2, Cond.selects RX2 yX2_letDown yX2_letDown, Cond.code yX2_letDown cX2_letDown 2 (some .int), Cond.fieldLink RX2 9 "TwoLakes$Machine" "down" "I", Cond.fieldLink RX2 18 "TwoLakes$Machine" "lifts" "I", Cond.instanceMethod yX2_energyOf, Cond.selects RX2 yX2_energyOf yX2_energyOf, Cond.code yX2_energyOf cX2_energyOf 2 (some .int), Cond.fieldLink RX2 15 "TwoLakes$Machine" "gives" "I", Cond.fieldLink RX2 21 "TwoLakes$Machine" "takes" "I", Cond.methodLink RX0 59 yX0_isForbidden, Cond.instanceMethod yX0_isForbidden, Cond.selects RX0 yX0_isForbidden yX0_isForbidden, Cond.code yX0_isForbidden cX0_isForbidden 6 (some .boolean), Cond.methodLink RX0 93 Lib.Math.abs.name, Cond.static Lib.Math.abs.name, Cond.code Lib.Math.abs.name Lib.Math.abs.code 1 (some .int), Cond.instanceMethod yX2_canBe, Cond.selects RX2 yX2_canBe yX2_canBe, Cond.code yX2_canBe cX2_canBe 3 (some .boolean), Cond.fieldLink RX2 33 "TwoLakes$Machine" "isOut" "[Z", Cond.instanceMethod yX2_backup, Cond.selects RX2 yX2_backup yX2_backup]
def wsX4_water_r4 : List Cond := [Cond.code yX2_backup cX2_backup 3 (some .int), Cond.instanceMethod yX1_leastUpper, Cond.initialized RX1, Cond.selects RX1 yX1_leastUpper yX1_leastUpper, Cond.code yX1_leastUpper cX1_leastUpper 2 (some .int), Cond.fieldLink RX1 15 "TwoLakes$Lakes" "lowerRoom" "I", Cond.methodLink RX1 40 Lib.Math.max.name, Cond.methodLink RX0 73 yX0_unitsNeeded, Cond.instanceMethod yX0_unitsNeeded, Cond.selects RX0 yX0_unitsNeeded yX0_unitsNeeded, Cond.code yX0_unitsNeeded cX0_unitsNeeded 3 (some .int), Cond.instanceMethod yX2_unitsForBackup, Cond.selects RX2 yX2_unitsForBackup yX2_unitsForBackup, Cond.code yX2_unitsForBackup cX2_unitsForBackup 3 (some .int), Cond.instanceMethod yX1_mostUpper, Cond.selects RX1 yX1_mostUpper yX1_mostUpper, Cond.code yX1_mostUpper cX1_mostUpper 2 (some .int), Cond.fieldLink RX1 9 "TwoLakes$Lakes" "upperRoom" "I", Cond.methodLink RX1 46 Lib.Math.min.name, Cond.methodLink RX0 53 yX0_countStarts, Cond.instanceMethod yX0_countStarts, Cond.selects RX0 yX0_countStarts yX0_countStarts, Cond.code yX0_countStarts cX0_countStarts 3 none, Cond.fieldLink RX0 27 "TwoLakes$Doings" "startCosts" "[I"]
def wsX4_water_r5 : List Cond := [Cond.methodLink RX0 121 yX0_startCost, Cond.instanceMethod yX0_startCost, Cond.selects RX0 yX0_startCost yX0_startCost, Cond.code yX0_startCost cX0_startCost 8 (some .int), Cond.static yX2_canFollow, Cond.code yX2_canFollow cX2_canFollow 2 (some .boolean), Cond.static yX2_isStart, Cond.code yX2_isStart cX2_isStart 2 (some .boolean), Cond.methodLink RX4 219 yX4_planWorld, Cond.instanceMethod yX4_planWorld, Cond.selects RX4 yX4_planWorld yX4_planWorld, Cond.code yX4_planWorld cX4_planWorld 2 none, Cond.fieldLink RX4 37 "TwoLakes" "outlooks" "[LTwoLakes$Outlook;", Cond.fieldLink RX4 60 "TwoLakes" "endPrice" "I", Cond.methodLink RX4 235 Lib.Math.max.name, Cond.instanceMethod yX3_endWith, Cond.initialized RX3, Cond.selects RX3 yX3_endWith yX3_endWith, Cond.code yX3_endWith cX3_endWith 3 none, Cond.fieldLink RX3 19 "TwoLakes$Outlook" "values" "[I", Cond.instanceMethod yX3_plan, Cond.selects RX3 yX3_plan yX3_plan, Cond.code yX3_plan cX3_plan 7 none, Cond.fieldLink RX3 22 "TwoLakes$Outlook" "behind" "[I"]
def wsX4_water_r6 : List Cond := [Cond.constant RX3 34 (-1000000000), Cond.fieldLink RX3 25 "TwoLakes$Outlook" "choices" "[I", Cond.methodLink RX3 28 yJ7_fill_53178, Cond.static yJ7_fill_53178, Cond.initialized RJ7, Cond.code yJ7_fill_53178 cJ7_fill_53178 4 none, Cond.methodLink RX3 35 yX3_tryFromAllModes, Cond.instanceMethod yX3_tryFromAllModes, Cond.selects RX3 yX3_tryFromAllModes yX3_tryFromAllModes, Cond.code yX3_tryFromAllModes cX3_tryFromAllModes 7 none, Cond.fieldLink RX3 9 "TwoLakes$Outlook" "prices" "[I", Cond.fieldLink RX3 15 "TwoLakes$Outlook" "startScale" "I", Cond.methodLink RX3 47 yX3_tryAtAllLevels, Cond.instanceMethod yX3_tryAtAllLevels, Cond.selects RX3 yX3_tryAtAllLevels yX3_tryAtAllLevels, Cond.code yX3_tryAtAllLevels cX3_tryAtAllLevels 11 none, Cond.methodLink RX4 225 yX4_mixWorlds, Cond.instanceMethod yX4_mixWorlds, Cond.selects RX4 yX4_mixWorlds yX4_mixWorlds, Cond.code yX4_mixWorlds cX4_mixWorlds 2 none, Cond.methodLink RX4 70 yJ7_fill_53178, Cond.instanceMethod yX3_mixIn, Cond.selects RX3 yX3_mixIn yX3_mixIn, Cond.code yX3_mixIn cX3_mixIn 5 none]
def wsX4_water_r7 : List Cond := [Cond.methodLink RX4 187 yX4_modesNow, Cond.instanceMethod yX4_modesNow, Cond.selects RX4 yX4_modesNow yX4_modesNow, Cond.code yX4_modesNow cX4_modesNow 1 (some .int), Cond.fieldLink RX4 19 "TwoLakes" "first" "LTwoLakes$Machine;", Cond.fieldLink RX4 23 "TwoLakes" "second" "LTwoLakes$Machine;"]
def wsX4_water : List Cond := .code yX4_water cX4_water 4 (some .int) :: ((wsX4_water_r1 ++ (wsX4_water_r2 ++ (wsX4_water_r3 ++ (wsX4_water_r4 ++ (wsX4_water_r5 ++ (wsX4_water_r6 ++ wsX4_water_r7)))))) ++ wsX40 ++ wsX10 ++ wsX30 ++ wsX00 ++ wsX20)
def wsX4_carryOut_r1 : List Cond := [Cond.fieldLink RX4 31 "TwoLakes" "doings" "LTwoLakes$Doings;", Cond.fieldLink RX4 63 "TwoLakes" "now" "I", Cond.fieldLink RX4 10 "TwoLakes" "basin" "LTwoLakes$Lakes;", Cond.fieldLink RX4 37 "TwoLakes" "outlooks" "[LTwoLakes$Outlook;", Cond.fieldLink RX4 19 "TwoLakes" "first" "LTwoLakes$Machine;", Cond.fieldLink RX4 23 "TwoLakes" "second" "LTwoLakes$Machine;", Cond.fieldLink RX4 66 "TwoLakes" "purse" "I", Cond.instanceMethod yX0_lookAt, Cond.initialized RX0, Cond.selects RX0 yX0_lookAt yX0_lookAt, Cond.code yX0_lookAt cX0_lookAt 8 none, Cond.fieldLink RX0 30 "TwoLakes$Doings" "basin" "LTwoLakes$Lakes;", Cond.fieldLink RX0 21 "TwoLakes$Doings" "lowest" "[I", Cond.fieldLink RX0 24 "TwoLakes$Doings" "highest" "[I", Cond.fieldLink RX0 15 "TwoLakes$Doings" "upperShift" "[I", Cond.methodLink RX0 67 Lib.Math.max.name, Cond.static Lib.Math.max.name, Cond.initialized "java/lang/Math", Cond.code Lib.Math.max.name Lib.Math.max.code 2 (some .int), Cond.methodLink RX0 79 Lib.Math.min.name, Cond.static Lib.Math.min.name, Cond.code Lib.Math.min.name Lib.Math.min.code 2 (some .int), Cond.methodLink RX0 56 yX0_measure, Cond.instanceMethod yX0_measure]
def wsX4_carryOut_r2 : List Cond := [Cond.selects RX0 yX0_measure yX0_measure, Cond.code yX0_measure cX0_measure 7 none, Cond.fieldLink RX0 34 "TwoLakes$Doings" "first" "LTwoLakes$Machine;", Cond.fieldLink RX0 38 "TwoLakes$Doings" "second" "LTwoLakes$Machine;", Cond.fieldLink RX0 9 "TwoLakes$Doings" "energy" "[I", Cond.fieldLink RX0 18 "TwoLakes$Doings" "lowerShift" "[I", Cond.instanceMethod yX2_letDown, Cond.initialized RX2, Cond.selects RX2 yX2_letDown yX2_letDown, Cond.code yX2_letDown cX2_letDown 2 (some .int), Cond.fieldLink RX2 9 "TwoLakes$Machine" "down" "I", Cond.fieldLink RX2 18 "TwoLakes$Machine" "lifts" "I", Cond.instanceMethod yX2_energyOf, Cond.selects RX2 yX2_energyOf yX2_energyOf, Cond.code yX2_energyOf cX2_energyOf 2 (some .int), Cond.fieldLink RX2 15 "TwoLakes$Machine" "gives" "I", Cond.fieldLink RX2 21 "TwoLakes$Machine" "takes" "I", Cond.methodLink RX0 59 yX0_isForbidden, Cond.instanceMethod yX0_isForbidden, Cond.selects RX0 yX0_isForbidden yX0_isForbidden, Cond.code yX0_isForbidden cX0_isForbidden 6 (some .boolean), Cond.methodLink RX0 93 Lib.Math.abs.name, Cond.static Lib.Math.abs.name, Cond.code Lib.Math.abs.name Lib.Math.abs.code 1 (some .int)]
def wsX4_carryOut_r3 : List Cond := [Cond.instanceMethod yX2_canBe, Cond.selects RX2 yX2_canBe yX2_canBe, Cond.code yX2_canBe cX2_canBe 3 (some .boolean), Cond.fieldLink RX2 33 "TwoLakes$Machine" "isOut" "[Z", Cond.instanceMethod yX2_backup, Cond.selects RX2 yX2_backup yX2_backup, Cond.code yX2_backup cX2_backup 3 (some .int), Cond.instanceMethod yX1_leastUpper, Cond.initialized RX1, Cond.selects RX1 yX1_leastUpper yX1_leastUpper, Cond.code yX1_leastUpper cX1_leastUpper 2 (some .int), Cond.fieldLink RX1 15 "TwoLakes$Lakes" "lowerRoom" "I", Cond.methodLink RX1 40 Lib.Math.max.name, Cond.methodLink RX0 73 yX0_unitsNeeded, Cond.instanceMethod yX0_unitsNeeded, Cond.selects RX0 yX0_unitsNeeded yX0_unitsNeeded, Cond.code yX0_unitsNeeded cX0_unitsNeeded 3 (some .int), Cond.instanceMethod yX2_unitsForBackup, Cond.selects RX2 yX2_unitsForBackup yX2_unitsForBackup, Cond.code yX2_unitsForBackup cX2_unitsForBackup 3 (some .int), Cond.instanceMethod yX1_mostUpper, Cond.selects RX1 yX1_mostUpper yX1_mostUpper, Cond.code yX1_mostUpper cX1_mostUpper 2 (some .int), Cond.fieldLink RX1 9 "TwoLakes$Lakes" "upperRoom" "I"]
def wsX4_carryOut_r4 : List Cond := [Cond.methodLink RX1 46 Lib.Math.min.name, Cond.methodLink RX4 187 yX4_modesNow, Cond.instanceMethod yX4_modesNow, Cond.selects RX4 yX4_modesNow yX4_modesNow, Cond.initialized RX4, Cond.code yX4_modesNow cX4_modesNow 1 (some .int), Cond.instanceMethod yX0_startCost, Cond.selects RX0 yX0_startCost yX0_startCost, Cond.code yX0_startCost cX0_startCost 8 (some .int), Cond.static yX2_canFollow, Cond.code yX2_canFollow cX2_canFollow 2 (some .boolean), Cond.static yX2_isStart, Cond.code yX2_isStart cX2_isStart 2 (some .boolean), Cond.instanceMethod yX2_turnTo, Cond.selects RX2 yX2_turnTo yX2_turnTo, Cond.code yX2_turnTo cX2_turnTo 2 none, Cond.fieldLink RX2 27 "TwoLakes$Machine" "mode" "I", Cond.fieldLink RX2 30 "TwoLakes$Machine" "starts" "I", Cond.methodLink RX2 37 yX2_isStart, Cond.methodLink RX4 92 yX4_changed, Cond.instanceMethod yX4_changed, Cond.selects RX4 yX4_changed yX4_changed, Cond.code yX4_changed cX4_changed 1 (some .boolean), Cond.fieldLink RX4 50 "TwoLakes" "knownWorth" "[I"]
def wsX4_carryOut_r5 : List Cond := [Cond.constant RX4 69 (-2000000000), Cond.fieldLink RX4 53 "TwoLakes" "knownDoing" "[I", Cond.methodLink RX4 70 yJ7_fill_53178, Cond.static yJ7_fill_53178, Cond.initialized RJ7, Cond.code yJ7_fill_53178 cJ7_fill_53178 4 none]
def wsX4_carryOut : List Cond := .code yX4_carryOut cX4_carryOut 5 (some .int) :: ((wsX4_carryOut_r1 ++ (wsX4_carryOut_r2 ++ (wsX4_carryOut_r3 ++ (wsX4_carryOut_r4 ++ wsX4_carryOut_r5)))) ++ wsX40 ++ wsX10 ++ wsX30 ++ wsX00 ++ wsX20)
def wsX4_done_r1 : List Cond := [Cond.classLink RX4 164 "java/util/NoSuchElementException", Cond.initialized "java/util/NoSuchElementException", Cond.fieldLink RX4 63 "TwoLakes" "now" "I", Cond.methodLink RX4 150 yX4_isMode, Cond.static yX4_isMode, Cond.initialized RX4, Cond.code yX4_isMode cX4_isMode 1 (some .boolean), Cond.methodLink RX4 76 yX4_within, Cond.static yX4_within, Cond.code yX4_within cX4_within 3 (some .boolean), Cond.methodLink RX4 144 yX4_isWorld, Cond.static yX4_isWorld, Cond.code yX4_isWorld cX4_isWorld 1 (some .boolean), Cond.methodLink RX4 153 yX4_isLegalNow, Cond.instanceMethod yX4_isLegalNow, Cond.selects RX4 yX4_isLegalNow yX4_isLegalNow, Cond.code yX4_isLegalNow cX4_isLegalNow 3 (some .boolean), Cond.fieldLink RX4 31 "TwoLakes" "doings" "LTwoLakes$Doings;", Cond.fieldLink RX4 10 "TwoLakes" "basin" "LTwoLakes$Lakes;", Cond.instanceMethod yX0_lookAt, Cond.initialized RX0, Cond.selects RX0 yX0_lookAt yX0_lookAt, Cond.code yX0_lookAt cX0_lookAt 8 none, Cond.fieldLink RX0 30 "TwoLakes$Doings" "basin" "LTwoLakes$Lakes;"]
def wsX4_done_r2 : List Cond := [Cond.fieldLink RX0 21 "TwoLakes$Doings" "lowest" "[I", Cond.fieldLink RX0 24 "TwoLakes$Doings" "highest" "[I", Cond.fieldLink RX0 15 "TwoLakes$Doings" "upperShift" "[I", Cond.methodLink RX0 67 Lib.Math.max.name, Cond.static Lib.Math.max.name, Cond.initialized "java/lang/Math", Cond.code Lib.Math.max.name Lib.Math.max.code 2 (some .int), Cond.methodLink RX0 79 Lib.Math.min.name, Cond.static Lib.Math.min.name, Cond.code Lib.Math.min.name Lib.Math.min.code 2 (some .int), Cond.methodLink RX0 56 yX0_measure, Cond.instanceMethod yX0_measure, Cond.selects RX0 yX0_measure yX0_measure, Cond.code yX0_measure cX0_measure 7 none, Cond.fieldLink RX0 34 "TwoLakes$Doings" "first" "LTwoLakes$Machine;", Cond.fieldLink RX0 38 "TwoLakes$Doings" "second" "LTwoLakes$Machine;", Cond.fieldLink RX0 9 "TwoLakes$Doings" "energy" "[I", Cond.fieldLink RX0 18 "TwoLakes$Doings" "lowerShift" "[I", Cond.instanceMethod yX2_letDown, Cond.initialized RX2, Cond.selects RX2 yX2_letDown yX2_letDown, Cond.code yX2_letDown cX2_letDown 2 (some .int), Cond.fieldLink RX2 9 "TwoLakes$Machine" "down" "I", Cond.fieldLink RX2 18 "TwoLakes$Machine" "lifts" "I"]
def wsX4_done_r3 : List Cond := [Cond.instanceMethod yX2_energyOf, Cond.selects RX2 yX2_energyOf yX2_energyOf, Cond.code yX2_energyOf cX2_energyOf 2 (some .int), Cond.fieldLink RX2 15 "TwoLakes$Machine" "gives" "I", Cond.fieldLink RX2 21 "TwoLakes$Machine" "takes" "I", Cond.methodLink RX0 59 yX0_isForbidden, Cond.instanceMethod yX0_isForbidden, Cond.selects RX0 yX0_isForbidden yX0_isForbidden, Cond.code yX0_isForbidden cX0_isForbidden 6 (some .boolean), Cond.methodLink RX0 93 Lib.Math.abs.name, Cond.static Lib.Math.abs.name, Cond.code Lib.Math.abs.name Lib.Math.abs.code 1 (some .int), Cond.instanceMethod yX2_canBe, Cond.selects RX2 yX2_canBe yX2_canBe, Cond.code yX2_canBe cX2_canBe 3 (some .boolean), Cond.fieldLink RX2 33 "TwoLakes$Machine" "isOut" "[Z", Cond.instanceMethod yX2_backup, Cond.selects RX2 yX2_backup yX2_backup, Cond.code yX2_backup cX2_backup 3 (some .int), Cond.instanceMethod yX1_leastUpper, Cond.initialized RX1, Cond.selects RX1 yX1_leastUpper yX1_leastUpper, Cond.code yX1_leastUpper cX1_leastUpper 2 (some .int), Cond.fieldLink RX1 15 "TwoLakes$Lakes" "lowerRoom" "I"]
def wsX4_done_r4 : List Cond := [Cond.methodLink RX1 40 Lib.Math.max.name, Cond.methodLink RX0 73 yX0_unitsNeeded, Cond.instanceMethod yX0_unitsNeeded, Cond.selects RX0 yX0_unitsNeeded yX0_unitsNeeded, Cond.code yX0_unitsNeeded cX0_unitsNeeded 3 (some .int), Cond.instanceMethod yX2_unitsForBackup, Cond.selects RX2 yX2_unitsForBackup yX2_unitsForBackup, Cond.code yX2_unitsForBackup cX2_unitsForBackup 3 (some .int), Cond.instanceMethod yX1_mostUpper, Cond.selects RX1 yX1_mostUpper yX1_mostUpper, Cond.code yX1_mostUpper cX1_mostUpper 2 (some .int), Cond.fieldLink RX1 9 "TwoLakes$Lakes" "upperRoom" "I", Cond.methodLink RX1 46 Lib.Math.min.name, Cond.methodLink RX4 187 yX4_modesNow, Cond.instanceMethod yX4_modesNow, Cond.selects RX4 yX4_modesNow yX4_modesNow, Cond.code yX4_modesNow cX4_modesNow 1 (some .int), Cond.fieldLink RX4 19 "TwoLakes" "first" "LTwoLakes$Machine;", Cond.fieldLink RX4 23 "TwoLakes" "second" "LTwoLakes$Machine;", Cond.instanceMethod yX0_startCost, Cond.selects RX0 yX0_startCost yX0_startCost, Cond.code yX0_startCost cX0_startCost 8 (some .int), Cond.static yX2_canFollow, Cond.code yX2_canFollow cX2_canFollow 2 (some .boolean)]
def wsX4_done_r5 : List Cond := [Cond.static yX2_isStart, Cond.code yX2_isStart cX2_isStart 2 (some .boolean), Cond.instanceMethod yX0_isOpen, Cond.selects RX0 yX0_isOpen yX0_isOpen, Cond.code yX0_isOpen cX0_isOpen 3 (some .boolean), Cond.methodLink RX4 173 yX4_carryOut, Cond.instanceMethod yX4_carryOut, Cond.selects RX4 yX4_carryOut yX4_carryOut, Cond.code yX4_carryOut cX4_carryOut 5 (some .int), Cond.fieldLink RX4 37 "TwoLakes" "outlooks" "[LTwoLakes$Outlook;", Cond.fieldLink RX4 66 "TwoLakes" "purse" "I", Cond.instanceMethod yX2_turnTo, Cond.selects RX2 yX2_turnTo yX2_turnTo, Cond.code yX2_turnTo cX2_turnTo 2 none, Cond.fieldLink RX2 27 "TwoLakes$Machine" "mode" "I", Cond.fieldLink RX2 30 "TwoLakes$Machine" "starts" "I", Cond.methodLink RX2 37 yX2_isStart, Cond.methodLink RX4 92 yX4_changed, Cond.instanceMethod yX4_changed, Cond.selects RX4 yX4_changed yX4_changed, Cond.code yX4_changed cX4_changed 1 (some .boolean), Cond.fieldLink RX4 50 "TwoLakes" "knownWorth" "[I", Cond.constant RX4 69 (-2000000000), Cond.fieldLink RX4 53 "TwoLakes" "knownDoing" "[I"]
def wsX4_done_r6 : List Cond := [Cond.methodLink RX4 70 yJ7_fill_53178, Cond.static yJ7_fill_53178, Cond.initialized RJ7, Cond.code yJ7_fill_53178 cJ7_fill_53178 4 none]
def wsX4_runs_r1 : List Cond := [Cond.fieldLink RX4 63 "TwoLakes" "now" "I", Cond.methodLink RX4 76 yX4_within, Cond.static yX4_within, Cond.initialized RX4, Cond.code yX4_within cX4_within 3 (some .boolean), Cond.methodLink RX4 144 yX4_isWorld, Cond.static yX4_isWorld, Cond.code yX4_isWorld cX4_isWorld 1 (some .boolean), Cond.methodLink RX4 160 yX4_bestDoing, Cond.instanceMethod yX4_bestDoing, Cond.selects RX4 yX4_bestDoing yX4_bestDoing, Cond.code yX4_bestDoing cX4_bestDoing 5 (some .int), Cond.fieldLink RX4 56 "TwoLakes" "revealHour" "I", Cond.fieldLink RX4 53 "TwoLakes" "knownDoing" "[I", Cond.constant RX4 69 (-2000000000), Cond.fieldLink RX4 10 "TwoLakes" "basin" "LTwoLakes$Lakes;", Cond.fieldLink RX4 31 "TwoLakes" "doings" "LTwoLakes$Doings;", Cond.fieldLink RX4 42 "TwoLakes" "common" "LTwoLakes$Outlook;", Cond.fieldLink RX4 37 "TwoLakes" "outlooks" "[LTwoLakes$Outlook;", Cond.methodLink RX4 210 yX4_planAll, Cond.instanceMethod yX4_planAll, Cond.selects RX4 yX4_planAll yX4_planAll, Cond.code yX4_planAll cX4_planAll 3 none, Cond.fieldLink RX4 46 "TwoLakes" "weight" "[I"]
def wsX4_runs_r2 : List Cond := [Cond.instanceMethod yX0_foresee, Cond.initialized RX0, Cond.selects RX0 yX0_foresee yX0_foresee, Cond.code yX0_foresee cX0_foresee 5 none, Cond.fieldLink RX0 30 "TwoLakes$Doings" "basin" "LTwoLakes$Lakes;", Cond.methodLink RX0 41 yX0_lookAt, Cond.instanceMethod yX0_lookAt, Cond.selects RX0 yX0_lookAt yX0_lookAt, Cond.code yX0_lookAt cX0_lookAt 8 none, Cond.fieldLink RX0 21 "TwoLakes$Doings" "lowest" "[I", Cond.fieldLink RX0 24 "TwoLakes$Doings" "highest" "[I", Cond.fieldLink RX0 15 "TwoLakes$Doings" "upperShift" "[I", Cond.methodLink RX0 67 Lib.Math.max.name, Cond.static Lib.Math.max.name, Cond.initialized "java/lang/Math", Cond.code Lib.Math.max.name Lib.Math.max.code 2 (some .int), Cond.methodLink RX0 79 Lib.Math.min.name, Cond.static Lib.Math.min.name, Cond.code Lib.Math.min.name Lib.Math.min.code 2 (some .int), Cond.methodLink RX0 56 yX0_measure, Cond.instanceMethod yX0_measure, Cond.selects RX0 yX0_measure yX0_measure, Cond.code yX0_measure cX0_measure 7 none, Cond.fieldLink RX0 34 "TwoLakes$Doings" "first" "LTwoLakes$Machine;"]
def wsX4_runs_r3 : List Cond := [Cond.fieldLink RX0 38 "TwoLakes$Doings" "second" "LTwoLakes$Machine;", Cond.fieldLink RX0 9 "TwoLakes$Doings" "energy" "[I", Cond.fieldLink RX0 18 "TwoLakes$Doings" "lowerShift" "[I", Cond.instanceMethod yX2_letDown, Cond.initialized RX2, Cond.selects RX2 yX2_letDown yX2_letDown, Cond.code yX2_letDown cX2_letDown 2 (some .int), Cond.fieldLink RX2 9 "TwoLakes$Machine" "down" "I", Cond.fieldLink RX2 18 "TwoLakes$Machine" "lifts" "I", Cond.instanceMethod yX2_energyOf, Cond.selects RX2 yX2_energyOf yX2_energyOf, Cond.code yX2_energyOf cX2_energyOf 2 (some .int), Cond.fieldLink RX2 15 "TwoLakes$Machine" "gives" "I", Cond.fieldLink RX2 21 "TwoLakes$Machine" "takes" "I", Cond.methodLink RX0 59 yX0_isForbidden, Cond.instanceMethod yX0_isForbidden, Cond.selects RX0 yX0_isForbidden yX0_isForbidden, Cond.code yX0_isForbidden cX0_isForbidden 6 (some .boolean), Cond.methodLink RX0 93 Lib.Math.abs.name, Cond.static Lib.Math.abs.name, Cond.code Lib.Math.abs.name Lib.Math.abs.code 1 (some .int), Cond.instanceMethod yX2_canBe, Cond.selects RX2 yX2_canBe yX2_canBe, Cond.code yX2_canBe cX2_canBe 3 (some .boolean)]
def wsX4_runs_r4 : List Cond := [Cond.fieldLink RX2 33 "TwoLakes$Machine" "isOut" "[Z", Cond.instanceMethod yX2_backup, Cond.selects RX2 yX2_backup yX2_backup, Cond.code yX2_backup cX2_backup 3 (some .int), Cond.instanceMethod yX1_leastUpper, Cond.initialized RX1, Cond.selects RX1 yX1_leastUpper yX1_leastUpper, Cond.code yX1_leastUpper cX1_leastUpper 2 (some .int), Cond.fieldLink RX1 15 "TwoLakes$Lakes" "lowerRoom" "I", Cond.methodLink RX1 40 Lib.Math.max.name, Cond.methodLink RX0 73 yX0_unitsNeeded, Cond.instanceMethod yX0_unitsNeeded, Cond.selects RX0 yX0_unitsNeeded yX0_unitsNeeded, Cond.code yX0_unitsNeeded cX0_unitsNeeded 3 (some .int), Cond.instanceMethod yX2_unitsForBackup, Cond.selects RX2 yX2_unitsForBackup yX2_unitsForBackup, Cond.code yX2_unitsForBackup cX2_unitsForBackup 3 (some .int), Cond.instanceMethod yX1_mostUpper, Cond.selects RX1 yX1_mostUpper yX1_mostUpper, Cond.code yX1_mostUpper cX1_mostUpper 2 (some .int), Cond.fieldLink RX1 9 "TwoLakes$Lakes" "upperRoom" "I", Cond.methodLink RX1 46 Lib.Math.min.name, Cond.methodLink RX0 53 yX0_countStarts, Cond.instanceMethod yX0_countStarts]
def wsX4_runs_r5 : List Cond := [Cond.selects RX0 yX0_countStarts yX0_countStarts, Cond.code yX0_countStarts cX0_countStarts 3 none, Cond.fieldLink RX0 27 "TwoLakes$Doings" "startCosts" "[I", Cond.methodLink RX0 121 yX0_startCost, Cond.instanceMethod yX0_startCost, Cond.selects RX0 yX0_startCost yX0_startCost, Cond.code yX0_startCost cX0_startCost 8 (some .int), Cond.static yX2_canFollow, Cond.code yX2_canFollow cX2_canFollow 2 (some .boolean), Cond.static yX2_isStart, Cond.code yX2_isStart cX2_isStart 2 (some .boolean), Cond.methodLink RX4 219 yX4_planWorld, Cond.instanceMethod yX4_planWorld, Cond.selects RX4 yX4_planWorld yX4_planWorld, Cond.code yX4_planWorld cX4_planWorld 2 none, Cond.fieldLink RX4 60 "TwoLakes" "endPrice" "I", Cond.methodLink RX4 235 Lib.Math.max.name, Cond.instanceMethod yX3_endWith, Cond.initialized RX3, Cond.selects RX3 yX3_endWith yX3_endWith, Cond.code yX3_endWith cX3_endWith 3 none, Cond.fieldLink RX3 19 "TwoLakes$Outlook" "values" "[I", Cond.instanceMethod yX3_plan, Cond.selects RX3 yX3_plan yX3_plan]
def wsX4_runs_r6 : List Cond := [Cond.code yX3_plan cX3_plan 7 none, Cond.fieldLink RX3 22 "TwoLakes$Outlook" "behind" "[I", Cond.constant RX3 34 (-1000000000), Cond.fieldLink RX3 25 "TwoLakes$Outlook" "choices" "[I", Cond.methodLink RX3 28 yJ7_fill_53178, Cond.static yJ7_fill_53178, Cond.initialized RJ7, Cond.code yJ7_fill_53178 cJ7_fill_53178 4 none, Cond.methodLink RX3 35 yX3_tryFromAllModes, Cond.instanceMethod yX3_tryFromAllModes, Cond.selects RX3 yX3_tryFromAllModes yX3_tryFromAllModes, Cond.code yX3_tryFromAllModes cX3_tryFromAllModes 7 none, Cond.fieldLink RX3 9 "TwoLakes$Outlook" "prices" "[I", Cond.fieldLink RX3 15 "TwoLakes$Outlook" "startScale" "I", Cond.methodLink RX3 47 yX3_tryAtAllLevels, Cond.instanceMethod yX3_tryAtAllLevels, Cond.selects RX3 yX3_tryAtAllLevels yX3_tryAtAllLevels, Cond.code yX3_tryAtAllLevels cX3_tryAtAllLevels 11 none, Cond.methodLink RX4 225 yX4_mixWorlds, Cond.instanceMethod yX4_mixWorlds, Cond.selects RX4 yX4_mixWorlds yX4_mixWorlds, Cond.code yX4_mixWorlds cX4_mixWorlds 2 none, Cond.methodLink RX4 70 yJ7_fill_53178, Cond.instanceMethod yX3_mixIn]
def wsX4_runs_r7 : List Cond := [Cond.selects RX3 yX3_mixIn yX3_mixIn, Cond.code yX3_mixIn cX3_mixIn 5 none, Cond.methodLink RX4 187 yX4_modesNow, Cond.instanceMethod yX4_modesNow, Cond.selects RX4 yX4_modesNow yX4_modesNow, Cond.code yX4_modesNow cX4_modesNow 1 (some .int), Cond.fieldLink RX4 19 "TwoLakes" "first" "LTwoLakes$Machine;", Cond.fieldLink RX4 23 "TwoLakes" "second" "LTwoLakes$Machine;", Cond.methodLink RX4 173 yX4_carryOut, Cond.instanceMethod yX4_carryOut, Cond.selects RX4 yX4_carryOut yX4_carryOut, Cond.code yX4_carryOut cX4_carryOut 5 (some .int), Cond.fieldLink RX4 66 "TwoLakes" "purse" "I", Cond.instanceMethod yX2_turnTo, Cond.selects RX2 yX2_turnTo yX2_turnTo, Cond.code yX2_turnTo cX2_turnTo 2 none, Cond.fieldLink RX2 27 "TwoLakes$Machine" "mode" "I", Cond.fieldLink RX2 30 "TwoLakes$Machine" "starts" "I", Cond.methodLink RX2 37 yX2_isStart, Cond.methodLink RX4 92 yX4_changed, Cond.instanceMethod yX4_changed, Cond.selects RX4 yX4_changed yX4_changed, Cond.code yX4_changed cX4_changed 1 (some .boolean), Cond.fieldLink RX4 50 "TwoLakes" "knownWorth" "[I"]
def wsX4_runs : List Cond := .code yX4_runs cX4_runs 5 (some .int) :: ((wsX4_runs_r1 ++ (wsX4_runs_r2 ++ (wsX4_runs_r3 ++ (wsX4_runs_r4 ++ (wsX4_runs_r5 ++ (wsX4_runs_r6 ++ wsX4_runs_r7)))))) ++ wsX40 ++ wsX10 ++ wsX30 ++ wsX00 ++ wsX20)
def wsX4_count : List Cond := .code yX4_count cX4_count 2 (some .int) :: ([.fieldLink RX4 63 "TwoLakes" "now" "I", .fieldLink RX4 10 "TwoLakes" "basin" "LTwoLakes$Lakes;", .fieldLink RX4 19 "TwoLakes" "first" "LTwoLakes$Machine;", .fieldLink RX4 23 "TwoLakes" "second" "LTwoLakes$Machine;", .fieldLink RX4 66 "TwoLakes" "purse" "I", .fieldLink RX4 56 "TwoLakes" "revealHour" "I"] ++ wsX40 ++ wsX10 ++ wsX20)
def wsX5_init_r1 : List Cond := [Cond.methodLink RX5 1 objectInit, Cond.instanceMethod objectInit, Cond.code objectInit ⟨#[0xb1]⟩ 1 none, Cond.fieldLink RX5 7 "TwoLakesModel" "most" "I", Cond.fieldLink RX5 13 "TwoLakesModel" "mostLower" "I", Cond.fieldLink RX5 16 "TwoLakesModel" "upper" "I", Cond.fieldLink RX5 19 "TwoLakesModel" "lower" "I", Cond.fieldLink RX5 22 "TwoLakesModel" "speed" "I", Cond.fieldLink RX5 25 "TwoLakesModel" "speedLower" "I", Cond.arrayClass .int, Cond.fieldLink RX5 28 "TwoLakesModel" "in" "[I", Cond.fieldLink RX5 32 "TwoLakesModel" "out" "[I", Cond.fieldLink RX5 35 "TwoLakesModel" "reserves" "[I", Cond.fieldLink RX5 38 "TwoLakesModel" "lets" "[I", Cond.fieldLink RX5 41 "TwoLakesModel" "gives" "[I", Cond.fieldLink RX5 44 "TwoLakesModel" "lifts" "[I", Cond.fieldLink RX5 47 "TwoLakesModel" "takes" "[I", Cond.fieldLink RX5 50 "TwoLakesModel" "startCost" "[I", Cond.arrayClass .boolean, Cond.fieldLink RX5 53 "TwoLakesModel" "isOut" "[Z", Cond.fieldLink RX5 57 "TwoLakesModel" "weight" "[I", Cond.fieldLink RX5 60 "TwoLakesModel" "prices" "[I", Cond.fieldLink RX5 63 "TwoLakesModel" "mode" "[I", Cond.fieldLink RX5 66 "TwoLakesModel" "started" "[I"]
def wsX5_init_r2 : List Cond := [Cond.fieldLink RX5 69 "TwoLakesModel" "bestIn" "[I", Cond.fieldLink RX5 72 "TwoLakesModel" "bestAll" "[I"]
def wsX5_init : List Cond := .code yX5_init cX5_init 2 none :: ((wsX5_init_r1 ++ wsX5_init_r2) ++ wsX50)
def wsX5_thrown : List Cond := .code yX5_thrown cX5_thrown 1 (some .int) :: ([.fieldLink RX5 75 "TwoLakesModel" "thrown" "I"] ++ wsX50)
def wsX5_within : List Cond := .code yX5_within cX5_within 3 (some .boolean) :: ([])
def wsX5_lakes : List Cond := .code yX5_lakes cX5_lakes 5 (some .boolean) :: ([.fieldLink RX5 75 "TwoLakesModel" "thrown" "I", .fieldLink RX5 78 "TwoLakesModel" "now" "I", .fieldLink RX5 7 "TwoLakesModel" "most" "I", .fieldLink RX5 13 "TwoLakesModel" "mostLower" "I", .fieldLink RX5 16 "TwoLakesModel" "upper" "I", .fieldLink RX5 19 "TwoLakesModel" "lower" "I", .methodLink RX5 81 yX5_within, .static yX5_within, .initialized RX5, .code yX5_within cX5_within 3 (some .boolean)] ++ wsX50)
def wsX5_speeds : List Cond := .code yX5_speeds cX5_speeds 3 (some .boolean) :: ([.fieldLink RX5 75 "TwoLakesModel" "thrown" "I", .fieldLink RX5 22 "TwoLakesModel" "speed" "I", .fieldLink RX5 25 "TwoLakesModel" "speedLower" "I", .methodLink RX5 81 yX5_within, .static yX5_within, .initialized RX5, .code yX5_within cX5_within 3 (some .boolean)] ++ wsX50)
def wsX5_isHour : List Cond := .code yX5_isHour cX5_isHour 1 (some .boolean) :: ([.methodLink RX5 81 yX5_within, .static yX5_within, .initialized RX5, .code yX5_within cX5_within 3 (some .boolean)])
def wsX5_flows : List Cond := .code yX5_flows cX5_flows 4 (some .boolean) :: ([.fieldLink RX5 75 "TwoLakesModel" "thrown" "I", .fieldLink RX5 28 "TwoLakesModel" "in" "[I", .fieldLink RX5 32 "TwoLakesModel" "out" "[I", .methodLink RX5 85 yX5_isHour, .static yX5_isHour, .initialized RX5, .code yX5_isHour cX5_isHour 1 (some .boolean), .methodLink RX5 81 yX5_within, .static yX5_within, .code yX5_within cX5_within 3 (some .boolean)] ++ wsX50)
def wsX5_machine : List Cond := .code yX5_machine cX5_machine 7 (some .boolean) :: ([.fieldLink RX5 75 "TwoLakesModel" "thrown" "I", .fieldLink RX5 38 "TwoLakesModel" "lets" "[I", .fieldLink RX5 41 "TwoLakesModel" "gives" "[I", .fieldLink RX5 44 "TwoLakesModel" "lifts" "[I", .fieldLink RX5 47 "TwoLakesModel" "takes" "[I", .fieldLink RX5 50 "TwoLakesModel" "startCost" "[I", .methodLink RX5 81 yX5_within, .static yX5_within, .initialized RX5, .code yX5_within cX5_within 3 (some .boolean)] ++ wsX50)
def wsX5_out : List Cond := .code yX5_out cX5_out 6 (some .boolean) :: ([.fieldLink RX5 75 "TwoLakesModel" "thrown" "I", .fieldLink RX5 53 "TwoLakesModel" "isOut" "[Z", .methodLink RX5 81 yX5_within, .static yX5_within, .initialized RX5, .code yX5_within cX5_within 3 (some .boolean), .methodLink RX5 85 yX5_isHour, .static yX5_isHour, .code yX5_isHour cX5_isHour 1 (some .boolean)] ++ wsX50)
def wsX5_reserve : List Cond := .code yX5_reserve cX5_reserve 3 (some .boolean) :: ([.fieldLink RX5 75 "TwoLakesModel" "thrown" "I", .fieldLink RX5 35 "TwoLakesModel" "reserves" "[I", .methodLink RX5 85 yX5_isHour, .static yX5_isHour, .initialized RX5, .code yX5_isHour cX5_isHour 1 (some .boolean), .methodLink RX5 81 yX5_within, .static yX5_within, .code yX5_within cX5_within 3 (some .boolean)] ++ wsX50)
def wsX5_weights : List Cond := .code yX5_weights cX5_weights 4 (some .boolean) :: ([.fieldLink RX5 75 "TwoLakesModel" "thrown" "I", .fieldLink RX5 57 "TwoLakesModel" "weight" "[I", .methodLink RX5 81 yX5_within, .static yX5_within, .initialized RX5, .code yX5_within cX5_within 3 (some .boolean)] ++ wsX50)
def wsX5_isWorld : List Cond := .code yX5_isWorld cX5_isWorld 1 (some .boolean) :: ([.methodLink RX5 81 yX5_within, .static yX5_within, .initialized RX5, .code yX5_within cX5_within 3 (some .boolean)])
def wsX5_price : List Cond := .code yX5_price cX5_price 4 (some .boolean) :: ([.fieldLink RX5 75 "TwoLakesModel" "thrown" "I", .fieldLink RX5 60 "TwoLakesModel" "prices" "[I", .methodLink RX5 89 yX5_isWorld, .static yX5_isWorld, .initialized RX5, .code yX5_isWorld cX5_isWorld 1 (some .boolean), .methodLink RX5 81 yX5_within, .static yX5_within, .code yX5_within cX5_within 3 (some .boolean), .methodLink RX5 85 yX5_isHour, .static yX5_isHour, .code yX5_isHour cX5_isHour 1 (some .boolean)] ++ wsX50)
def wsX5_reveal : List Cond := .code yX5_reveal cX5_reveal 2 (some .boolean) :: ([.fieldLink RX5 75 "TwoLakesModel" "thrown" "I", .fieldLink RX5 92 "TwoLakesModel" "reveal" "I", .methodLink RX5 81 yX5_within, .static yX5_within, .initialized RX5, .code yX5_within cX5_within 3 (some .boolean)] ++ wsX50)
def wsX5_end : List Cond := .code yX5_end cX5_end 2 (some .boolean) :: ([.fieldLink RX5 75 "TwoLakesModel" "thrown" "I", .fieldLink RX5 95 "TwoLakesModel" "end" "I", .methodLink RX5 81 yX5_within, .static yX5_within, .initialized RX5, .code yX5_within cX5_within 3 (some .boolean)] ++ wsX50)
def wsX5_loses : List Cond := .code yX5_loses cX5_loses 4 (some .int) :: ([.fieldLink RX5 38 "TwoLakesModel" "lets" "[I", .fieldLink RX5 44 "TwoLakesModel" "lifts" "[I"] ++ wsX50)
def wsX5_mayGo : List Cond := .code yX5_mayGo cX5_mayGo 5 (some .boolean) :: ([.fieldLink RX5 53 "TwoLakesModel" "isOut" "[Z"] ++ wsX50)
def wsX5_isReady : List Cond := .code yX5_isReady cX5_isReady 4 (some .boolean) :: ([.fieldLink RX5 53 "TwoLakesModel" "isOut" "[Z"] ++ wsX50)
def wsX5_isReserved : List Cond := .code yX5_isReserved cX5_isReserved 7 (some .boolean) :: ([.fieldLink RX5 41 "TwoLakesModel" "gives" "[I", .fieldLink RX5 47 "TwoLakesModel" "takes" "[I", .fieldLink RX5 38 "TwoLakesModel" "lets" "[I", .fieldLink RX5 35 "TwoLakesModel" "reserves" "[I", .methodLink RX5 98 yX5_isReady, .instanceMethod yX5_isReady, .selects RX5 yX5_isReady yX5_isReady, .initialized RX5, .code yX5_isReady cX5_isReady 4 (some .boolean), .fieldLink RX5 53 "TwoLakesModel" "isOut" "[Z"] ++ wsX50)
def wsX5_far : List Cond := .code yX5_far cX5_far 2 (some .int) :: ([])
def wsX5_isLegal_r1 : List Cond := [Cond.fieldLink RX5 28 "TwoLakesModel" "in" "[I", Cond.fieldLink RX5 32 "TwoLakesModel" "out" "[I", Cond.fieldLink RX5 7 "TwoLakesModel" "most" "I", Cond.fieldLink RX5 13 "TwoLakesModel" "mostLower" "I", Cond.fieldLink RX5 22 "TwoLakesModel" "speed" "I", Cond.fieldLink RX5 25 "TwoLakesModel" "speedLower" "I", Cond.methodLink RX5 101 yX5_loses, Cond.instanceMethod yX5_loses, Cond.selects RX5 yX5_loses yX5_loses, Cond.initialized RX5, Cond.code yX5_loses cX5_loses 4 (some .int), Cond.fieldLink RX5 38 "TwoLakesModel" "lets" "[I", Cond.fieldLink RX5 44 "TwoLakesModel" "lifts" "[I", Cond.methodLink RX5 81 yX5_within, Cond.static yX5_within, Cond.code yX5_within cX5_within 3 (some .boolean), Cond.methodLink RX5 105 yX5_far, Cond.static yX5_far, Cond.code yX5_far cX5_far 2 (some .int), Cond.methodLink RX5 108 yX5_mayGo, Cond.instanceMethod yX5_mayGo, Cond.selects RX5 yX5_mayGo yX5_mayGo, Cond.code yX5_mayGo cX5_mayGo 5 (some .boolean), Cond.fieldLink RX5 53 "TwoLakesModel" "isOut" "[Z"]
def wsX5_isLegal_r2 : List Cond := [Cond.methodLink RX5 112 yX5_isReserved, Cond.instanceMethod yX5_isReserved, Cond.selects RX5 yX5_isReserved yX5_isReserved, Cond.code yX5_isReserved cX5_isReserved 7 (some .boolean), Cond.fieldLink RX5 41 "TwoLakesModel" "gives" "[I", Cond.fieldLink RX5 47 "TwoLakesModel" "takes" "[I", Cond.fieldLink RX5 35 "TwoLakesModel" "reserves" "[I", Cond.methodLink RX5 98 yX5_isReady, Cond.instanceMethod yX5_isReady, Cond.selects RX5 yX5_isReady yX5_isReady, Cond.code yX5_isReady cX5_isReady 4 (some .boolean)]
def wsX5_isLegal : List Cond := .code yX5_isLegal cX5_isLegal 12 (some .boolean) :: ((wsX5_isLegal_r1 ++ wsX5_isLegal_r2) ++ wsX50)
def wsX5_money : List Cond := .code yX5_money cX5_money 9 (some .int) :: ([.fieldLink RX5 41 "TwoLakesModel" "gives" "[I", .fieldLink RX5 47 "TwoLakesModel" "takes" "[I", .fieldLink RX5 50 "TwoLakesModel" "startCost" "[I", .fieldLink RX5 60 "TwoLakesModel" "prices" "[I"] ++ wsX50)
def wsX5_brings_r1 : List Cond := [Cond.constant RX5 122 (-1000000000), Cond.fieldLink RX5 28 "TwoLakesModel" "in" "[I", Cond.fieldLink RX5 69 "TwoLakesModel" "bestIn" "[I", Cond.fieldLink RX5 72 "TwoLakesModel" "bestAll" "[I", Cond.fieldLink RX5 57 "TwoLakesModel" "weight" "[I", Cond.methodLink RX5 123 yX5_isLegal, Cond.instanceMethod yX5_isLegal, Cond.selects RX5 yX5_isLegal yX5_isLegal, Cond.initialized RX5, Cond.code yX5_isLegal cX5_isLegal 12 (some .boolean), Cond.fieldLink RX5 32 "TwoLakesModel" "out" "[I", Cond.fieldLink RX5 7 "TwoLakesModel" "most" "I", Cond.fieldLink RX5 13 "TwoLakesModel" "mostLower" "I", Cond.fieldLink RX5 22 "TwoLakesModel" "speed" "I", Cond.fieldLink RX5 25 "TwoLakesModel" "speedLower" "I", Cond.methodLink RX5 101 yX5_loses, Cond.instanceMethod yX5_loses, Cond.selects RX5 yX5_loses yX5_loses, Cond.code yX5_loses cX5_loses 4 (some .int), Cond.fieldLink RX5 38 "TwoLakesModel" "lets" "[I", Cond.fieldLink RX5 44 "TwoLakesModel" "lifts" "[I", Cond.methodLink RX5 81 yX5_within, Cond.static yX5_within, Cond.code yX5_within cX5_within 3 (some .boolean)]
def wsX5_brings_r2 : List Cond := [Cond.methodLink RX5 105 yX5_far, Cond.static yX5_far, Cond.code yX5_far cX5_far 2 (some .int), Cond.methodLink RX5 108 yX5_mayGo, Cond.instanceMethod yX5_mayGo, Cond.selects RX5 yX5_mayGo yX5_mayGo, Cond.code yX5_mayGo cX5_mayGo 5 (some .boolean), Cond.fieldLink RX5 53 "TwoLakesModel" "isOut" "[Z", Cond.methodLink RX5 112 yX5_isReserved, Cond.instanceMethod yX5_isReserved, Cond.selects RX5 yX5_isReserved yX5_isReserved, Cond.code yX5_isReserved cX5_isReserved 7 (some .boolean), Cond.fieldLink RX5 41 "TwoLakesModel" "gives" "[I", Cond.fieldLink RX5 47 "TwoLakesModel" "takes" "[I", Cond.fieldLink RX5 35 "TwoLakesModel" "reserves" "[I", Cond.methodLink RX5 98 yX5_isReady, Cond.instanceMethod yX5_isReady, Cond.selects RX5 yX5_isReady yX5_isReady, Cond.code yX5_isReady cX5_isReady 4 (some .boolean), Cond.methodLink RX5 127 yX5_money, Cond.instanceMethod yX5_money, Cond.selects RX5 yX5_money yX5_money, Cond.code yX5_money cX5_money 9 (some .int), Cond.fieldLink RX5 50 "TwoLakesModel" "startCost" "[I"]
def wsX5_brings_r3 : List Cond := [Cond.fieldLink RX5 60 "TwoLakesModel" "prices" "[I"]
def wsX5_brings : List Cond := .code yX5_brings cX5_brings 13 (some .int) :: ((wsX5_brings_r1 ++ (wsX5_brings_r2 ++ wsX5_brings_r3)) ++ wsX50)
def wsX5_bestOf_r1 : List Cond := [Cond.constant RX5 122 (-1000000000), Cond.methodLink RX5 131 yX5_brings, Cond.instanceMethod yX5_brings, Cond.selects RX5 yX5_brings yX5_brings, Cond.initialized RX5, Cond.code yX5_brings cX5_brings 13 (some .int), Cond.fieldLink RX5 28 "TwoLakesModel" "in" "[I", Cond.fieldLink RX5 69 "TwoLakesModel" "bestIn" "[I", Cond.fieldLink RX5 72 "TwoLakesModel" "bestAll" "[I", Cond.fieldLink RX5 57 "TwoLakesModel" "weight" "[I", Cond.methodLink RX5 123 yX5_isLegal, Cond.instanceMethod yX5_isLegal, Cond.selects RX5 yX5_isLegal yX5_isLegal, Cond.code yX5_isLegal cX5_isLegal 12 (some .boolean), Cond.fieldLink RX5 32 "TwoLakesModel" "out" "[I", Cond.fieldLink RX5 7 "TwoLakesModel" "most" "I", Cond.fieldLink RX5 13 "TwoLakesModel" "mostLower" "I", Cond.fieldLink RX5 22 "TwoLakesModel" "speed" "I", Cond.fieldLink RX5 25 "TwoLakesModel" "speedLower" "I", Cond.methodLink RX5 101 yX5_loses, Cond.instanceMethod yX5_loses, Cond.selects RX5 yX5_loses yX5_loses, Cond.code yX5_loses cX5_loses 4 (some .int), Cond.fieldLink RX5 38 "TwoLakesModel" "lets" "[I"]
def wsX5_bestOf_r2 : List Cond := [Cond.fieldLink RX5 44 "TwoLakesModel" "lifts" "[I", Cond.methodLink RX5 81 yX5_within, Cond.static yX5_within, Cond.code yX5_within cX5_within 3 (some .boolean), Cond.methodLink RX5 105 yX5_far, Cond.static yX5_far, Cond.code yX5_far cX5_far 2 (some .int), Cond.methodLink RX5 108 yX5_mayGo, Cond.instanceMethod yX5_mayGo, Cond.selects RX5 yX5_mayGo yX5_mayGo, Cond.code yX5_mayGo cX5_mayGo 5 (some .boolean), Cond.fieldLink RX5 53 "TwoLakesModel" "isOut" "[Z", Cond.methodLink RX5 112 yX5_isReserved, Cond.instanceMethod yX5_isReserved, Cond.selects RX5 yX5_isReserved yX5_isReserved, Cond.code yX5_isReserved cX5_isReserved 7 (some .boolean), Cond.fieldLink RX5 41 "TwoLakesModel" "gives" "[I", Cond.fieldLink RX5 47 "TwoLakesModel" "takes" "[I", Cond.fieldLink RX5 35 "TwoLakesModel" "reserves" "[I", Cond.methodLink RX5 98 yX5_isReady, Cond.instanceMethod yX5_isReady, Cond.selects RX5 yX5_isReady yX5_isReady, Cond.code yX5_isReady cX5_isReady 4 (some .boolean), Cond.methodLink RX5 127 yX5_money]
def wsX5_bestOf_r3 : List Cond := [Cond.instanceMethod yX5_money, Cond.selects RX5 yX5_money yX5_money, Cond.code yX5_money cX5_money 9 (some .int), Cond.fieldLink RX5 50 "TwoLakesModel" "startCost" "[I", Cond.fieldLink RX5 60 "TwoLakesModel" "prices" "[I"]
def wsX5_bestOf : List Cond := .code yX5_bestOf cX5_bestOf 9 (some .int) :: ((wsX5_bestOf_r1 ++ (wsX5_bestOf_r2 ++ wsX5_bestOf_r3)) ++ wsX50)
def wsX5_weighed : List Cond := .code yX5_weighed cX5_weighed 6 (some .int) :: ([.fieldLink RX5 69 "TwoLakesModel" "bestIn" "[I", .constant RX5 122 (-1000000000), .fieldLink RX5 57 "TwoLakesModel" "weight" "[I"] ++ wsX50)
def wsX5_laysOut_r1 : List Cond := [Cond.arrayClass .int, Cond.fieldLink RX5 78 "TwoLakesModel" "now" "I", Cond.fieldLink RX5 28 "TwoLakesModel" "in" "[I", Cond.fieldLink RX5 32 "TwoLakesModel" "out" "[I", Cond.fieldLink RX5 69 "TwoLakesModel" "bestIn" "[I", Cond.fieldLink RX5 95 "TwoLakesModel" "end" "I", Cond.fieldLink RX5 72 "TwoLakesModel" "bestAll" "[I", Cond.fieldLink RX5 92 "TwoLakesModel" "reveal" "I", Cond.methodLink RX5 115 yX5_bestOf, Cond.instanceMethod yX5_bestOf, Cond.selects RX5 yX5_bestOf yX5_bestOf, Cond.initialized RX5, Cond.code yX5_bestOf cX5_bestOf 9 (some .int), Cond.constant RX5 122 (-1000000000), Cond.methodLink RX5 131 yX5_brings, Cond.instanceMethod yX5_brings, Cond.selects RX5 yX5_brings yX5_brings, Cond.code yX5_brings cX5_brings 13 (some .int), Cond.fieldLink RX5 57 "TwoLakesModel" "weight" "[I", Cond.methodLink RX5 123 yX5_isLegal, Cond.instanceMethod yX5_isLegal, Cond.selects RX5 yX5_isLegal yX5_isLegal, Cond.code yX5_isLegal cX5_isLegal 12 (some .boolean), Cond.fieldLink RX5 7 "TwoLakesModel" "most" "I"]
def wsX5_laysOut_r2 : List Cond := [Cond.fieldLink RX5 13 "TwoLakesModel" "mostLower" "I", Cond.fieldLink RX5 22 "TwoLakesModel" "speed" "I", Cond.fieldLink RX5 25 "TwoLakesModel" "speedLower" "I", Cond.methodLink RX5 101 yX5_loses, Cond.instanceMethod yX5_loses, Cond.selects RX5 yX5_loses yX5_loses, Cond.code yX5_loses cX5_loses 4 (some .int), Cond.fieldLink RX5 38 "TwoLakesModel" "lets" "[I", Cond.fieldLink RX5 44 "TwoLakesModel" "lifts" "[I", Cond.methodLink RX5 81 yX5_within, Cond.static yX5_within, Cond.code yX5_within cX5_within 3 (some .boolean), Cond.methodLink RX5 105 yX5_far, Cond.static yX5_far, Cond.code yX5_far cX5_far 2 (some .int), Cond.methodLink RX5 108 yX5_mayGo, Cond.instanceMethod yX5_mayGo, Cond.selects RX5 yX5_mayGo yX5_mayGo, Cond.code yX5_mayGo cX5_mayGo 5 (some .boolean), Cond.fieldLink RX5 53 "TwoLakesModel" "isOut" "[Z", Cond.methodLink RX5 112 yX5_isReserved, Cond.instanceMethod yX5_isReserved, Cond.selects RX5 yX5_isReserved yX5_isReserved, Cond.code yX5_isReserved cX5_isReserved 7 (some .boolean)]
def wsX5_laysOut_r3 : List Cond := [Cond.fieldLink RX5 41 "TwoLakesModel" "gives" "[I", Cond.fieldLink RX5 47 "TwoLakesModel" "takes" "[I", Cond.fieldLink RX5 35 "TwoLakesModel" "reserves" "[I", Cond.methodLink RX5 98 yX5_isReady, Cond.instanceMethod yX5_isReady, Cond.selects RX5 yX5_isReady yX5_isReady, Cond.code yX5_isReady cX5_isReady 4 (some .boolean), Cond.methodLink RX5 127 yX5_money, Cond.instanceMethod yX5_money, Cond.selects RX5 yX5_money yX5_money, Cond.code yX5_money cX5_money 9 (some .int), Cond.fieldLink RX5 50 "TwoLakesModel" "startCost" "[I", Cond.fieldLink RX5 60 "TwoLakesModel" "prices" "[I", Cond.methodLink RX5 119 yX5_weighed, Cond.instanceMethod yX5_weighed, Cond.selects RX5 yX5_weighed yX5_weighed, Cond.code yX5_weighed cX5_weighed 6 (some .int)]
def wsX5_laysOut : List Cond := .code yX5_laysOut cX5_laysOut 6 none :: ((wsX5_laysOut_r1 ++ (wsX5_laysOut_r2 ++ wsX5_laysOut_r3)) ++ wsX50)
def wsX5_stateNow : List Cond := .code yX5_stateNow cX5_stateNow 1 (some .int) :: ([.fieldLink RX5 16 "TwoLakesModel" "upper" "I", .fieldLink RX5 63 "TwoLakesModel" "mode" "[I"] ++ wsX50)
def wsX5_worthNow_r1 : List Cond := [Cond.fieldLink RX5 16 "TwoLakesModel" "upper" "I", Cond.fieldLink RX5 19 "TwoLakesModel" "lower" "I", Cond.fieldLink RX5 72 "TwoLakesModel" "bestAll" "[I", Cond.fieldLink RX5 78 "TwoLakesModel" "now" "I", Cond.methodLink RX5 134 yX5_laysOut, Cond.instanceMethod yX5_laysOut, Cond.selects RX5 yX5_laysOut yX5_laysOut, Cond.initialized RX5, Cond.code yX5_laysOut cX5_laysOut 6 none, Cond.arrayClass .int, Cond.fieldLink RX5 28 "TwoLakesModel" "in" "[I", Cond.fieldLink RX5 32 "TwoLakesModel" "out" "[I", Cond.fieldLink RX5 69 "TwoLakesModel" "bestIn" "[I", Cond.fieldLink RX5 95 "TwoLakesModel" "end" "I", Cond.fieldLink RX5 92 "TwoLakesModel" "reveal" "I", Cond.methodLink RX5 115 yX5_bestOf, Cond.instanceMethod yX5_bestOf, Cond.selects RX5 yX5_bestOf yX5_bestOf, Cond.code yX5_bestOf cX5_bestOf 9 (some .int), Cond.constant RX5 122 (-1000000000), Cond.methodLink RX5 131 yX5_brings, Cond.instanceMethod yX5_brings, Cond.selects RX5 yX5_brings yX5_brings, Cond.code yX5_brings cX5_brings 13 (some .int)]
def wsX5_worthNow_r2 : List Cond := [Cond.fieldLink RX5 57 "TwoLakesModel" "weight" "[I", Cond.methodLink RX5 123 yX5_isLegal, Cond.instanceMethod yX5_isLegal, Cond.selects RX5 yX5_isLegal yX5_isLegal, Cond.code yX5_isLegal cX5_isLegal 12 (some .boolean), Cond.fieldLink RX5 7 "TwoLakesModel" "most" "I", Cond.fieldLink RX5 13 "TwoLakesModel" "mostLower" "I", Cond.fieldLink RX5 22 "TwoLakesModel" "speed" "I", Cond.fieldLink RX5 25 "TwoLakesModel" "speedLower" "I", Cond.methodLink RX5 101 yX5_loses, Cond.instanceMethod yX5_loses, Cond.selects RX5 yX5_loses yX5_loses, Cond.code yX5_loses cX5_loses 4 (some .int), Cond.fieldLink RX5 38 "TwoLakesModel" "lets" "[I", Cond.fieldLink RX5 44 "TwoLakesModel" "lifts" "[I", Cond.methodLink RX5 81 yX5_within, Cond.static yX5_within, Cond.code yX5_within cX5_within 3 (some .boolean), Cond.methodLink RX5 105 yX5_far, Cond.static yX5_far, Cond.code yX5_far cX5_far 2 (some .int), Cond.methodLink RX5 108 yX5_mayGo, Cond.instanceMethod yX5_mayGo, Cond.selects RX5 yX5_mayGo yX5_mayGo]
def wsX5_worthNow_r3 : List Cond := [Cond.code yX5_mayGo cX5_mayGo 5 (some .boolean), Cond.fieldLink RX5 53 "TwoLakesModel" "isOut" "[Z", Cond.methodLink RX5 112 yX5_isReserved, Cond.instanceMethod yX5_isReserved, Cond.selects RX5 yX5_isReserved yX5_isReserved, Cond.code yX5_isReserved cX5_isReserved 7 (some .boolean), Cond.fieldLink RX5 41 "TwoLakesModel" "gives" "[I", Cond.fieldLink RX5 47 "TwoLakesModel" "takes" "[I", Cond.fieldLink RX5 35 "TwoLakesModel" "reserves" "[I", Cond.methodLink RX5 98 yX5_isReady, Cond.instanceMethod yX5_isReady, Cond.selects RX5 yX5_isReady yX5_isReady, Cond.code yX5_isReady cX5_isReady 4 (some .boolean), Cond.methodLink RX5 127 yX5_money, Cond.instanceMethod yX5_money, Cond.selects RX5 yX5_money yX5_money, Cond.code yX5_money cX5_money 9 (some .int), Cond.fieldLink RX5 50 "TwoLakesModel" "startCost" "[I", Cond.fieldLink RX5 60 "TwoLakesModel" "prices" "[I", Cond.methodLink RX5 119 yX5_weighed, Cond.instanceMethod yX5_weighed, Cond.selects RX5 yX5_weighed yX5_weighed, Cond.code yX5_weighed cX5_weighed 6 (some .int), Cond.methodLink RX5 138 yX5_stateNow]
def wsX5_worthNow_r4 : List Cond := [Cond.instanceMethod yX5_stateNow, Cond.selects RX5 yX5_stateNow yX5_stateNow, Cond.code yX5_stateNow cX5_stateNow 1 (some .int), Cond.fieldLink RX5 63 "TwoLakesModel" "mode" "[I"]
def wsX5_worthNow : List Cond := .code yX5_worthNow cX5_worthNow 1 (some .int) :: ((wsX5_worthNow_r1 ++ (wsX5_worthNow_r2 ++ (wsX5_worthNow_r3 ++ wsX5_worthNow_r4))) ++ wsX50)
def wsX5_worth_r1 : List Cond := [Cond.fieldLink RX5 75 "TwoLakesModel" "thrown" "I", Cond.methodLink RX5 142 yX5_worthNow, Cond.instanceMethod yX5_worthNow, Cond.selects RX5 yX5_worthNow yX5_worthNow, Cond.initialized RX5, Cond.code yX5_worthNow cX5_worthNow 1 (some .int), Cond.fieldLink RX5 16 "TwoLakesModel" "upper" "I", Cond.fieldLink RX5 19 "TwoLakesModel" "lower" "I", Cond.fieldLink RX5 72 "TwoLakesModel" "bestAll" "[I", Cond.fieldLink RX5 78 "TwoLakesModel" "now" "I", Cond.methodLink RX5 134 yX5_laysOut, Cond.instanceMethod yX5_laysOut, Cond.selects RX5 yX5_laysOut yX5_laysOut, Cond.code yX5_laysOut cX5_laysOut 6 none, Cond.arrayClass .int, Cond.fieldLink RX5 28 "TwoLakesModel" "in" "[I", Cond.fieldLink RX5 32 "TwoLakesModel" "out" "[I", Cond.fieldLink RX5 69 "TwoLakesModel" "bestIn" "[I", Cond.fieldLink RX5 95 "TwoLakesModel" "end" "I", Cond.fieldLink RX5 92 "TwoLakesModel" "reveal" "I", Cond.methodLink RX5 115 yX5_bestOf, Cond.instanceMethod yX5_bestOf, Cond.selects RX5 yX5_bestOf yX5_bestOf, Cond.code yX5_bestOf cX5_bestOf 9 (some .int)]
def wsX5_worth_r2 : List Cond := [Cond.constant RX5 122 (-1000000000), Cond.methodLink RX5 131 yX5_brings, Cond.instanceMethod yX5_brings, Cond.selects RX5 yX5_brings yX5_brings, Cond.code yX5_brings cX5_brings 13 (some .int), Cond.fieldLink RX5 57 "TwoLakesModel" "weight" "[I", Cond.methodLink RX5 123 yX5_isLegal, Cond.instanceMethod yX5_isLegal, Cond.selects RX5 yX5_isLegal yX5_isLegal, Cond.code yX5_isLegal cX5_isLegal 12 (some .boolean), Cond.fieldLink RX5 7 "TwoLakesModel" "most" "I", Cond.fieldLink RX5 13 "TwoLakesModel" "mostLower" "I", Cond.fieldLink RX5 22 "TwoLakesModel" "speed" "I", Cond.fieldLink RX5 25 "TwoLakesModel" "speedLower" "I", Cond.methodLink RX5 101 yX5_loses, Cond.instanceMethod yX5_loses, Cond.selects RX5 yX5_loses yX5_loses, Cond.code yX5_loses cX5_loses 4 (some .int), Cond.fieldLink RX5 38 "TwoLakesModel" "lets" "[I", Cond.fieldLink RX5 44 "TwoLakesModel" "lifts" "[I", Cond.methodLink RX5 81 yX5_within, Cond.static yX5_within, Cond.code yX5_within cX5_within 3 (some .boolean), Cond.methodLink RX5 105 yX5_far]
def wsX5_worth_r3 : List Cond := [Cond.static yX5_far, Cond.code yX5_far cX5_far 2 (some .int), Cond.methodLink RX5 108 yX5_mayGo, Cond.instanceMethod yX5_mayGo, Cond.selects RX5 yX5_mayGo yX5_mayGo, Cond.code yX5_mayGo cX5_mayGo 5 (some .boolean), Cond.fieldLink RX5 53 "TwoLakesModel" "isOut" "[Z", Cond.methodLink RX5 112 yX5_isReserved, Cond.instanceMethod yX5_isReserved, Cond.selects RX5 yX5_isReserved yX5_isReserved, Cond.code yX5_isReserved cX5_isReserved 7 (some .boolean), Cond.fieldLink RX5 41 "TwoLakesModel" "gives" "[I", Cond.fieldLink RX5 47 "TwoLakesModel" "takes" "[I", Cond.fieldLink RX5 35 "TwoLakesModel" "reserves" "[I", Cond.methodLink RX5 98 yX5_isReady, Cond.instanceMethod yX5_isReady, Cond.selects RX5 yX5_isReady yX5_isReady, Cond.code yX5_isReady cX5_isReady 4 (some .boolean), Cond.methodLink RX5 127 yX5_money, Cond.instanceMethod yX5_money, Cond.selects RX5 yX5_money yX5_money, Cond.code yX5_money cX5_money 9 (some .int), Cond.fieldLink RX5 50 "TwoLakesModel" "startCost" "[I", Cond.fieldLink RX5 60 "TwoLakesModel" "prices" "[I"]
def wsX5_worth_r4 : List Cond := [Cond.methodLink RX5 119 yX5_weighed, Cond.instanceMethod yX5_weighed, Cond.selects RX5 yX5_weighed yX5_weighed, Cond.code yX5_weighed cX5_weighed 6 (some .int), Cond.methodLink RX5 138 yX5_stateNow, Cond.instanceMethod yX5_stateNow, Cond.selects RX5 yX5_stateNow yX5_stateNow, Cond.code yX5_stateNow cX5_stateNow 1 (some .int), Cond.fieldLink RX5 63 "TwoLakesModel" "mode" "[I"]
def wsX5_worth : List Cond := .code yX5_worth cX5_worth 1 (some .int) :: ((wsX5_worth_r1 ++ (wsX5_worth_r2 ++ (wsX5_worth_r3 ++ wsX5_worth_r4))) ++ wsX50)
def wsX5_doing_r1 : List Cond := [Cond.fieldLink RX5 16 "TwoLakesModel" "upper" "I", Cond.fieldLink RX5 19 "TwoLakesModel" "lower" "I", Cond.fieldLink RX5 78 "TwoLakesModel" "now" "I", Cond.fieldLink RX5 92 "TwoLakesModel" "reveal" "I", Cond.constant RX5 122 (-1000000000), Cond.methodLink RX5 134 yX5_laysOut, Cond.instanceMethod yX5_laysOut, Cond.selects RX5 yX5_laysOut yX5_laysOut, Cond.initialized RX5, Cond.code yX5_laysOut cX5_laysOut 6 none, Cond.arrayClass .int, Cond.fieldLink RX5 28 "TwoLakesModel" "in" "[I", Cond.fieldLink RX5 32 "TwoLakesModel" "out" "[I", Cond.fieldLink RX5 69 "TwoLakesModel" "bestIn" "[I", Cond.fieldLink RX5 95 "TwoLakesModel" "end" "I", Cond.fieldLink RX5 72 "TwoLakesModel" "bestAll" "[I", Cond.methodLink RX5 115 yX5_bestOf, Cond.instanceMethod yX5_bestOf, Cond.selects RX5 yX5_bestOf yX5_bestOf, Cond.code yX5_bestOf cX5_bestOf 9 (some .int), Cond.methodLink RX5 131 yX5_brings, Cond.instanceMethod yX5_brings, Cond.selects RX5 yX5_brings yX5_brings, Cond.code yX5_brings cX5_brings 13 (some .int)]
def wsX5_doing_r2 : List Cond := [Cond.fieldLink RX5 57 "TwoLakesModel" "weight" "[I", Cond.methodLink RX5 123 yX5_isLegal, Cond.instanceMethod yX5_isLegal, Cond.selects RX5 yX5_isLegal yX5_isLegal, Cond.code yX5_isLegal cX5_isLegal 12 (some .boolean), Cond.fieldLink RX5 7 "TwoLakesModel" "most" "I", Cond.fieldLink RX5 13 "TwoLakesModel" "mostLower" "I", Cond.fieldLink RX5 22 "TwoLakesModel" "speed" "I", Cond.fieldLink RX5 25 "TwoLakesModel" "speedLower" "I", Cond.methodLink RX5 101 yX5_loses, Cond.instanceMethod yX5_loses, Cond.selects RX5 yX5_loses yX5_loses, Cond.code yX5_loses cX5_loses 4 (some .int), Cond.fieldLink RX5 38 "TwoLakesModel" "lets" "[I", Cond.fieldLink RX5 44 "TwoLakesModel" "lifts" "[I", Cond.methodLink RX5 81 yX5_within, Cond.static yX5_within, Cond.code yX5_within cX5_within 3 (some .boolean), Cond.methodLink RX5 105 yX5_far, Cond.static yX5_far, Cond.code yX5_far cX5_far 2 (some .int), Cond.methodLink RX5 108 yX5_mayGo, Cond.instanceMethod yX5_mayGo, Cond.selects RX5 yX5_mayGo yX5_mayGo]
def wsX5_doing_r3 : List Cond := [Cond.code yX5_mayGo cX5_mayGo 5 (some .boolean), Cond.fieldLink RX5 53 "TwoLakesModel" "isOut" "[Z", Cond.methodLink RX5 112 yX5_isReserved, Cond.instanceMethod yX5_isReserved, Cond.selects RX5 yX5_isReserved yX5_isReserved, Cond.code yX5_isReserved cX5_isReserved 7 (some .boolean), Cond.fieldLink RX5 41 "TwoLakesModel" "gives" "[I", Cond.fieldLink RX5 47 "TwoLakesModel" "takes" "[I", Cond.fieldLink RX5 35 "TwoLakesModel" "reserves" "[I", Cond.methodLink RX5 98 yX5_isReady, Cond.instanceMethod yX5_isReady, Cond.selects RX5 yX5_isReady yX5_isReady, Cond.code yX5_isReady cX5_isReady 4 (some .boolean), Cond.methodLink RX5 127 yX5_money, Cond.instanceMethod yX5_money, Cond.selects RX5 yX5_money yX5_money, Cond.code yX5_money cX5_money 9 (some .int), Cond.fieldLink RX5 50 "TwoLakesModel" "startCost" "[I", Cond.fieldLink RX5 60 "TwoLakesModel" "prices" "[I", Cond.methodLink RX5 119 yX5_weighed, Cond.instanceMethod yX5_weighed, Cond.selects RX5 yX5_weighed yX5_weighed, Cond.code yX5_weighed cX5_weighed 6 (some .int), Cond.methodLink RX5 138 yX5_stateNow]
def wsX5_doing_r4 : List Cond := [Cond.instanceMethod yX5_stateNow, Cond.selects RX5 yX5_stateNow yX5_stateNow, Cond.code yX5_stateNow cX5_stateNow 1 (some .int), Cond.fieldLink RX5 63 "TwoLakesModel" "mode" "[I"]
def wsX5_doing : List Cond := .code yX5_doing cX5_doing 5 (some .int) :: ((wsX5_doing_r1 ++ (wsX5_doing_r2 ++ (wsX5_doing_r3 ++ wsX5_doing_r4))) ++ wsX50)
def wsX5_mode_r1 : List Cond := [Cond.fieldLink RX5 75 "TwoLakesModel" "thrown" "I", Cond.fieldLink RX5 78 "TwoLakesModel" "now" "I", Cond.methodLink RX5 89 yX5_isWorld, Cond.static yX5_isWorld, Cond.initialized RX5, Cond.code yX5_isWorld cX5_isWorld 1 (some .boolean), Cond.methodLink RX5 81 yX5_within, Cond.static yX5_within, Cond.code yX5_within cX5_within 3 (some .boolean), Cond.methodLink RX5 145 yX5_doing, Cond.instanceMethod yX5_doing, Cond.selects RX5 yX5_doing yX5_doing, Cond.code yX5_doing cX5_doing 5 (some .int), Cond.fieldLink RX5 16 "TwoLakesModel" "upper" "I", Cond.fieldLink RX5 19 "TwoLakesModel" "lower" "I", Cond.fieldLink RX5 92 "TwoLakesModel" "reveal" "I", Cond.constant RX5 122 (-1000000000), Cond.methodLink RX5 134 yX5_laysOut, Cond.instanceMethod yX5_laysOut, Cond.selects RX5 yX5_laysOut yX5_laysOut, Cond.code yX5_laysOut cX5_laysOut 6 none, Cond.arrayClass .int, Cond.fieldLink RX5 28 "TwoLakesModel" "in" "[I", Cond.fieldLink RX5 32 "TwoLakesModel" "out" "[I"]
def wsX5_mode_r2 : List Cond := [Cond.fieldLink RX5 69 "TwoLakesModel" "bestIn" "[I", Cond.fieldLink RX5 95 "TwoLakesModel" "end" "I", Cond.fieldLink RX5 72 "TwoLakesModel" "bestAll" "[I", Cond.methodLink RX5 115 yX5_bestOf, Cond.instanceMethod yX5_bestOf, Cond.selects RX5 yX5_bestOf yX5_bestOf, Cond.code yX5_bestOf cX5_bestOf 9 (some .int), Cond.methodLink RX5 131 yX5_brings, Cond.instanceMethod yX5_brings, Cond.selects RX5 yX5_brings yX5_brings, Cond.code yX5_brings cX5_brings 13 (some .int), Cond.fieldLink RX5 57 "TwoLakesModel" "weight" "[I", Cond.methodLink RX5 123 yX5_isLegal, Cond.instanceMethod yX5_isLegal, Cond.selects RX5 yX5_isLegal yX5_isLegal, Cond.code yX5_isLegal cX5_isLegal 12 (some .boolean), Cond.fieldLink RX5 7 "TwoLakesModel" "most" "I", Cond.fieldLink RX5 13 "TwoLakesModel" "mostLower" "I", Cond.fieldLink RX5 22 "TwoLakesModel" "speed" "I", Cond.fieldLink RX5 25 "TwoLakesModel" "speedLower" "I", Cond.methodLink RX5 101 yX5_loses, Cond.instanceMethod yX5_loses, Cond.selects RX5 yX5_loses yX5_loses, Cond.code yX5_loses cX5_loses 4 (some .int)]
def wsX5_mode_r3 : List Cond := [Cond.fieldLink RX5 38 "TwoLakesModel" "lets" "[I", Cond.fieldLink RX5 44 "TwoLakesModel" "lifts" "[I", Cond.methodLink RX5 105 yX5_far, Cond.static yX5_far, Cond.code yX5_far cX5_far 2 (some .int), Cond.methodLink RX5 108 yX5_mayGo, Cond.instanceMethod yX5_mayGo, Cond.selects RX5 yX5_mayGo yX5_mayGo, Cond.code yX5_mayGo cX5_mayGo 5 (some .boolean), Cond.fieldLink RX5 53 "TwoLakesModel" "isOut" "[Z", Cond.methodLink RX5 112 yX5_isReserved, Cond.instanceMethod yX5_isReserved, Cond.selects RX5 yX5_isReserved yX5_isReserved, Cond.code yX5_isReserved cX5_isReserved 7 (some .boolean), Cond.fieldLink RX5 41 "TwoLakesModel" "gives" "[I", Cond.fieldLink RX5 47 "TwoLakesModel" "takes" "[I", Cond.fieldLink RX5 35 "TwoLakesModel" "reserves" "[I", Cond.methodLink RX5 98 yX5_isReady, Cond.instanceMethod yX5_isReady, Cond.selects RX5 yX5_isReady yX5_isReady, Cond.code yX5_isReady cX5_isReady 4 (some .boolean), Cond.methodLink RX5 127 yX5_money, Cond.instanceMethod yX5_money, Cond.selects RX5 yX5_money yX5_money]
def wsX5_mode_r4 : List Cond := [Cond.code yX5_money cX5_money 9 (some .int), Cond.fieldLink RX5 50 "TwoLakesModel" "startCost" "[I", Cond.fieldLink RX5 60 "TwoLakesModel" "prices" "[I", Cond.methodLink RX5 119 yX5_weighed, Cond.instanceMethod yX5_weighed, Cond.selects RX5 yX5_weighed yX5_weighed, Cond.code yX5_weighed cX5_weighed 6 (some .int), Cond.methodLink RX5 138 yX5_stateNow, Cond.instanceMethod yX5_stateNow, Cond.selects RX5 yX5_stateNow yX5_stateNow, Cond.code yX5_stateNow cX5_stateNow 1 (some .int), Cond.fieldLink RX5 63 "TwoLakesModel" "mode" "[I"]
def wsX5_mode : List Cond := .code yX5_mode cX5_mode 4 (some .int) :: ((wsX5_mode_r1 ++ (wsX5_mode_r2 ++ (wsX5_mode_r3 ++ wsX5_mode_r4))) ++ wsX50)
def wsX5_water_r1 : List Cond := [Cond.fieldLink RX5 75 "TwoLakesModel" "thrown" "I", Cond.fieldLink RX5 7 "TwoLakesModel" "most" "I", Cond.constant RX5 122 (-1000000000), Cond.fieldLink RX5 19 "TwoLakesModel" "lower" "I", Cond.fieldLink RX5 72 "TwoLakesModel" "bestAll" "[I", Cond.fieldLink RX5 78 "TwoLakesModel" "now" "I", Cond.fieldLink RX5 63 "TwoLakesModel" "mode" "[I", Cond.methodLink RX5 134 yX5_laysOut, Cond.instanceMethod yX5_laysOut, Cond.selects RX5 yX5_laysOut yX5_laysOut, Cond.initialized RX5, Cond.code yX5_laysOut cX5_laysOut 6 none, Cond.arrayClass .int, Cond.fieldLink RX5 28 "TwoLakesModel" "in" "[I", Cond.fieldLink RX5 32 "TwoLakesModel" "out" "[I", Cond.fieldLink RX5 69 "TwoLakesModel" "bestIn" "[I", Cond.fieldLink RX5 95 "TwoLakesModel" "end" "I", Cond.fieldLink RX5 92 "TwoLakesModel" "reveal" "I", Cond.methodLink RX5 115 yX5_bestOf, Cond.instanceMethod yX5_bestOf, Cond.selects RX5 yX5_bestOf yX5_bestOf, Cond.code yX5_bestOf cX5_bestOf 9 (some .int), Cond.methodLink RX5 131 yX5_brings, Cond.instanceMethod yX5_brings]
def wsX5_water_r2 : List Cond := [Cond.selects RX5 yX5_brings yX5_brings, Cond.code yX5_brings cX5_brings 13 (some .int), Cond.fieldLink RX5 57 "TwoLakesModel" "weight" "[I", Cond.methodLink RX5 123 yX5_isLegal, Cond.instanceMethod yX5_isLegal, Cond.selects RX5 yX5_isLegal yX5_isLegal, Cond.code yX5_isLegal cX5_isLegal 12 (some .boolean), Cond.fieldLink RX5 13 "TwoLakesModel" "mostLower" "I", Cond.fieldLink RX5 22 "TwoLakesModel" "speed" "I", Cond.fieldLink RX5 25 "TwoLakesModel" "speedLower" "I", Cond.methodLink RX5 101 yX5_loses, Cond.instanceMethod yX5_loses, Cond.selects RX5 yX5_loses yX5_loses, Cond.code yX5_loses cX5_loses 4 (some .int), Cond.fieldLink RX5 38 "TwoLakesModel" "lets" "[I", Cond.fieldLink RX5 44 "TwoLakesModel" "lifts" "[I", Cond.methodLink RX5 81 yX5_within, Cond.static yX5_within, Cond.code yX5_within cX5_within 3 (some .boolean), Cond.methodLink RX5 105 yX5_far, Cond.static yX5_far, Cond.code yX5_far cX5_far 2 (some .int), Cond.methodLink RX5 108 yX5_mayGo, Cond.instanceMethod yX5_mayGo]
def wsX5_water_r3 : List Cond := [Cond.selects RX5 yX5_mayGo yX5_mayGo, Cond.code yX5_mayGo cX5_mayGo 5 (some .boolean), Cond.fieldLink RX5 53 "TwoLakesModel" "isOut" "[Z", Cond.methodLink RX5 112 yX5_isReserved, Cond.instanceMethod yX5_isReserved, Cond.selects RX5 yX5_isReserved yX5_isReserved, Cond.code yX5_isReserved cX5_isReserved 7 (some .boolean), Cond.fieldLink RX5 41 "TwoLakesModel" "gives" "[I", Cond.fieldLink RX5 47 "TwoLakesModel" "takes" "[I", Cond.fieldLink RX5 35 "TwoLakesModel" "reserves" "[I", Cond.methodLink RX5 98 yX5_isReady, Cond.instanceMethod yX5_isReady, Cond.selects RX5 yX5_isReady yX5_isReady, Cond.code yX5_isReady cX5_isReady 4 (some .boolean), Cond.methodLink RX5 127 yX5_money, Cond.instanceMethod yX5_money, Cond.selects RX5 yX5_money yX5_money, Cond.code yX5_money cX5_money 9 (some .int), Cond.fieldLink RX5 50 "TwoLakesModel" "startCost" "[I", Cond.fieldLink RX5 60 "TwoLakesModel" "prices" "[I", Cond.methodLink RX5 119 yX5_weighed, Cond.instanceMethod yX5_weighed, Cond.selects RX5 yX5_weighed yX5_weighed, Cond.code yX5_weighed cX5_weighed 6 (some .int)]
def wsX5_water : List Cond := .code yX5_water cX5_water 4 (some .int) :: ((wsX5_water_r1 ++ (wsX5_water_r2 ++ wsX5_water_r3)) ++ wsX50)
def wsX5_areModes : List Cond := .code yX5_areModes cX5_areModes 2 (some .boolean) :: ([.methodLink RX5 81 yX5_within, .static yX5_within, .initialized RX5, .code yX5_within cX5_within 3 (some .boolean)])
def wsX5_isLegalNow_r1 : List Cond := [Cond.fieldLink RX5 78 "TwoLakesModel" "now" "I", Cond.fieldLink RX5 16 "TwoLakesModel" "upper" "I", Cond.fieldLink RX5 19 "TwoLakesModel" "lower" "I", Cond.fieldLink RX5 63 "TwoLakesModel" "mode" "[I", Cond.methodLink RX5 123 yX5_isLegal, Cond.instanceMethod yX5_isLegal, Cond.selects RX5 yX5_isLegal yX5_isLegal, Cond.initialized RX5, Cond.code yX5_isLegal cX5_isLegal 12 (some .boolean), Cond.fieldLink RX5 28 "TwoLakesModel" "in" "[I", Cond.fieldLink RX5 32 "TwoLakesModel" "out" "[I", Cond.fieldLink RX5 7 "TwoLakesModel" "most" "I", Cond.fieldLink RX5 13 "TwoLakesModel" "mostLower" "I", Cond.fieldLink RX5 22 "TwoLakesModel" "speed" "I", Cond.fieldLink RX5 25 "TwoLakesModel" "speedLower" "I", Cond.methodLink RX5 101 yX5_loses, Cond.instanceMethod yX5_loses, Cond.selects RX5 yX5_loses yX5_loses, Cond.code yX5_loses cX5_loses 4 (some .int), Cond.fieldLink RX5 38 "TwoLakesModel" "lets" "[I", Cond.fieldLink RX5 44 "TwoLakesModel" "lifts" "[I", Cond.methodLink RX5 81 yX5_within, Cond.static yX5_within, Cond.code yX5_within cX5_within 3 (some .boolean)]
def wsX5_isLegalNow_r2 : List Cond := [Cond.methodLink RX5 105 yX5_far, Cond.static yX5_far, Cond.code yX5_far cX5_far 2 (some .int), Cond.methodLink RX5 108 yX5_mayGo, Cond.instanceMethod yX5_mayGo, Cond.selects RX5 yX5_mayGo yX5_mayGo, Cond.code yX5_mayGo cX5_mayGo 5 (some .boolean), Cond.fieldLink RX5 53 "TwoLakesModel" "isOut" "[Z", Cond.methodLink RX5 112 yX5_isReserved, Cond.instanceMethod yX5_isReserved, Cond.selects RX5 yX5_isReserved yX5_isReserved, Cond.code yX5_isReserved cX5_isReserved 7 (some .boolean), Cond.fieldLink RX5 41 "TwoLakesModel" "gives" "[I", Cond.fieldLink RX5 47 "TwoLakesModel" "takes" "[I", Cond.fieldLink RX5 35 "TwoLakesModel" "reserves" "[I", Cond.methodLink RX5 98 yX5_isReady, Cond.instanceMethod yX5_isReady, Cond.selects RX5 yX5_isReady yX5_isReady, Cond.code yX5_isReady cX5_isReady 4 (some .boolean)]
def wsX5_isLegalNow : List Cond := .code yX5_isLegalNow cX5_isLegalNow 3 (some .boolean) :: ((wsX5_isLegalNow_r1 ++ wsX5_isLegalNow_r2) ++ wsX50)
def wsX5_legal_r1 : List Cond := [Cond.fieldLink RX5 75 "TwoLakesModel" "thrown" "I", Cond.fieldLink RX5 78 "TwoLakesModel" "now" "I", Cond.methodLink RX5 149 yX5_areModes, Cond.static yX5_areModes, Cond.initialized RX5, Cond.code yX5_areModes cX5_areModes 2 (some .boolean), Cond.methodLink RX5 81 yX5_within, Cond.static yX5_within, Cond.code yX5_within cX5_within 3 (some .boolean), Cond.methodLink RX5 153 yX5_isLegalNow, Cond.instanceMethod yX5_isLegalNow, Cond.selects RX5 yX5_isLegalNow yX5_isLegalNow, Cond.code yX5_isLegalNow cX5_isLegalNow 3 (some .boolean), Cond.fieldLink RX5 16 "TwoLakesModel" "upper" "I", Cond.fieldLink RX5 19 "TwoLakesModel" "lower" "I", Cond.fieldLink RX5 63 "TwoLakesModel" "mode" "[I", Cond.methodLink RX5 123 yX5_isLegal, Cond.instanceMethod yX5_isLegal, Cond.selects RX5 yX5_isLegal yX5_isLegal, Cond.code yX5_isLegal cX5_isLegal 12 (some .boolean), Cond.fieldLink RX5 28 "TwoLakesModel" "in" "[I", Cond.fieldLink RX5 32 "TwoLakesModel" "out" "[I", Cond.fieldLink RX5 7 "TwoLakesModel" "most" "I", Cond.fieldLink RX5 13 "TwoLakesModel" "mostLower" "I"]
def wsX5_legal_r2 : List Cond := [Cond.fieldLink RX5 22 "TwoLakesModel" "speed" "I", Cond.fieldLink RX5 25 "TwoLakesModel" "speedLower" "I", Cond.methodLink RX5 101 yX5_loses, Cond.instanceMethod yX5_loses, Cond.selects RX5 yX5_loses yX5_loses, Cond.code yX5_loses cX5_loses 4 (some .int), Cond.fieldLink RX5 38 "TwoLakesModel" "lets" "[I", Cond.fieldLink RX5 44 "TwoLakesModel" "lifts" "[I", Cond.methodLink RX5 105 yX5_far, Cond.static yX5_far, Cond.code yX5_far cX5_far 2 (some .int), Cond.methodLink RX5 108 yX5_mayGo, Cond.instanceMethod yX5_mayGo, Cond.selects RX5 yX5_mayGo yX5_mayGo, Cond.code yX5_mayGo cX5_mayGo 5 (some .boolean), Cond.fieldLink RX5 53 "TwoLakesModel" "isOut" "[Z", Cond.methodLink RX5 112 yX5_isReserved, Cond.instanceMethod yX5_isReserved, Cond.selects RX5 yX5_isReserved yX5_isReserved, Cond.code yX5_isReserved cX5_isReserved 7 (some .boolean), Cond.fieldLink RX5 41 "TwoLakesModel" "gives" "[I", Cond.fieldLink RX5 47 "TwoLakesModel" "takes" "[I", Cond.fieldLink RX5 35 "TwoLakesModel" "reserves" "[I", Cond.methodLink RX5 98 yX5_isReady]
def wsX5_legal_r3 : List Cond := [Cond.instanceMethod yX5_isReady, Cond.selects RX5 yX5_isReady yX5_isReady, Cond.code yX5_isReady cX5_isReady 4 (some .boolean)]
def wsX5_legal : List Cond := .code yX5_legal cX5_legal 3 (some .int) :: ((wsX5_legal_r1 ++ (wsX5_legal_r2 ++ wsX5_legal_r3)) ++ wsX50)
def wsX5_does : List Cond := .code yX5_does cX5_does 6 (some .int) :: ([.fieldLink RX5 78 "TwoLakesModel" "now" "I", .fieldLink RX5 63 "TwoLakesModel" "mode" "[I", .fieldLink RX5 66 "TwoLakesModel" "started" "[I", .fieldLink RX5 16 "TwoLakesModel" "upper" "I", .fieldLink RX5 28 "TwoLakesModel" "in" "[I", .fieldLink RX5 19 "TwoLakesModel" "lower" "I", .fieldLink RX5 32 "TwoLakesModel" "out" "[I", .fieldLink RX5 156 "TwoLakesModel" "purse" "I", .methodLink RX5 127 yX5_money, .instanceMethod yX5_money, .selects RX5 yX5_money yX5_money, .initialized RX5, .code yX5_money cX5_money 9 (some .int), .fieldLink RX5 41 "TwoLakesModel" "gives" "[I", .fieldLink RX5 47 "TwoLakesModel" "takes" "[I", .fieldLink RX5 50 "TwoLakesModel" "startCost" "[I", .fieldLink RX5 60 "TwoLakesModel" "prices" "[I", .methodLink RX5 101 yX5_loses, .instanceMethod yX5_loses, .selects RX5 yX5_loses yX5_loses, .code yX5_loses cX5_loses 4 (some .int), .fieldLink RX5 38 "TwoLakesModel" "lets" "[I", .fieldLink RX5 44 "TwoLakesModel" "lifts" "[I"] ++ wsX50)
def wsX5_done_r1 : List Cond := [Cond.fieldLink RX5 78 "TwoLakesModel" "now" "I", Cond.fieldLink RX5 75 "TwoLakesModel" "thrown" "I", Cond.methodLink RX5 149 yX5_areModes, Cond.static yX5_areModes, Cond.initialized RX5, Cond.code yX5_areModes cX5_areModes 2 (some .boolean), Cond.methodLink RX5 81 yX5_within, Cond.static yX5_within, Cond.code yX5_within cX5_within 3 (some .boolean), Cond.methodLink RX5 89 yX5_isWorld, Cond.static yX5_isWorld, Cond.code yX5_isWorld cX5_isWorld 1 (some .boolean), Cond.methodLink RX5 153 yX5_isLegalNow, Cond.instanceMethod yX5_isLegalNow, Cond.selects RX5 yX5_isLegalNow yX5_isLegalNow, Cond.code yX5_isLegalNow cX5_isLegalNow 3 (some .boolean), Cond.fieldLink RX5 16 "TwoLakesModel" "upper" "I", Cond.fieldLink RX5 19 "TwoLakesModel" "lower" "I", Cond.fieldLink RX5 63 "TwoLakesModel" "mode" "[I", Cond.methodLink RX5 123 yX5_isLegal, Cond.instanceMethod yX5_isLegal, Cond.selects RX5 yX5_isLegal yX5_isLegal, Cond.code yX5_isLegal cX5_isLegal 12 (some .boolean), Cond.fieldLink RX5 28 "TwoLakesModel" "in" "[I"]
def wsX5_done_r2 : List Cond := [Cond.fieldLink RX5 32 "TwoLakesModel" "out" "[I", Cond.fieldLink RX5 7 "TwoLakesModel" "most" "I", Cond.fieldLink RX5 13 "TwoLakesModel" "mostLower" "I", Cond.fieldLink RX5 22 "TwoLakesModel" "speed" "I", Cond.fieldLink RX5 25 "TwoLakesModel" "speedLower" "I", Cond.methodLink RX5 101 yX5_loses, Cond.instanceMethod yX5_loses, Cond.selects RX5 yX5_loses yX5_loses, Cond.code yX5_loses cX5_loses 4 (some .int), Cond.fieldLink RX5 38 "TwoLakesModel" "lets" "[I", Cond.fieldLink RX5 44 "TwoLakesModel" "lifts" "[I", Cond.methodLink RX5 105 yX5_far, Cond.static yX5_far, Cond.code yX5_far cX5_far 2 (some .int), Cond.methodLink RX5 108 yX5_mayGo, Cond.instanceMethod yX5_mayGo, Cond.selects RX5 yX5_mayGo yX5_mayGo, Cond.code yX5_mayGo cX5_mayGo 5 (some .boolean), Cond.fieldLink RX5 53 "TwoLakesModel" "isOut" "[Z", Cond.methodLink RX5 112 yX5_isReserved, Cond.instanceMethod yX5_isReserved, Cond.selects RX5 yX5_isReserved yX5_isReserved, Cond.code yX5_isReserved cX5_isReserved 7 (some .boolean), Cond.fieldLink RX5 41 "TwoLakesModel" "gives" "[I"]
def wsX5_done_r3 : List Cond := [Cond.fieldLink RX5 47 "TwoLakesModel" "takes" "[I", Cond.fieldLink RX5 35 "TwoLakesModel" "reserves" "[I", Cond.methodLink RX5 98 yX5_isReady, Cond.instanceMethod yX5_isReady, Cond.selects RX5 yX5_isReady yX5_isReady, Cond.code yX5_isReady cX5_isReady 4 (some .boolean), Cond.methodLink RX5 159 yX5_does, Cond.instanceMethod yX5_does, Cond.selects RX5 yX5_does yX5_does, Cond.code yX5_does cX5_does 6 (some .int), Cond.fieldLink RX5 66 "TwoLakesModel" "started" "[I", Cond.fieldLink RX5 156 "TwoLakesModel" "purse" "I", Cond.methodLink RX5 127 yX5_money, Cond.instanceMethod yX5_money, Cond.selects RX5 yX5_money yX5_money, Cond.code yX5_money cX5_money 9 (some .int), Cond.fieldLink RX5 50 "TwoLakesModel" "startCost" "[I", Cond.fieldLink RX5 60 "TwoLakesModel" "prices" "[I"]
def wsX5_done : List Cond := .code yX5_done cX5_done 4 (some .int) :: ((wsX5_done_r1 ++ (wsX5_done_r2 ++ wsX5_done_r3)) ++ wsX50)
def wsX5_runs_r1 : List Cond := [Cond.fieldLink RX5 75 "TwoLakesModel" "thrown" "I", Cond.fieldLink RX5 78 "TwoLakesModel" "now" "I", Cond.methodLink RX5 89 yX5_isWorld, Cond.static yX5_isWorld, Cond.initialized RX5, Cond.code yX5_isWorld cX5_isWorld 1 (some .boolean), Cond.methodLink RX5 81 yX5_within, Cond.static yX5_within, Cond.code yX5_within cX5_within 3 (some .boolean), Cond.methodLink RX5 145 yX5_doing, Cond.instanceMethod yX5_doing, Cond.selects RX5 yX5_doing yX5_doing, Cond.code yX5_doing cX5_doing 5 (some .int), Cond.fieldLink RX5 16 "TwoLakesModel" "upper" "I", Cond.fieldLink RX5 19 "TwoLakesModel" "lower" "I", Cond.fieldLink RX5 92 "TwoLakesModel" "reveal" "I", Cond.constant RX5 122 (-1000000000), Cond.methodLink RX5 134 yX5_laysOut, Cond.instanceMethod yX5_laysOut, Cond.selects RX5 yX5_laysOut yX5_laysOut, Cond.code yX5_laysOut cX5_laysOut 6 none, Cond.arrayClass .int, Cond.fieldLink RX5 28 "TwoLakesModel" "in" "[I", Cond.fieldLink RX5 32 "TwoLakesModel" "out" "[I"]
def wsX5_runs_r2 : List Cond := [Cond.fieldLink RX5 69 "TwoLakesModel" "bestIn" "[I", Cond.fieldLink RX5 95 "TwoLakesModel" "end" "I", Cond.fieldLink RX5 72 "TwoLakesModel" "bestAll" "[I", Cond.methodLink RX5 115 yX5_bestOf, Cond.instanceMethod yX5_bestOf, Cond.selects RX5 yX5_bestOf yX5_bestOf, Cond.code yX5_bestOf cX5_bestOf 9 (some .int), Cond.methodLink RX5 131 yX5_brings, Cond.instanceMethod yX5_brings, Cond.selects RX5 yX5_brings yX5_brings, Cond.code yX5_brings cX5_brings 13 (some .int), Cond.fieldLink RX5 57 "TwoLakesModel" "weight" "[I", Cond.methodLink RX5 123 yX5_isLegal, Cond.instanceMethod yX5_isLegal, Cond.selects RX5 yX5_isLegal yX5_isLegal, Cond.code yX5_isLegal cX5_isLegal 12 (some .boolean), Cond.fieldLink RX5 7 "TwoLakesModel" "most" "I", Cond.fieldLink RX5 13 "TwoLakesModel" "mostLower" "I", Cond.fieldLink RX5 22 "TwoLakesModel" "speed" "I", Cond.fieldLink RX5 25 "TwoLakesModel" "speedLower" "I", Cond.methodLink RX5 101 yX5_loses, Cond.instanceMethod yX5_loses, Cond.selects RX5 yX5_loses yX5_loses, Cond.code yX5_loses cX5_loses 4 (some .int)]
def wsX5_runs_r3 : List Cond := [Cond.fieldLink RX5 38 "TwoLakesModel" "lets" "[I", Cond.fieldLink RX5 44 "TwoLakesModel" "lifts" "[I", Cond.methodLink RX5 105 yX5_far, Cond.static yX5_far, Cond.code yX5_far cX5_far 2 (some .int), Cond.methodLink RX5 108 yX5_mayGo, Cond.instanceMethod yX5_mayGo, Cond.selects RX5 yX5_mayGo yX5_mayGo, Cond.code yX5_mayGo cX5_mayGo 5 (some .boolean), Cond.fieldLink RX5 53 "TwoLakesModel" "isOut" "[Z", Cond.methodLink RX5 112 yX5_isReserved, Cond.instanceMethod yX5_isReserved, Cond.selects RX5 yX5_isReserved yX5_isReserved, Cond.code yX5_isReserved cX5_isReserved 7 (some .boolean), Cond.fieldLink RX5 41 "TwoLakesModel" "gives" "[I", Cond.fieldLink RX5 47 "TwoLakesModel" "takes" "[I", Cond.fieldLink RX5 35 "TwoLakesModel" "reserves" "[I", Cond.methodLink RX5 98 yX5_isReady, Cond.instanceMethod yX5_isReady, Cond.selects RX5 yX5_isReady yX5_isReady, Cond.code yX5_isReady cX5_isReady 4 (some .boolean), Cond.methodLink RX5 127 yX5_money, Cond.instanceMethod yX5_money, Cond.selects RX5 yX5_money yX5_money]
def wsX5_runs_r4 : List Cond := [Cond.code yX5_money cX5_money 9 (some .int), Cond.fieldLink RX5 50 "TwoLakesModel" "startCost" "[I", Cond.fieldLink RX5 60 "TwoLakesModel" "prices" "[I", Cond.methodLink RX5 119 yX5_weighed, Cond.instanceMethod yX5_weighed, Cond.selects RX5 yX5_weighed yX5_weighed, Cond.code yX5_weighed cX5_weighed 6 (some .int), Cond.methodLink RX5 138 yX5_stateNow, Cond.instanceMethod yX5_stateNow, Cond.selects RX5 yX5_stateNow yX5_stateNow, Cond.code yX5_stateNow cX5_stateNow 1 (some .int), Cond.fieldLink RX5 63 "TwoLakesModel" "mode" "[I", Cond.methodLink RX5 159 yX5_does, Cond.instanceMethod yX5_does, Cond.selects RX5 yX5_does yX5_does, Cond.code yX5_does cX5_does 6 (some .int), Cond.fieldLink RX5 66 "TwoLakesModel" "started" "[I", Cond.fieldLink RX5 156 "TwoLakesModel" "purse" "I"]
def wsX5_runs : List Cond := .code yX5_runs cX5_runs 6 (some .int) :: ((wsX5_runs_r1 ++ (wsX5_runs_r2 ++ (wsX5_runs_r3 ++ wsX5_runs_r4))) ++ wsX50)
def wsX5_count : List Cond := .code yX5_count cX5_count 2 (some .int) :: ([.fieldLink RX5 75 "TwoLakesModel" "thrown" "I", .fieldLink RX5 78 "TwoLakesModel" "now" "I", .fieldLink RX5 16 "TwoLakesModel" "upper" "I", .fieldLink RX5 19 "TwoLakesModel" "lower" "I", .fieldLink RX5 63 "TwoLakesModel" "mode" "[I", .fieldLink RX5 156 "TwoLakesModel" "purse" "I", .fieldLink RX5 66 "TwoLakesModel" "started" "[I", .fieldLink RX5 92 "TwoLakesModel" "reveal" "I"] ++ wsX50)
def wsJ9_abs_0f7a4 : List Cond := .code yJ9_abs_0f7a4 cJ9_abs_0f7a4 1 (some .int) :: ([])
def wsJ9_max_7cf53 : List Cond := .code yJ9_max_7cf53 cJ9_max_7cf53 2 (some .int) :: ([])
def wsJ9_min_7cf53 : List Cond := .code yJ9_min_7cf53 cJ9_min_7cf53 2 (some .int) :: ([])
abbrev vwCl : List vw_C := [(RX0, TX0, 9), (RX1, TX1, 9), (RX2, TX2, 8), (RX3, TX3, 5), (RX4, TX4, 13), (RX5, TX5, 26)]
end
section
set_option maxRecDepth 20000 in
theorem ggX0_foresee_X0_lookAt : GoodIn wsX0_foresee wsX0_lookAt := goodIn_r _ [6, 1, 7, 8, 9, 10, 11, 12, 13, 14, 15, 16, 17, 18, 19, 5, 20, 21, 22, 23, 24, 25, 26, 27, 28, 29, 30, 31, 32, 33, 34, 35, 36, 37, 38, 39, 40, 41, 42, 43, 44, 45, 46, 47, 48, 49, 50, 51, 52, 53, 54, 55, 56, 57, 58, 59, 60, 61, 62, 63, 64, 65, 66, 67, 81, 82, 83, 84, 85, 86, 87, 88, 89, 90, 91, 92, 93, 94, 95, 96, 97, 98, 99, 100, 101, 102, 103, 104, 105, 106] rfl (by decide +kernel)
set_option maxRecDepth 20000 in
theorem gX0_foresee_X0_lookAt : GoodIn wsX0_foresee (wsV RX0 41 RX0 yX0_lookAt wsX0_lookAt) := goodIn_app (goodIn_r _ [2, 3, 4, 5] rfl (by decide +kernel)) ggX0_foresee_X0_lookAt
set_option maxRecDepth 20000 in
theorem ggX0_foresee_X0_countStarts : GoodIn wsX0_foresee wsX0_countStarts := goodIn_r _ [71, 72, 73, 74, 75, 5, 76, 21, 22, 77, 26, 78, 79, 80, 81, 82, 83, 84, 85, 86, 87, 88, 89, 99, 100, 101, 102, 103, 104, 105, 106] rfl (by decide +kernel)
set_option maxRecDepth 20000 in
theorem gX0_foresee_X0_countStarts : GoodIn wsX0_foresee (wsV RX0 53 RX0 yX0_countStarts wsX0_countStarts) := goodIn_app (goodIn_r _ [68, 69, 70, 5] rfl (by decide +kernel)) ggX0_foresee_X0_countStarts
set_option maxRecDepth 20000 in
theorem ggX0_lookAt_X0_measure : GoodIn wsX0_lookAt wsX0_measure := goodIn_r _ [16, 17, 18, 19, 4, 1, 20, 21, 22, 23, 24, 25, 26, 27, 28, 29, 30, 31, 64, 65, 66, 67, 68, 69, 70, 71, 72, 73, 74, 75, 76, 77, 78, 79, 80, 81, 82, 83, 84, 85, 86, 87, 88, 89] rfl (by decide +kernel)
set_option maxRecDepth 20000 in
theorem gX0_lookAt_X0_measure : GoodIn wsX0_lookAt (wsV RX0 56 RX0 yX0_measure wsX0_measure) := goodIn_app (goodIn_r _ [12, 13, 14, 15] rfl (by decide +kernel)) ggX0_lookAt_X0_measure
set_option maxRecDepth 20000 in
theorem ggX0_lookAt_X0_isForbidden : GoodIn wsX0_lookAt wsX0_isForbidden := goodIn_r _ [35, 17, 18, 4, 36, 37, 7, 38, 1, 20, 39, 22, 40, 41, 42, 43, 44, 45, 31, 30, 64, 65, 66, 67, 68, 69, 70, 71, 72, 73, 74, 75, 76, 77, 78, 79, 80, 81, 82, 83, 84, 85, 86, 87, 88, 89] rfl (by decide +kernel)
set_option maxRecDepth 20000 in
theorem gX0_lookAt_X0_isForbidden : GoodIn wsX0_lookAt (wsV RX0 59 RX0 yX0_isForbidden wsX0_isForbidden) := goodIn_app (goodIn_r _ [32, 33, 34, 15] rfl (by decide +kernel)) ggX0_lookAt_X0_isForbidden
set_option maxRecDepth 20000 in
theorem ggX0_lookAt_X1_leastUpper : GoodIn wsX0_lookAt wsX1_leastUpper := goodIn_r _ [49, 50, 51, 6, 7, 8, 73, 74, 75, 76, 77, 78, 79, 80, 81] rfl (by decide +kernel)
set_option maxRecDepth 20000 in
theorem gX0_lookAt_X1_leastUpper_n63 : GoodIn wsX0_lookAt (wsX1_leastUpper) := ggX0_lookAt_X1_leastUpper
set_option maxRecDepth 20000 in
theorem ggX0_lookAt_X0_unitsNeeded : GoodIn wsX0_lookAt wsX0_unitsNeeded := goodIn_r _ [55, 1, 17, 18, 56, 22, 57, 58, 42, 25, 64, 65, 66, 67, 68, 69, 70, 71, 72, 73, 74, 75, 76, 77, 78, 79, 80, 81, 82, 83, 84, 85, 86, 87, 88, 89] rfl (by decide +kernel)
set_option maxRecDepth 20000 in
theorem gX0_lookAt_X0_unitsNeeded : GoodIn wsX0_lookAt (wsV RX0 73 RX0 yX0_unitsNeeded wsX0_unitsNeeded) := goodIn_app (goodIn_r _ [52, 53, 54, 15] rfl (by decide +kernel)) ggX0_lookAt_X0_unitsNeeded
set_option maxRecDepth 20000 in
theorem ggX0_lookAt_X1_mostUpper : GoodIn wsX0_lookAt wsX1_mostUpper := goodIn_r _ [61, 62, 63, 10, 7, 11, 73, 74, 75, 76, 77, 78, 79, 80, 81] rfl (by decide +kernel)
set_option maxRecDepth 20000 in
theorem gX0_lookAt_X1_mostUpper_n76 : GoodIn wsX0_lookAt (wsX1_mostUpper) := ggX0_lookAt_X1_mostUpper
set_option maxRecDepth 20000 in
theorem ggX0_measure_X2_letDown : GoodIn wsX0_measure wsX2_letDown := goodIn_r _ [10, 11, 12, 36, 37, 38, 39, 40, 41, 42, 43] rfl (by decide +kernel)
set_option maxRecDepth 20000 in
theorem gX0_measure_X2_letDown_n82 : GoodIn wsX0_measure (wsX2_letDown) := ggX0_measure_X2_letDown
set_option maxRecDepth 20000 in
theorem ggX0_measure_X2_energyOf : GoodIn wsX0_measure wsX2_energyOf := goodIn_r _ [15, 16, 17, 36, 37, 38, 39, 40, 41, 42, 43] rfl (by decide +kernel)
set_option maxRecDepth 20000 in
theorem gX0_measure_X2_energyOf_n87 : GoodIn wsX0_measure (wsX2_energyOf) := ggX0_measure_X2_energyOf
set_option maxRecDepth 20000 in
theorem ggX0_isForbidden_X2_canBe : GoodIn wsX0_isForbidden wsX2_canBe := goodIn_r _ [13, 14, 38, 39, 40, 41, 42, 43, 44, 45] rfl (by decide +kernel)
set_option maxRecDepth 20000 in
theorem gX0_isForbidden_X2_canBe_n90 : GoodIn wsX0_isForbidden (wsX2_canBe) := ggX0_isForbidden_X2_canBe
set_option maxRecDepth 20000 in
theorem ggX0_isForbidden_X2_backup : GoodIn wsX0_isForbidden wsX2_backup := goodIn_r _ [17, 18, 14, 19, 38, 39, 40, 41, 42, 43, 44, 45] rfl (by decide +kernel)
set_option maxRecDepth 20000 in
theorem gX0_isForbidden_X2_backup_n103 : GoodIn wsX0_isForbidden (wsX2_backup) := ggX0_isForbidden_X2_backup
set_option maxRecDepth 20000 in
theorem ggX0_unitsNeeded_X2_unitsForBackup : GoodIn wsX0_unitsNeeded wsX2_unitsForBackup := goodIn_r _ [7, 8, 9, 28, 29, 30, 31, 32, 33, 34, 35] rfl (by decide +kernel)
set_option maxRecDepth 20000 in
theorem gX0_unitsNeeded_X2_unitsForBackup_n109 : GoodIn wsX0_unitsNeeded (wsX2_unitsForBackup) := ggX0_unitsNeeded_X2_unitsForBackup
set_option maxRecDepth 20000 in
theorem ggX0_startCost_X2_canFollow : GoodIn wsX0_startCost wsX2_canFollow := goodIn_r _ [5] rfl (by decide +kernel)
set_option maxRecDepth 20000 in
theorem gX0_startCost_X2_canFollow_n112 : GoodIn wsX0_startCost (wsX2_canFollow) := ggX0_startCost_X2_canFollow
set_option maxRecDepth 20000 in
theorem ggX0_startCost_X2_isStart : GoodIn wsX0_startCost wsX2_isStart := goodIn_r _ [7] rfl (by decide +kernel)
set_option maxRecDepth 20000 in
theorem gX0_startCost_X2_isStart_n115 : GoodIn wsX0_startCost (wsX2_isStart) := ggX0_startCost_X2_isStart
set_option maxRecDepth 20000 in
theorem ggX0_countStarts_X0_startCost : GoodIn wsX0_countStarts wsX0_startCost := goodIn_r _ [6, 7, 8, 9, 10, 11, 12, 13, 14, 15, 16, 17, 18, 19, 20, 21, 22, 23, 24, 25, 26, 27, 28, 29, 30] rfl (by decide +kernel)
set_option maxRecDepth 20000 in
theorem gX0_countStarts_X0_startCost : GoodIn wsX0_countStarts (wsV RX0 121 RX0 yX0_startCost wsX0_startCost) := goodIn_app (goodIn_r _ [2, 3, 4, 5] rfl (by decide +kernel)) ggX0_countStarts_X0_startCost
set_option maxRecDepth 20000 in
theorem ggX2_turnTo_X2_isStart : GoodIn wsX2_turnTo wsX2_isStart := goodIn_r _ [6] rfl (by decide +kernel)
set_option maxRecDepth 20000 in
theorem gX2_turnTo_X2_isStart : GoodIn wsX2_turnTo (va_wsS RX2 37 yX2_isStart wsX2_isStart) := goodIn_app (goodIn_r _ [3, 4, 5] rfl (by decide +kernel)) ggX2_turnTo_X2_isStart
set_option maxRecDepth 20000 in
theorem ggX3_init_J7_fill_53178 : GoodIn wsX3_init wsJ7_fill_53178 := goodIn_r _ [13] rfl (by decide +kernel)
set_option maxRecDepth 20000 in
theorem gX3_init_J7_fill_53178 : GoodIn wsX3_init (va_wsS RX3 28 yJ7_fill_53178 wsJ7_fill_53178) := goodIn_app (goodIn_r _ [10, 11, 12] rfl (by decide +kernel)) ggX3_init_J7_fill_53178
set_option maxRecDepth 20000 in
theorem ggX3_plan_J7_fill_53178 : GoodIn wsX3_plan wsJ7_fill_53178 := goodIn_r _ [8] rfl (by decide +kernel)
set_option maxRecDepth 20000 in
theorem gX3_plan_J7_fill_53178 : GoodIn wsX3_plan (va_wsS RX3 28 yJ7_fill_53178 wsJ7_fill_53178) := goodIn_app (goodIn_r _ [5, 6, 7] rfl (by decide +kernel)) ggX3_plan_J7_fill_53178
set_option maxRecDepth 20000 in
theorem ggX3_plan_X3_tryFromAllModes : GoodIn wsX3_plan wsX3_tryFromAllModes := goodIn_r _ [13, 14, 15, 16, 17, 18, 12, 19, 1, 3, 2, 4, 20, 21, 22, 23, 24, 25, 26, 27, 28, 29, 30, 31, 32, 33] rfl (by decide +kernel)
set_option maxRecDepth 20000 in
theorem gX3_plan_X3_tryFromAllModes : GoodIn wsX3_plan (wsV RX3 35 RX3 yX3_tryFromAllModes wsX3_tryFromAllModes) := goodIn_app (goodIn_r _ [9, 10, 11, 12] rfl (by decide +kernel)) ggX3_plan_X3_tryFromAllModes
set_option maxRecDepth 20000 in
theorem ggX3_tryFromAllModes_X3_tryAtAllLevels : GoodIn wsX3_tryFromAllModes wsX3_tryAtAllLevels := goodIn_r _ [7, 8, 9, 10, 11, 17, 18, 19, 20, 21, 22, 23, 24, 25, 12, 13, 14, 15, 16] rfl (by decide +kernel)
set_option maxRecDepth 20000 in
theorem gX3_tryFromAllModes_X3_tryAtAllLevels : GoodIn wsX3_tryFromAllModes (wsV RX3 47 RX3 yX3_tryAtAllLevels wsX3_tryAtAllLevels) := goodIn_app (goodIn_r _ [3, 4, 5, 6] rfl (by decide +kernel)) ggX3_tryFromAllModes_X3_tryAtAllLevels
set_option maxRecDepth 20000 in
theorem ggX4_init_X1_init : GoodIn wsX4_init wsX1_init := goodIn_r _ [32, 33, 2, 3, 34, 35, 36, 37, 38, 39, 22, 40, 41, 42, 80, 81, 82, 83, 84, 85, 86, 87, 88] rfl (by decide +kernel)
set_option maxRecDepth 20000 in
theorem gX4_init_X1_init_n9 : GoodIn wsX4_init (wsX1_init) := ggX4_init_X1_init
set_option maxRecDepth 20000 in
theorem ggX4_init_X2_init : GoodIn wsX4_init wsX2_init := goodIn_r _ [44, 45, 2, 3, 46, 47, 48, 49, 50, 51, 52, 53, 54, 102, 103, 104, 105, 106, 107, 108, 109] rfl (by decide +kernel)
set_option maxRecDepth 20000 in
theorem gX4_init_X2_init_n18 : GoodIn wsX4_init (wsX2_init) := ggX4_init_X2_init
set_option maxRecDepth 20000 in
theorem ggX4_init_X0_init : GoodIn wsX4_init wsX0_init := goodIn_r _ [56, 57, 2, 3, 22, 58, 59, 60, 61, 62, 63, 64, 65, 66, 110, 111, 112, 113, 114, 115, 116, 117, 118] rfl (by decide +kernel)
set_option maxRecDepth 20000 in
theorem gX4_init_X0_init_n28 : GoodIn wsX4_init (wsX0_init) := ggX4_init_X0_init
set_option maxRecDepth 20000 in
theorem ggX4_init_X3_init : GoodIn wsX4_init wsX3_init := goodIn_r _ [68, 69, 2, 3, 22, 70, 71, 72, 73, 74, 75, 76, 77, 78, 119, 120, 121, 122, 123] rfl (by decide +kernel)
set_option maxRecDepth 20000 in
theorem gX4_init_X3_init_n41 : GoodIn wsX4_init (wsX3_init) := ggX4_init_X3_init
set_option maxRecDepth 20000 in
theorem ggX4_init_J7_fill_53178 : GoodIn wsX4_init wsJ7_fill_53178 := goodIn_r _ [78] rfl (by decide +kernel)
set_option maxRecDepth 20000 in
theorem gX4_init_J7_fill_53178 : GoodIn wsX4_init (va_wsS RX4 70 yJ7_fill_53178 wsJ7_fill_53178) := goodIn_app (goodIn_r _ [79, 76, 77] rfl (by decide +kernel)) ggX4_init_J7_fill_53178
set_option maxRecDepth 20000 in
theorem ggX4_lakes_X4_within : GoodIn wsX4_lakes wsX4_within := goodIn_r _ [6] rfl (by decide +kernel)
set_option maxRecDepth 20000 in
theorem gX4_lakes_X4_within : GoodIn wsX4_lakes (va_wsS RX4 76 yX4_within wsX4_within) := goodIn_app (goodIn_r _ [3, 4, 5] rfl (by decide +kernel)) ggX4_lakes_X4_within
set_option maxRecDepth 20000 in
theorem ggX4_lakes_X4_changed : GoodIn wsX4_lakes wsX4_changed := goodIn_r _ [10, 11, 12, 13, 14, 15, 16, 17, 18, 19, 20, 21, 22, 23, 24, 25, 26, 27, 28, 29, 30] rfl (by decide +kernel)
set_option maxRecDepth 20000 in
theorem gX4_lakes_X4_changed : GoodIn wsX4_lakes (wsV RX4 92 RX4 yX4_changed wsX4_changed) := goodIn_app (goodIn_r _ [7, 8, 9, 5] rfl (by decide +kernel)) ggX4_lakes_X4_changed
set_option maxRecDepth 20000 in
theorem ggX4_speeds_X4_within : GoodIn wsX4_speeds wsX4_within := goodIn_r _ [5] rfl (by decide +kernel)
set_option maxRecDepth 20000 in
theorem gX4_speeds_X4_within : GoodIn wsX4_speeds (va_wsS RX4 76 yX4_within wsX4_within) := goodIn_app (goodIn_r _ [2, 3, 4] rfl (by decide +kernel)) ggX4_speeds_X4_within
set_option maxRecDepth 20000 in
theorem ggX4_speeds_X4_changed : GoodIn wsX4_speeds wsX4_changed := goodIn_r _ [9, 10, 11, 12, 13, 14, 15, 16, 17, 18, 19, 20, 21, 22, 23, 24, 25, 26, 27, 28, 29] rfl (by decide +kernel)
set_option maxRecDepth 20000 in
theorem gX4_speeds_X4_changed : GoodIn wsX4_speeds (wsV RX4 92 RX4 yX4_changed wsX4_changed) := goodIn_app (goodIn_r _ [6, 7, 8, 4] rfl (by decide +kernel)) ggX4_speeds_X4_changed
set_option maxRecDepth 20000 in
theorem ggX4_flows_X4_isHour : GoodIn wsX4_flows wsX4_isHour := goodIn_r _ [5, 6, 7, 4, 8] rfl (by decide +kernel)
set_option maxRecDepth 20000 in
theorem gX4_flows_X4_isHour : GoodIn wsX4_flows (va_wsS RX4 102 yX4_isHour wsX4_isHour) := goodIn_app (goodIn_r _ [2, 3, 4] rfl (by decide +kernel)) ggX4_flows_X4_isHour
set_option maxRecDepth 20000 in
theorem ggX4_flows_X4_within : GoodIn wsX4_flows wsX4_within := goodIn_r _ [8] rfl (by decide +kernel)
set_option maxRecDepth 20000 in
theorem gX4_flows_X4_within : GoodIn wsX4_flows (va_wsS RX4 76 yX4_within wsX4_within) := goodIn_app (goodIn_r _ [6, 7, 4] rfl (by decide +kernel)) ggX4_flows_X4_within
set_option maxRecDepth 20000 in
theorem ggX4_flows_X4_changed : GoodIn wsX4_flows wsX4_changed := goodIn_r _ [12, 13, 14, 15, 16, 17, 18, 19, 20, 21, 22, 23, 24, 25, 26, 27, 28, 29, 30, 31, 32] rfl (by decide +kernel)
set_option maxRecDepth 20000 in
theorem gX4_flows_X4_changed : GoodIn wsX4_flows (wsV RX4 92 RX4 yX4_changed wsX4_changed) := goodIn_app (goodIn_r _ [9, 10, 11, 4] rfl (by decide +kernel)) ggX4_flows_X4_changed
set_option maxRecDepth 20000 in
theorem ggX4_machine_X4_isMachine : GoodIn wsX4_machine wsX4_isMachine := goodIn_r _ [4, 5, 6, 3, 7] rfl (by decide +kernel)
set_option maxRecDepth 20000 in
theorem gX4_machine_X4_isMachine : GoodIn wsX4_machine (va_wsS RX4 112 yX4_isMachine wsX4_isMachine) := goodIn_app (goodIn_r _ [1, 2, 3] rfl (by decide +kernel)) ggX4_machine_X4_isMachine
set_option maxRecDepth 20000 in
theorem ggX4_machine_X4_isOfMachine : GoodIn wsX4_machine wsX4_isOfMachine := goodIn_r _ [10, 5, 6, 3, 7] rfl (by decide +kernel)
set_option maxRecDepth 20000 in
theorem gX4_machine_X4_isOfMachine : GoodIn wsX4_machine (va_wsS RX4 115 yX4_isOfMachine wsX4_isOfMachine) := goodIn_app (goodIn_r _ [8, 9, 3] rfl (by decide +kernel)) ggX4_machine_X4_isOfMachine
set_option maxRecDepth 20000 in
theorem ggX4_machine_X4_machineOf : GoodIn wsX4_machine wsX4_machineOf := goodIn_r _ [14, 15, 16, 36, 37, 38, 39, 40, 41, 42, 43, 44, 45, 46, 47, 48] rfl (by decide +kernel)
set_option maxRecDepth 20000 in
theorem gX4_machine_X4_machineOf : GoodIn wsX4_machine (wsV RX4 118 RX4 yX4_machineOf wsX4_machineOf) := goodIn_app (goodIn_r _ [11, 12, 13, 3] rfl (by decide +kernel)) ggX4_machine_X4_machineOf
set_option maxRecDepth 20000 in
theorem ggX4_machine_X4_changed : GoodIn wsX4_machine wsX4_changed := goodIn_r _ [20, 21, 22, 23, 24, 25, 26, 27, 36, 37, 38, 39, 40, 41, 42, 43, 44, 45, 46, 47, 48] rfl (by decide +kernel)
set_option maxRecDepth 20000 in
theorem gX4_machine_X4_changed : GoodIn wsX4_machine (wsV RX4 92 RX4 yX4_changed wsX4_changed) := goodIn_app (goodIn_r _ [17, 18, 19, 3] rfl (by decide +kernel)) ggX4_machine_X4_changed
set_option maxRecDepth 20000 in
theorem ggX4_out_X4_isMachine : GoodIn wsX4_out wsX4_isMachine := goodIn_r _ [4, 5, 6, 3, 7] rfl (by decide +kernel)
set_option maxRecDepth 20000 in
theorem gX4_out_X4_isMachine : GoodIn wsX4_out (va_wsS RX4 112 yX4_isMachine wsX4_isMachine) := goodIn_app (goodIn_r _ [1, 2, 3] rfl (by decide +kernel)) ggX4_out_X4_isMachine
set_option maxRecDepth 20000 in
theorem ggX4_out_X4_isHour : GoodIn wsX4_out wsX4_isHour := goodIn_r _ [10, 5, 6, 3, 7] rfl (by decide +kernel)
set_option maxRecDepth 20000 in
theorem gX4_out_X4_isHour : GoodIn wsX4_out (va_wsS RX4 102 yX4_isHour wsX4_isHour) := goodIn_app (goodIn_r _ [8, 9, 3] rfl (by decide +kernel)) ggX4_out_X4_isHour
set_option maxRecDepth 20000 in
theorem ggX4_out_X4_machineOf : GoodIn wsX4_out wsX4_machineOf := goodIn_r _ [14, 15, 16, 36, 37, 38, 39, 40, 41, 42, 43, 44, 45, 46, 47, 48] rfl (by decide +kernel)
set_option maxRecDepth 20000 in
theorem gX4_out_X4_machineOf : GoodIn wsX4_out (wsV RX4 118 RX4 yX4_machineOf wsX4_machineOf) := goodIn_app (goodIn_r _ [11, 12, 13, 3] rfl (by decide +kernel)) ggX4_out_X4_machineOf
set_option maxRecDepth 20000 in
theorem ggX4_out_X4_changed : GoodIn wsX4_out wsX4_changed := goodIn_r _ [20, 21, 22, 23, 24, 25, 26, 27, 36, 37, 38, 39, 40, 41, 42, 43, 44, 45, 46, 47, 48] rfl (by decide +kernel)
set_option maxRecDepth 20000 in
theorem gX4_out_X4_changed : GoodIn wsX4_out (wsV RX4 92 RX4 yX4_changed wsX4_changed) := goodIn_app (goodIn_r _ [17, 18, 19, 3] rfl (by decide +kernel)) ggX4_out_X4_changed
set_option maxRecDepth 20000 in
theorem ggX4_reserve_X4_isHour : GoodIn wsX4_reserve wsX4_isHour := goodIn_r _ [5, 6, 7, 4, 8] rfl (by decide +kernel)
set_option maxRecDepth 20000 in
theorem gX4_reserve_X4_isHour : GoodIn wsX4_reserve (va_wsS RX4 102 yX4_isHour wsX4_isHour) := goodIn_app (goodIn_r _ [2, 3, 4] rfl (by decide +kernel)) ggX4_reserve_X4_isHour
set_option maxRecDepth 20000 in
theorem ggX4_reserve_X4_within : GoodIn wsX4_reserve wsX4_within := goodIn_r _ [8] rfl (by decide +kernel)
set_option maxRecDepth 20000 in
theorem gX4_reserve_X4_within : GoodIn wsX4_reserve (va_wsS RX4 76 yX4_within wsX4_within) := goodIn_app (goodIn_r _ [6, 7, 4] rfl (by decide +kernel)) ggX4_reserve_X4_within
set_option maxRecDepth 20000 in
theorem ggX4_reserve_X4_changed : GoodIn wsX4_reserve wsX4_changed := goodIn_r _ [12, 13, 14, 15, 16, 17, 18, 19, 20, 21, 22, 23, 24, 25, 26, 27, 28, 29, 30, 31, 32] rfl (by decide +kernel)
set_option maxRecDepth 20000 in
theorem gX4_reserve_X4_changed : GoodIn wsX4_reserve (wsV RX4 92 RX4 yX4_changed wsX4_changed) := goodIn_app (goodIn_r _ [9, 10, 11, 4] rfl (by decide +kernel)) ggX4_reserve_X4_changed
set_option maxRecDepth 20000 in
theorem ggX4_weights_X4_within : GoodIn wsX4_weights wsX4_within := goodIn_r _ [5] rfl (by decide +kernel)
set_option maxRecDepth 20000 in
theorem gX4_weights_X4_within : GoodIn wsX4_weights (va_wsS RX4 76 yX4_within wsX4_within) := goodIn_app (goodIn_r _ [2, 3, 4] rfl (by decide +kernel)) ggX4_weights_X4_within
set_option maxRecDepth 20000 in
theorem ggX4_weights_X4_changed : GoodIn wsX4_weights wsX4_changed := goodIn_r _ [9, 10, 11, 12, 13, 14, 15, 16, 17, 18, 19, 20, 21, 22, 23, 24, 25, 26, 27, 28, 29] rfl (by decide +kernel)
set_option maxRecDepth 20000 in
theorem gX4_weights_X4_changed : GoodIn wsX4_weights (wsV RX4 92 RX4 yX4_changed wsX4_changed) := goodIn_app (goodIn_r _ [6, 7, 8, 4] rfl (by decide +kernel)) ggX4_weights_X4_changed
set_option maxRecDepth 20000 in
theorem ggX4_price_X4_isWorld : GoodIn wsX4_price wsX4_isWorld := goodIn_r _ [5, 6, 7, 4, 8] rfl (by decide +kernel)
set_option maxRecDepth 20000 in
theorem gX4_price_X4_isWorld : GoodIn wsX4_price (va_wsS RX4 144 yX4_isWorld wsX4_isWorld) := goodIn_app (goodIn_r _ [2, 3, 4] rfl (by decide +kernel)) ggX4_price_X4_isWorld
set_option maxRecDepth 20000 in
theorem ggX4_price_X4_isHour : GoodIn wsX4_price wsX4_isHour := goodIn_r _ [11, 6, 7, 4, 8] rfl (by decide +kernel)
set_option maxRecDepth 20000 in
theorem gX4_price_X4_isHour : GoodIn wsX4_price (va_wsS RX4 102 yX4_isHour wsX4_isHour) := goodIn_app (goodIn_r _ [9, 10, 4] rfl (by decide +kernel)) ggX4_price_X4_isHour
set_option maxRecDepth 20000 in
theorem ggX4_price_X4_within : GoodIn wsX4_price wsX4_within := goodIn_r _ [8] rfl (by decide +kernel)
set_option maxRecDepth 20000 in
theorem gX4_price_X4_within : GoodIn wsX4_price (va_wsS RX4 76 yX4_within wsX4_within) := goodIn_app (goodIn_r _ [6, 7, 4] rfl (by decide +kernel)) ggX4_price_X4_within
set_option maxRecDepth 20000 in
theorem ggX4_price_X4_changed : GoodIn wsX4_price wsX4_changed := goodIn_r _ [15, 16, 17, 18, 19, 20, 21, 22, 23, 24, 25, 26, 27, 28, 29, 30, 31, 32, 33, 34, 35] rfl (by decide +kernel)
set_option maxRecDepth 20000 in
theorem gX4_price_X4_changed : GoodIn wsX4_price (wsV RX4 92 RX4 yX4_changed wsX4_changed) := goodIn_app (goodIn_r _ [12, 13, 14, 4] rfl (by decide +kernel)) ggX4_price_X4_changed
set_option maxRecDepth 20000 in
theorem ggX4_reveal_X4_within : GoodIn wsX4_reveal wsX4_within := goodIn_r _ [5] rfl (by decide +kernel)
set_option maxRecDepth 20000 in
theorem gX4_reveal_X4_within : GoodIn wsX4_reveal (va_wsS RX4 76 yX4_within wsX4_within) := goodIn_app (goodIn_r _ [2, 3, 4] rfl (by decide +kernel)) ggX4_reveal_X4_within
set_option maxRecDepth 20000 in
theorem ggX4_reveal_X4_changed : GoodIn wsX4_reveal wsX4_changed := goodIn_r _ [9, 10, 11, 12, 13, 14, 15, 16, 17, 18, 19, 20, 21, 22, 23, 24, 25, 26, 27, 28, 29] rfl (by decide +kernel)
set_option maxRecDepth 20000 in
theorem gX4_reveal_X4_changed : GoodIn wsX4_reveal (wsV RX4 92 RX4 yX4_changed wsX4_changed) := goodIn_app (goodIn_r _ [6, 7, 8, 4] rfl (by decide +kernel)) ggX4_reveal_X4_changed
set_option maxRecDepth 20000 in
theorem ggX4_end_X4_within : GoodIn wsX4_end wsX4_within := goodIn_r _ [5] rfl (by decide +kernel)
set_option maxRecDepth 20000 in
theorem gX4_end_X4_within : GoodIn wsX4_end (va_wsS RX4 76 yX4_within wsX4_within) := goodIn_app (goodIn_r _ [2, 3, 4] rfl (by decide +kernel)) ggX4_end_X4_within
set_option maxRecDepth 20000 in
theorem ggX4_end_X4_changed : GoodIn wsX4_end wsX4_changed := goodIn_r _ [9, 10, 11, 12, 13, 14, 15, 16, 17, 18, 19, 20, 21, 22, 23, 24, 25, 26, 27, 28, 29] rfl (by decide +kernel)
set_option maxRecDepth 20000 in
theorem gX4_end_X4_changed : GoodIn wsX4_end (wsV RX4 92 RX4 yX4_changed wsX4_changed) := goodIn_app (goodIn_r _ [6, 7, 8, 4] rfl (by decide +kernel)) ggX4_end_X4_changed
set_option maxRecDepth 20000 in
theorem ggX4_legal_X4_isMode : GoodIn wsX4_legal wsX4_isMode := goodIn_r _ [5, 6, 7, 4, 8] rfl (by decide +kernel)
set_option maxRecDepth 20000 in
theorem gX4_legal_X4_isMode : GoodIn wsX4_legal (va_wsS RX4 150 yX4_isMode wsX4_isMode) := goodIn_app (goodIn_r _ [2, 3, 4] rfl (by decide +kernel)) ggX4_legal_X4_isMode
set_option maxRecDepth 20000 in
theorem ggX4_legal_X4_isLegalNow : GoodIn wsX4_legal wsX4_isLegalNow := goodIn_r _ [12, 13, 1, 14, 15, 16, 17, 18, 19, 20, 21, 22, 23, 24, 25, 26, 27, 28, 29, 30, 31, 32, 33, 34, 35, 36, 37, 38, 39, 40, 41, 42, 43, 44, 45, 46, 47, 48, 49, 50, 51, 52, 53, 54, 55, 56, 57, 58, 59, 60, 61, 62, 63, 64, 65, 66, 67, 68, 69, 70, 71, 72, 73, 74, 75, 76, 77, 78, 79, 80, 81, 82, 83, 4, 84, 85, 86, 87, 88, 89, 90, 91, 92, 93, 94, 95, 96, 97, 98, 99, 100, 101, 102, 103, 104, 105, 106, 107, 108, 109, 110, 111, 112, 113, 114, 115, 116, 117, 118, 119, 120, 121, 122, 123, 124, 125, 126, 127, 128, 129, 130, 131, 132, 133, 134, 135] rfl (by decide +kernel)
set_option maxRecDepth 20000 in
theorem gX4_legal_X4_isLegalNow : GoodIn wsX4_legal (wsV RX4 153 RX4 yX4_isLegalNow wsX4_isLegalNow) := goodIn_app (goodIn_r _ [9, 10, 11, 4] rfl (by decide +kernel)) ggX4_legal_X4_isLegalNow
set_option maxRecDepth 20000 in
theorem ggX4_worth_X4_worthWith : GoodIn wsX4_worth wsX4_worthWith := goodIn_r _ [6, 7, 8, 9, 10, 11, 12, 5, 13, 14, 15, 1, 16, 17, 18, 19, 20, 21, 22, 23, 24, 25, 26, 27, 28, 29, 30, 31, 32, 33, 34, 35, 36, 37, 38, 39, 40, 41, 42, 43, 44, 45, 46, 47, 48, 49, 50, 51, 52, 53, 54, 55, 56, 57, 58, 59, 60, 61, 62, 63, 64, 65, 66, 67, 68, 69, 70, 71, 72, 73, 74, 75, 76, 77, 78, 79, 80, 81, 82, 83, 84, 85, 86, 87, 88, 89, 90, 91, 92, 93, 94, 95, 96, 97, 98, 99, 100, 101, 102, 103, 104, 105, 106, 107, 108, 109, 110, 111, 112, 113, 114, 115, 116, 117, 118, 119, 120, 121, 122, 123, 124, 125, 126, 127, 128, 129, 130, 131, 132, 133, 134, 135, 136, 137, 138, 139, 140, 141, 142, 143, 144, 145, 146, 147, 148, 149, 150, 151, 152, 153, 154, 155, 156, 157, 158, 159, 169, 170, 171, 172, 173, 160, 161, 162, 163, 164, 165, 166, 167, 168, 174, 175, 176, 177, 178, 179, 180, 181, 182, 183, 184, 185, 186, 187, 188, 189, 190] rfl (by decide +kernel)
set_option maxRecDepth 20000 in
theorem gX4_worth_X4_worthWith : GoodIn wsX4_worth (wsV RX4 156 RX4 yX4_worthWith wsX4_worthWith) := goodIn_app (goodIn_r _ [2, 3, 4, 5] rfl (by decide +kernel)) ggX4_worth_X4_worthWith
set_option maxRecDepth 20000 in
theorem ggX4_mode_X4_isWorld : GoodIn wsX4_mode wsX4_isWorld := goodIn_r _ [5, 6, 7, 4, 8] rfl (by decide +kernel)
set_option maxRecDepth 20000 in
theorem gX4_mode_X4_isWorld : GoodIn wsX4_mode (va_wsS RX4 144 yX4_isWorld wsX4_isWorld) := goodIn_app (goodIn_r _ [2, 3, 4] rfl (by decide +kernel)) ggX4_mode_X4_isWorld
set_option maxRecDepth 20000 in
theorem ggX4_mode_X4_isMachine : GoodIn wsX4_mode wsX4_isMachine := goodIn_r _ [11, 6, 7, 4, 8] rfl (by decide +kernel)
set_option maxRecDepth 20000 in
theorem gX4_mode_X4_isMachine : GoodIn wsX4_mode (va_wsS RX4 112 yX4_isMachine wsX4_isMachine) := goodIn_app (goodIn_r _ [9, 10, 4] rfl (by decide +kernel)) ggX4_mode_X4_isMachine
set_option maxRecDepth 20000 in
theorem ggX4_mode_X4_bestDoing : GoodIn wsX4_mode wsX4_bestDoing := goodIn_r _ [15, 1, 16, 17, 18, 19, 20, 21, 22, 23, 24, 25, 4, 26, 27, 28, 29, 30, 31, 32, 33, 34, 35, 36, 37, 38, 39, 40, 41, 42, 43, 44, 45, 46, 47, 48, 49, 50, 51, 52, 53, 54, 55, 56, 57, 58, 59, 60, 61, 62, 63, 64, 65, 66, 67, 68, 69, 70, 71, 72, 73, 74, 75, 76, 77, 78, 79, 80, 81, 82, 83, 84, 85, 86, 87, 88, 89, 90, 91, 92, 93, 94, 95, 96, 97, 98, 99, 100, 101, 102, 103, 104, 105, 106, 107, 108, 109, 110, 111, 112, 113, 114, 115, 116, 117, 118, 119, 120, 121, 122, 123, 124, 125, 126, 127, 128, 129, 130, 131, 132, 133, 134, 135, 136, 137, 138, 139, 140, 141, 142, 143, 144, 145, 146, 147, 148, 149, 150, 151, 152, 153, 154, 155, 156, 157, 158, 159, 160, 161, 162, 163, 164, 165, 166, 167, 168, 169, 170, 171, 172, 173, 174, 175, 176, 177, 178, 179, 180, 181, 182, 183, 184, 185, 186, 187, 188, 189, 190, 191, 192, 193, 194, 195, 196, 197, 198, 199] rfl (by decide +kernel)
set_option maxRecDepth 20000 in
theorem gX4_mode_X4_bestDoing : GoodIn wsX4_mode (wsV RX4 160 RX4 yX4_bestDoing wsX4_bestDoing) := goodIn_app (goodIn_r _ [12, 13, 14, 4] rfl (by decide +kernel)) ggX4_mode_X4_bestDoing
set_option maxRecDepth 20000 in
theorem ggX4_water_X4_within : GoodIn wsX4_water wsX4_within := goodIn_r _ [6] rfl (by decide +kernel)
set_option maxRecDepth 20000 in
theorem gX4_water_X4_within : GoodIn wsX4_water (va_wsS RX4 76 yX4_within wsX4_within) := goodIn_app (goodIn_r _ [3, 4, 5] rfl (by decide +kernel)) ggX4_water_X4_within
set_option maxRecDepth 20000 in
theorem ggX4_water_X4_worthWith : GoodIn wsX4_water wsX4_worthWith := goodIn_r _ [10, 11, 12, 13, 14, 15, 16, 5, 17, 18, 19, 1, 20, 21, 22, 23, 24, 25, 26, 27, 28, 29, 30, 31, 32, 33, 34, 35, 36, 37, 38, 39, 40, 41, 42, 43, 44, 45, 46, 47, 48, 49, 50, 51, 52, 53, 54, 55, 56, 57, 58, 59, 60, 61, 62, 63, 64, 65, 66, 67, 68, 69, 70, 71, 72, 73, 74, 75, 76, 77, 78, 79, 80, 81, 82, 83, 84, 85, 86, 87, 88, 89, 90, 91, 92, 93, 94, 95, 96, 97, 98, 99, 100, 101, 102, 103, 104, 105, 106, 107, 108, 109, 110, 111, 112, 113, 114, 115, 116, 117, 118, 119, 120, 121, 122, 123, 124, 125, 126, 127, 128, 129, 130, 131, 132, 133, 134, 135, 136, 137, 138, 139, 140, 141, 142, 143, 144, 145, 146, 147, 148, 149, 150, 151, 152, 153, 154, 155, 156, 157, 158, 159, 160, 161, 162, 163, 173, 174, 175, 176, 177, 164, 165, 166, 167, 168, 169, 170, 171, 172, 178, 179, 180, 181, 182, 183, 184, 185, 186, 187, 188, 189, 190, 191, 192, 193, 194] rfl (by decide +kernel)
set_option maxRecDepth 20000 in
theorem gX4_water_X4_worthWith : GoodIn wsX4_water (wsV RX4 156 RX4 yX4_worthWith wsX4_worthWith) := goodIn_app (goodIn_r _ [7, 8, 9, 5] rfl (by decide +kernel)) ggX4_water_X4_worthWith
set_option maxRecDepth 20000 in
theorem ggX4_runs_X4_within : GoodIn wsX4_runs wsX4_within := goodIn_r _ [5] rfl (by decide +kernel)
set_option maxRecDepth 20000 in
theorem gX4_runs_X4_within : GoodIn wsX4_runs (va_wsS RX4 76 yX4_within wsX4_within) := goodIn_app (goodIn_r _ [2, 3, 4] rfl (by decide +kernel)) ggX4_runs_X4_within
set_option maxRecDepth 20000 in
theorem ggX4_runs_X4_isWorld : GoodIn wsX4_runs wsX4_isWorld := goodIn_r _ [8, 2, 3, 4, 5] rfl (by decide +kernel)
set_option maxRecDepth 20000 in
theorem gX4_runs_X4_isWorld : GoodIn wsX4_runs (va_wsS RX4 144 yX4_isWorld wsX4_isWorld) := goodIn_app (goodIn_r _ [6, 7, 4] rfl (by decide +kernel)) ggX4_runs_X4_isWorld
set_option maxRecDepth 20000 in
theorem ggX4_runs_X4_bestDoing : GoodIn wsX4_runs wsX4_bestDoing := goodIn_r _ [12, 1, 13, 14, 15, 16, 17, 18, 19, 20, 21, 22, 4, 23, 24, 25, 26, 27, 28, 29, 30, 31, 32, 33, 34, 35, 36, 37, 38, 39, 40, 41, 42, 43, 44, 45, 46, 47, 48, 49, 50, 51, 52, 53, 54, 55, 56, 57, 58, 59, 60, 61, 62, 63, 64, 65, 66, 67, 68, 69, 70, 71, 72, 73, 74, 75, 76, 77, 78, 79, 80, 81, 82, 83, 84, 85, 86, 87, 88, 89, 90, 91, 92, 93, 94, 95, 96, 97, 98, 99, 100, 101, 102, 103, 104, 105, 106, 107, 108, 109, 110, 111, 112, 113, 114, 115, 116, 117, 118, 119, 120, 121, 122, 123, 124, 125, 126, 127, 128, 129, 130, 131, 132, 133, 134, 135, 136, 137, 138, 139, 140, 141, 142, 143, 144, 145, 146, 147, 148, 149, 150, 151, 152, 169, 170, 171, 172, 173, 174, 175, 176, 177, 178, 179, 180, 181, 182, 183, 184, 185, 186, 187, 188, 189, 190, 191, 192, 193, 194, 195, 196, 197, 198, 199, 200, 201, 202, 203, 204, 205, 206, 207, 208, 209, 210, 211, 212] rfl (by decide +kernel)
set_option maxRecDepth 20000 in
theorem gX4_runs_X4_bestDoing : GoodIn wsX4_runs (wsV RX4 160 RX4 yX4_bestDoing wsX4_bestDoing) := goodIn_app (goodIn_r _ [9, 10, 11, 4] rfl (by decide +kernel)) ggX4_runs_X4_bestDoing
set_option maxRecDepth 20000 in
theorem ggX4_runs_X4_carryOut : GoodIn wsX4_runs wsX4_carryOut := goodIn_r _ [156, 17, 1, 16, 19, 151, 152, 157, 31, 26, 32, 33, 29, 34, 35, 36, 37, 38, 39, 40, 41, 42, 43, 44, 45, 46, 47, 48, 49, 50, 51, 52, 53, 54, 55, 56, 57, 58, 59, 60, 61, 62, 63, 64, 65, 66, 67, 68, 69, 70, 71, 72, 73, 74, 75, 76, 77, 78, 79, 80, 81, 82, 83, 84, 85, 86, 87, 88, 89, 90, 91, 92, 93, 94, 147, 148, 149, 4, 150, 101, 102, 103, 104, 105, 106, 107, 158, 159, 160, 161, 162, 163, 164, 165, 166, 167, 168, 15, 14, 143, 126, 127, 128, 169, 170, 171, 172, 173, 174, 175, 176, 177, 178, 179, 180, 181, 182, 183, 184, 185, 186, 187, 188, 189, 190, 191, 192, 193, 194, 195, 196, 197, 198, 199, 200, 201, 202, 203, 204, 205, 206, 207, 208, 209, 210, 211, 212] rfl (by decide +kernel)
set_option maxRecDepth 20000 in
theorem gX4_runs_X4_carryOut : GoodIn wsX4_runs (wsV RX4 173 RX4 yX4_carryOut wsX4_carryOut) := goodIn_app (goodIn_r _ [153, 154, 155, 4] rfl (by decide +kernel)) ggX4_runs_X4_carryOut
set_option maxRecDepth 20000 in
theorem ggX4_isHour_X4_within : GoodIn wsX4_isHour wsX4_within := goodIn_r _ [4] rfl (by decide +kernel)
set_option maxRecDepth 20000 in
theorem gX4_isHour_X4_within : GoodIn wsX4_isHour (va_wsS RX4 76 yX4_within wsX4_within) := goodIn_app (goodIn_r _ [1, 2, 3] rfl (by decide +kernel)) ggX4_isHour_X4_within
set_option maxRecDepth 20000 in
theorem ggX4_isWorld_X4_within : GoodIn wsX4_isWorld wsX4_within := goodIn_r _ [4] rfl (by decide +kernel)
set_option maxRecDepth 20000 in
theorem gX4_isWorld_X4_within : GoodIn wsX4_isWorld (va_wsS RX4 76 yX4_within wsX4_within) := goodIn_app (goodIn_r _ [1, 2, 3] rfl (by decide +kernel)) ggX4_isWorld_X4_within
set_option maxRecDepth 20000 in
theorem ggX4_isMachine_X4_within : GoodIn wsX4_isMachine wsX4_within := goodIn_r _ [4] rfl (by decide +kernel)
set_option maxRecDepth 20000 in
theorem gX4_isMachine_X4_within : GoodIn wsX4_isMachine (va_wsS RX4 76 yX4_within wsX4_within) := goodIn_app (goodIn_r _ [1, 2, 3] rfl (by decide +kernel)) ggX4_isMachine_X4_within
set_option maxRecDepth 20000 in
theorem ggX4_isMode_X4_within : GoodIn wsX4_isMode wsX4_within := goodIn_r _ [4] rfl (by decide +kernel)
set_option maxRecDepth 20000 in
theorem gX4_isMode_X4_within : GoodIn wsX4_isMode (va_wsS RX4 76 yX4_within wsX4_within) := goodIn_app (goodIn_r _ [1, 2, 3] rfl (by decide +kernel)) ggX4_isMode_X4_within
set_option maxRecDepth 20000 in
theorem ggX4_isOfMachine_X4_within : GoodIn wsX4_isOfMachine wsX4_within := goodIn_r _ [4] rfl (by decide +kernel)
set_option maxRecDepth 20000 in
theorem gX4_isOfMachine_X4_within : GoodIn wsX4_isOfMachine (va_wsS RX4 76 yX4_within wsX4_within) := goodIn_app (goodIn_r _ [1, 2, 3] rfl (by decide +kernel)) ggX4_isOfMachine_X4_within
set_option maxRecDepth 20000 in
theorem ggX4_changed_J7_fill_53178 : GoodIn wsX4_changed wsJ7_fill_53178 := goodIn_r _ [7] rfl (by decide +kernel)
set_option maxRecDepth 20000 in
theorem gX4_changed_J7_fill_53178 : GoodIn wsX4_changed (va_wsS RX4 70 yJ7_fill_53178 wsJ7_fill_53178) := goodIn_app (goodIn_r _ [4, 5, 6] rfl (by decide +kernel)) ggX4_changed_J7_fill_53178
set_option maxRecDepth 20000 in
theorem ggX4_isLegalNow_X0_lookAt : GoodIn wsX4_isLegalNow wsX0_lookAt := goodIn_r _ [7, 8, 9, 10, 11, 12, 13, 14, 15, 16, 17, 18, 19, 20, 21, 5, 22, 23, 24, 25, 26, 27, 28, 29, 30, 31, 32, 33, 34, 35, 36, 37, 38, 39, 40, 41, 42, 43, 44, 45, 46, 47, 48, 49, 50, 51, 52, 53, 54, 55, 56, 57, 58, 59, 60, 61, 62, 63, 64, 65, 66, 67, 68, 69, 109, 110, 111, 112, 113, 114, 115, 116, 117, 100, 101, 102, 103, 104, 105, 106, 107, 108, 118, 119, 120, 121, 122, 123, 124, 125] rfl (by decide +kernel)
set_option maxRecDepth 20000 in
theorem gX4_isLegalNow_X0_lookAt_n183 : GoodIn wsX4_isLegalNow (wsX0_lookAt) := ggX4_isLegalNow_X0_lookAt
set_option maxRecDepth 20000 in
theorem ggX4_isLegalNow_X4_modesNow : GoodIn wsX4_isLegalNow wsX4_modesNow := goodIn_r _ [74, 75, 76, 87, 88, 89, 90, 91, 92, 93, 94, 95, 96, 97, 98, 99, 118, 119, 120, 121, 122, 123, 124, 125] rfl (by decide +kernel)
set_option maxRecDepth 20000 in
theorem gX4_isLegalNow_X4_modesNow : GoodIn wsX4_isLegalNow (wsV RX4 187 RX4 yX4_modesNow wsX4_modesNow) := goodIn_app (goodIn_r _ [70, 71, 72, 73] rfl (by decide +kernel)) ggX4_isLegalNow_X4_modesNow
set_option maxRecDepth 20000 in
theorem ggX4_isLegalNow_X0_startCost : GoodIn wsX4_isLegalNow wsX0_startCost := goodIn_r _ [79, 23, 24, 80, 28, 81, 82, 83, 109, 110, 111, 112, 113, 114, 115, 116, 117, 118, 119, 120, 121, 122, 123, 124, 125] rfl (by decide +kernel)
set_option maxRecDepth 20000 in
theorem gX4_isLegalNow_X0_startCost_n191 : GoodIn wsX4_isLegalNow (wsX0_startCost) := ggX4_isLegalNow_X0_startCost
set_option maxRecDepth 20000 in
theorem ggX4_isLegalNow_X0_isOpen : GoodIn wsX4_isLegalNow wsX0_isOpen := goodIn_r _ [86, 9, 10, 109, 110, 111, 112, 113, 114, 115, 116, 117] rfl (by decide +kernel)
set_option maxRecDepth 20000 in
theorem gX4_isLegalNow_X0_isOpen_n193 : GoodIn wsX4_isLegalNow (wsX0_isOpen) := ggX4_isLegalNow_X0_isOpen
set_option maxRecDepth 20000 in
theorem ggX4_carryOut_X0_lookAt : GoodIn wsX4_carryOut wsX0_lookAt := goodIn_r _ [11, 12, 13, 14, 15, 16, 17, 18, 19, 20, 21, 22, 23, 24, 25, 9, 26, 27, 28, 29, 30, 31, 32, 33, 34, 35, 36, 37, 38, 39, 40, 41, 42, 43, 44, 45, 46, 47, 48, 49, 50, 51, 52, 53, 54, 55, 56, 57, 58, 59, 60, 61, 62, 63, 64, 65, 66, 67, 68, 69, 70, 71, 72, 73, 130, 131, 132, 133, 134, 135, 136, 137, 138, 116, 117, 118, 119, 120, 121, 122, 123, 124, 139, 140, 141, 142, 143, 144, 145, 146] rfl (by decide +kernel)
set_option maxRecDepth 20000 in
theorem gX4_carryOut_X0_lookAt_n183 : GoodIn wsX4_carryOut (wsX0_lookAt) := ggX4_carryOut_X0_lookAt
set_option maxRecDepth 20000 in
theorem ggX4_carryOut_X4_modesNow : GoodIn wsX4_carryOut wsX4_modesNow := goodIn_r _ [78, 5, 6, 103, 104, 105, 106, 107, 108, 109, 110, 111, 112, 113, 114, 115, 139, 140, 141, 142, 143, 144, 145, 146] rfl (by decide +kernel)
set_option maxRecDepth 20000 in
theorem gX4_carryOut_X4_modesNow : GoodIn wsX4_carryOut (wsV RX4 187 RX4 yX4_modesNow wsX4_modesNow) := goodIn_app (goodIn_r _ [74, 75, 76, 77] rfl (by decide +kernel)) ggX4_carryOut_X4_modesNow
set_option maxRecDepth 20000 in
theorem ggX4_carryOut_X0_startCost : GoodIn wsX4_carryOut wsX0_startCost := goodIn_r _ [81, 27, 28, 82, 32, 83, 84, 85, 130, 131, 132, 133, 134, 135, 136, 137, 138, 139, 140, 141, 142, 143, 144, 145, 146] rfl (by decide +kernel)
set_option maxRecDepth 20000 in
theorem gX4_carryOut_X0_startCost_n191 : GoodIn wsX4_carryOut (wsX0_startCost) := ggX4_carryOut_X0_startCost
set_option maxRecDepth 20000 in
theorem ggX4_carryOut_X2_turnTo : GoodIn wsX4_carryOut wsX2_turnTo := goodIn_r _ [88, 89, 90, 91, 84, 32, 85, 139, 140, 141, 142, 143, 144, 145, 146] rfl (by decide +kernel)
set_option maxRecDepth 20000 in
theorem gX4_carryOut_X2_turnTo_n206 : GoodIn wsX4_carryOut (wsX2_turnTo) := ggX4_carryOut_X2_turnTo
set_option maxRecDepth 20000 in
theorem ggX4_carryOut_X4_changed : GoodIn wsX4_carryOut wsX4_changed := goodIn_r _ [95, 96, 97, 98, 99, 100, 101, 102, 103, 104, 105, 106, 107, 108, 109, 110, 111, 112, 113, 114, 115] rfl (by decide +kernel)
set_option maxRecDepth 20000 in
theorem gX4_carryOut_X4_changed : GoodIn wsX4_carryOut (wsV RX4 92 RX4 yX4_changed wsX4_changed) := goodIn_app (goodIn_r _ [92, 93, 94, 77] rfl (by decide +kernel)) ggX4_carryOut_X4_changed
set_option maxRecDepth 20000 in
theorem ggX4_worthWith_X4_planAll : GoodIn wsX4_worthWith wsX4_planAll := goodIn_r _ [8, 9, 10, 11, 12, 3, 13, 14, 15, 16, 17, 18, 19, 20, 21, 22, 23, 24, 25, 26, 27, 28, 29, 30, 31, 32, 33, 34, 35, 36, 37, 38, 39, 40, 41, 42, 43, 44, 45, 46, 47, 48, 49, 50, 51, 52, 53, 54, 55, 56, 57, 58, 59, 60, 61, 62, 63, 64, 65, 66, 67, 68, 69, 70, 71, 72, 73, 74, 75, 76, 77, 78, 79, 80, 81, 82, 83, 84, 85, 86, 87, 88, 89, 90, 91, 92, 93, 94, 95, 96, 97, 98, 99, 7, 100, 101, 102, 103, 104, 105, 106, 107, 108, 109, 110, 111, 112, 113, 114, 115, 116, 117, 118, 119, 120, 121, 122, 123, 124, 125, 126, 127, 128, 129, 130, 131, 132, 133, 134, 135, 136, 143, 144, 145, 146, 147, 148, 149, 150, 151, 152, 153, 154, 155, 161, 162, 163, 164, 165, 166, 167, 168, 169, 170, 171, 172, 173, 174, 175, 176, 177, 178, 179, 180, 181, 182, 183, 184, 185, 186, 156, 157, 158, 159, 160] rfl (by decide +kernel)
set_option maxRecDepth 20000 in
theorem gX4_worthWith_X4_planAll : GoodIn wsX4_worthWith (wsV RX4 210 RX4 yX4_planAll wsX4_planAll) := goodIn_app (goodIn_r _ [4, 5, 6, 7] rfl (by decide +kernel)) ggX4_worthWith_X4_planAll
set_option maxRecDepth 20000 in
theorem ggX4_worthWith_X4_modesNow : GoodIn wsX4_worthWith wsX4_modesNow := goodIn_r _ [140, 141, 142, 143, 144, 145, 146, 147, 148, 149, 150, 151, 152, 153, 154, 155, 179, 180, 181, 182, 183, 184, 185, 186] rfl (by decide +kernel)
set_option maxRecDepth 20000 in
theorem gX4_worthWith_X4_modesNow : GoodIn wsX4_worthWith (wsV RX4 187 RX4 yX4_modesNow wsX4_modesNow) := goodIn_app (goodIn_r _ [137, 138, 139, 7] rfl (by decide +kernel)) ggX4_worthWith_X4_modesNow
set_option maxRecDepth 20000 in
theorem ggX4_bestDoing_X4_planAll : GoodIn wsX4_bestDoing wsX4_planAll := goodIn_r _ [13, 6, 1, 5, 14, 7, 2, 15, 16, 17, 18, 19, 20, 21, 22, 23, 24, 25, 26, 27, 28, 29, 30, 31, 32, 33, 34, 35, 36, 37, 38, 39, 40, 41, 42, 43, 44, 45, 46, 47, 48, 49, 50, 51, 52, 53, 54, 55, 56, 57, 58, 59, 60, 61, 62, 63, 64, 65, 66, 67, 68, 69, 70, 71, 72, 73, 74, 75, 76, 77, 78, 79, 80, 81, 82, 83, 84, 85, 86, 87, 88, 89, 90, 91, 92, 93, 94, 95, 96, 97, 98, 99, 100, 12, 101, 8, 102, 103, 104, 105, 106, 107, 108, 109, 110, 111, 112, 113, 114, 115, 116, 117, 118, 119, 120, 121, 122, 123, 124, 125, 126, 127, 128, 129, 130, 131, 132, 133, 134, 135, 136, 143, 144, 145, 146, 147, 148, 149, 150, 151, 152, 153, 154, 155, 156, 157, 158, 159, 160, 161, 162, 163, 164, 170, 171, 172, 173, 174, 175, 176, 177, 178, 179, 180, 181, 182, 183, 184, 185, 186, 165, 166, 167, 168, 169] rfl (by decide +kernel)
set_option maxRecDepth 20000 in
theorem gX4_bestDoing_X4_planAll : GoodIn wsX4_bestDoing (wsV RX4 210 RX4 yX4_planAll wsX4_planAll) := goodIn_app (goodIn_r _ [9, 10, 11, 12] rfl (by decide +kernel)) ggX4_bestDoing_X4_planAll
set_option maxRecDepth 20000 in
theorem ggX4_bestDoing_X0_foresee : GoodIn wsX4_bestDoing wsX0_foresee := goodIn_r _ [18, 19, 20, 21, 22, 16, 23, 24, 25, 26, 27, 28, 29, 30, 31, 32, 33, 34, 35, 36, 37, 38, 39, 40, 41, 42, 43, 44, 45, 46, 47, 48, 49, 50, 51, 52, 53, 54, 55, 56, 57, 58, 59, 60, 61, 62, 63, 64, 65, 66, 67, 68, 69, 70, 71, 72, 73, 74, 75, 76, 77, 78, 79, 80, 81, 82, 83, 84, 85, 86, 87, 88, 89, 90, 91, 92, 93, 94, 95, 96, 97, 170, 171, 172, 173, 174, 175, 176, 177, 178, 156, 157, 158, 159, 160, 161, 162, 163, 164, 179, 180, 181, 182, 183, 184, 185, 186] rfl (by decide +kernel)
set_option maxRecDepth 20000 in
theorem gX4_bestDoing_X0_foresee_n216 : GoodIn wsX4_bestDoing (wsX0_foresee) := ggX4_bestDoing_X0_foresee
set_option maxRecDepth 20000 in
theorem ggX4_bestDoing_X4_planWorld : GoodIn wsX4_bestDoing wsX4_planWorld := goodIn_r _ [101, 8, 102, 6, 1, 2, 103, 28, 29, 30, 104, 105, 106, 107, 108, 109, 110, 111, 112, 113, 114, 115, 116, 117, 118, 119, 120, 121, 122, 123, 124, 125, 126, 127, 128, 143, 144, 145, 146, 147, 148, 149, 150, 151, 152, 153, 154, 155, 165, 166, 167, 168, 169, 170, 171, 172, 173, 174, 175, 176, 177, 178] rfl (by decide +kernel)
set_option maxRecDepth 20000 in
theorem gX4_bestDoing_X4_planWorld : GoodIn wsX4_bestDoing (wsV RX4 219 RX4 yX4_planWorld wsX4_planWorld) := goodIn_app (goodIn_r _ [98, 99, 100, 12] rfl (by decide +kernel)) ggX4_bestDoing_X4_planWorld
set_option maxRecDepth 20000 in
theorem ggX4_bestDoing_X4_modesNow : GoodIn wsX4_bestDoing wsX4_modesNow := goodIn_r _ [140, 141, 142, 143, 144, 145, 146, 147, 148, 149, 150, 151, 152, 153, 154, 155, 179, 180, 181, 182, 183, 184, 185, 186] rfl (by decide +kernel)
set_option maxRecDepth 20000 in
theorem gX4_bestDoing_X4_modesNow : GoodIn wsX4_bestDoing (wsV RX4 187 RX4 yX4_modesNow wsX4_modesNow) := goodIn_app (goodIn_r _ [137, 138, 139, 12] rfl (by decide +kernel)) ggX4_bestDoing_X4_modesNow
set_option maxRecDepth 20000 in
theorem ggX4_planAll_X0_foresee : GoodIn wsX4_planAll wsX0_foresee := goodIn_r _ [10, 11, 12, 13, 14, 8, 15, 16, 17, 18, 19, 20, 21, 22, 23, 24, 25, 26, 27, 28, 29, 30, 31, 32, 33, 34, 35, 36, 37, 38, 39, 40, 41, 42, 43, 44, 45, 46, 47, 48, 49, 50, 51, 52, 53, 54, 55, 56, 57, 58, 59, 60, 61, 62, 63, 64, 65, 66, 67, 68, 69, 70, 71, 72, 73, 74, 75, 76, 77, 78, 79, 80, 81, 82, 83, 84, 85, 86, 87, 88, 89, 153, 154, 155, 156, 157, 158, 159, 160, 161, 144, 145, 146, 147, 148, 149, 150, 151, 152, 162, 163, 164, 165, 166, 167, 168, 169] rfl (by decide +kernel)
set_option maxRecDepth 20000 in
theorem gX4_planAll_X0_foresee_n216 : GoodIn wsX4_planAll (wsX0_foresee) := ggX4_planAll_X0_foresee
set_option maxRecDepth 20000 in
theorem ggX4_planAll_X4_planWorld : GoodIn wsX4_planAll wsX4_planWorld := goodIn_r _ [94, 95, 96, 1, 2, 6, 97, 20, 21, 22, 98, 99, 100, 101, 102, 103, 104, 105, 106, 107, 108, 109, 110, 111, 112, 113, 114, 115, 116, 117, 118, 119, 120, 121, 122, 131, 132, 133, 134, 135, 136, 137, 138, 139, 140, 141, 142, 143, 170, 171, 172, 173, 174, 153, 154, 155, 156, 157, 158, 159, 160, 161] rfl (by decide +kernel)
set_option maxRecDepth 20000 in
theorem gX4_planAll_X4_planWorld : GoodIn wsX4_planAll (wsV RX4 219 RX4 yX4_planWorld wsX4_planWorld) := goodIn_app (goodIn_r _ [90, 91, 92, 93] rfl (by decide +kernel)) ggX4_planAll_X4_planWorld
set_option maxRecDepth 20000 in
theorem ggX4_planAll_X4_mixWorlds : GoodIn wsX4_planAll wsX4_mixWorlds := goodIn_r _ [126, 5, 4, 95, 127, 110, 111, 112, 128, 99, 129, 130, 118, 117, 102, 107, 131, 132, 133, 134, 135, 136, 137, 138, 139, 140, 141, 142, 143, 170, 171, 172, 173, 174] rfl (by decide +kernel)
set_option maxRecDepth 20000 in
theorem gX4_planAll_X4_mixWorlds : GoodIn wsX4_planAll (wsV RX4 225 RX4 yX4_mixWorlds wsX4_mixWorlds) := goodIn_app (goodIn_r _ [123, 124, 125, 93] rfl (by decide +kernel)) ggX4_planAll_X4_mixWorlds
set_option maxRecDepth 20000 in
theorem ggX4_planAll_X3_plan : GoodIn wsX4_planAll wsX3_plan := goodIn_r _ [105, 106, 102, 107, 108, 109, 110, 111, 112, 113, 114, 115, 99, 116, 117, 118, 119, 120, 121, 122, 170, 171, 172, 173, 174, 153, 154, 155, 156, 157, 158, 159, 160, 161] rfl (by decide +kernel)
set_option maxRecDepth 20000 in
theorem gX4_planAll_X3_plan_n228 : GoodIn wsX4_planAll (wsX3_plan) := ggX4_planAll_X3_plan
set_option maxRecDepth 20000 in
theorem ggX4_planWorld_X3_endWith : GoodIn wsX4_planWorld wsX3_endWith := goodIn_r _ [13, 14, 48, 49, 50, 51, 52] rfl (by decide +kernel)
set_option maxRecDepth 20000 in
theorem gX4_planWorld_X3_endWith_n232 : GoodIn wsX4_planWorld (wsX3_endWith) := ggX4_planWorld_X3_endWith
set_option maxRecDepth 20000 in
theorem ggX4_planWorld_X3_plan : GoodIn wsX4_planWorld wsX3_plan := goodIn_r _ [17, 18, 14, 19, 20, 21, 22, 23, 24, 25, 26, 27, 11, 28, 29, 30, 31, 32, 33, 34, 48, 49, 50, 51, 52, 53, 54, 55, 56, 57, 58, 59, 60, 61] rfl (by decide +kernel)
set_option maxRecDepth 20000 in
theorem gX4_planWorld_X3_plan_n228 : GoodIn wsX4_planWorld (wsX3_plan) := ggX4_planWorld_X3_plan
set_option maxRecDepth 20000 in
theorem ggX4_mixWorlds_J7_fill_53178 : GoodIn wsX4_mixWorlds wsJ7_fill_53178 := goodIn_r _ [7] rfl (by decide +kernel)
set_option maxRecDepth 20000 in
theorem gX4_mixWorlds_J7_fill_53178 : GoodIn wsX4_mixWorlds (va_wsS RX4 70 yJ7_fill_53178 wsJ7_fill_53178) := goodIn_app (goodIn_r _ [4, 5, 6] rfl (by decide +kernel)) ggX4_mixWorlds_J7_fill_53178
set_option maxRecDepth 20000 in
theorem ggX4_mixWorlds_X3_mixIn : GoodIn wsX4_mixWorlds wsX3_mixIn := goodIn_r _ [11, 12, 13, 14, 15, 29, 30, 31, 32, 33] rfl (by decide +kernel)
set_option maxRecDepth 20000 in
theorem gX4_mixWorlds_X3_mixIn_n243 : GoodIn wsX4_mixWorlds (wsX3_mixIn) := ggX4_mixWorlds_X3_mixIn
set_option maxRecDepth 20000 in
theorem ggX5_lakes_X5_within : GoodIn wsX5_lakes wsX5_within := goodIn_r _ [10] rfl (by decide +kernel)
set_option maxRecDepth 20000 in
theorem gX5_lakes_X5_within : GoodIn wsX5_lakes (va_wsS RX5 81 yX5_within wsX5_within) := goodIn_app (goodIn_r _ [7, 8, 9] rfl (by decide +kernel)) ggX5_lakes_X5_within
set_option maxRecDepth 20000 in
theorem ggX5_speeds_X5_within : GoodIn wsX5_speeds wsX5_within := goodIn_r _ [7] rfl (by decide +kernel)
set_option maxRecDepth 20000 in
theorem gX5_speeds_X5_within : GoodIn wsX5_speeds (va_wsS RX5 81 yX5_within wsX5_within) := goodIn_app (goodIn_r _ [4, 5, 6] rfl (by decide +kernel)) ggX5_speeds_X5_within
set_option maxRecDepth 20000 in
theorem ggX5_isHour_X5_within : GoodIn wsX5_isHour wsX5_within := goodIn_r _ [4] rfl (by decide +kernel)
set_option maxRecDepth 20000 in
theorem gX5_isHour_X5_within : GoodIn wsX5_isHour (va_wsS RX5 81 yX5_within wsX5_within) := goodIn_app (goodIn_r _ [1, 2, 3] rfl (by decide +kernel)) ggX5_isHour_X5_within
set_option maxRecDepth 20000 in
theorem ggX5_flows_X5_isHour : GoodIn wsX5_flows wsX5_isHour := goodIn_r _ [7, 8, 9, 6, 10] rfl (by decide +kernel)
set_option maxRecDepth 20000 in
theorem gX5_flows_X5_isHour : GoodIn wsX5_flows (va_wsS RX5 85 yX5_isHour wsX5_isHour) := goodIn_app (goodIn_r _ [4, 5, 6] rfl (by decide +kernel)) ggX5_flows_X5_isHour
set_option maxRecDepth 20000 in
theorem ggX5_flows_X5_within : GoodIn wsX5_flows wsX5_within := goodIn_r _ [10] rfl (by decide +kernel)
set_option maxRecDepth 20000 in
theorem gX5_flows_X5_within : GoodIn wsX5_flows (va_wsS RX5 81 yX5_within wsX5_within) := goodIn_app (goodIn_r _ [8, 9, 6] rfl (by decide +kernel)) ggX5_flows_X5_within
set_option maxRecDepth 20000 in
theorem ggX5_machine_X5_within : GoodIn wsX5_machine wsX5_within := goodIn_r _ [10] rfl (by decide +kernel)
set_option maxRecDepth 20000 in
theorem gX5_machine_X5_within : GoodIn wsX5_machine (va_wsS RX5 81 yX5_within wsX5_within) := goodIn_app (goodIn_r _ [7, 8, 9] rfl (by decide +kernel)) ggX5_machine_X5_within
set_option maxRecDepth 20000 in
theorem ggX5_out_X5_within : GoodIn wsX5_out wsX5_within := goodIn_r _ [6] rfl (by decide +kernel)
set_option maxRecDepth 20000 in
theorem gX5_out_X5_within : GoodIn wsX5_out (va_wsS RX5 81 yX5_within wsX5_within) := goodIn_app (goodIn_r _ [3, 4, 5] rfl (by decide +kernel)) ggX5_out_X5_within
set_option maxRecDepth 20000 in
theorem ggX5_out_X5_isHour : GoodIn wsX5_out wsX5_isHour := goodIn_r _ [9, 3, 4, 5, 6] rfl (by decide +kernel)
set_option maxRecDepth 20000 in
theorem gX5_out_X5_isHour : GoodIn wsX5_out (va_wsS RX5 85 yX5_isHour wsX5_isHour) := goodIn_app (goodIn_r _ [7, 8, 5] rfl (by decide +kernel)) ggX5_out_X5_isHour
set_option maxRecDepth 20000 in
theorem ggX5_reserve_X5_isHour : GoodIn wsX5_reserve wsX5_isHour := goodIn_r _ [6, 7, 8, 5, 9] rfl (by decide +kernel)
set_option maxRecDepth 20000 in
theorem gX5_reserve_X5_isHour : GoodIn wsX5_reserve (va_wsS RX5 85 yX5_isHour wsX5_isHour) := goodIn_app (goodIn_r _ [3, 4, 5] rfl (by decide +kernel)) ggX5_reserve_X5_isHour
set_option maxRecDepth 20000 in
theorem ggX5_reserve_X5_within : GoodIn wsX5_reserve wsX5_within := goodIn_r _ [9] rfl (by decide +kernel)
set_option maxRecDepth 20000 in
theorem gX5_reserve_X5_within : GoodIn wsX5_reserve (va_wsS RX5 81 yX5_within wsX5_within) := goodIn_app (goodIn_r _ [7, 8, 5] rfl (by decide +kernel)) ggX5_reserve_X5_within
set_option maxRecDepth 20000 in
theorem ggX5_weights_X5_within : GoodIn wsX5_weights wsX5_within := goodIn_r _ [6] rfl (by decide +kernel)
set_option maxRecDepth 20000 in
theorem gX5_weights_X5_within : GoodIn wsX5_weights (va_wsS RX5 81 yX5_within wsX5_within) := goodIn_app (goodIn_r _ [3, 4, 5] rfl (by decide +kernel)) ggX5_weights_X5_within
set_option maxRecDepth 20000 in
theorem ggX5_isWorld_X5_within : GoodIn wsX5_isWorld wsX5_within := goodIn_r _ [4] rfl (by decide +kernel)
set_option maxRecDepth 20000 in
theorem gX5_isWorld_X5_within : GoodIn wsX5_isWorld (va_wsS RX5 81 yX5_within wsX5_within) := goodIn_app (goodIn_r _ [1, 2, 3] rfl (by decide +kernel)) ggX5_isWorld_X5_within
set_option maxRecDepth 20000 in
theorem ggX5_price_X5_isWorld : GoodIn wsX5_price wsX5_isWorld := goodIn_r _ [6, 7, 8, 5, 9] rfl (by decide +kernel)
set_option maxRecDepth 20000 in
theorem gX5_price_X5_isWorld : GoodIn wsX5_price (va_wsS RX5 89 yX5_isWorld wsX5_isWorld) := goodIn_app (goodIn_r _ [3, 4, 5] rfl (by decide +kernel)) ggX5_price_X5_isWorld
set_option maxRecDepth 20000 in
theorem ggX5_price_X5_isHour : GoodIn wsX5_price wsX5_isHour := goodIn_r _ [12, 7, 8, 5, 9] rfl (by decide +kernel)
set_option maxRecDepth 20000 in
theorem gX5_price_X5_isHour : GoodIn wsX5_price (va_wsS RX5 85 yX5_isHour wsX5_isHour) := goodIn_app (goodIn_r _ [10, 11, 5] rfl (by decide +kernel)) ggX5_price_X5_isHour
set_option maxRecDepth 20000 in
theorem ggX5_price_X5_within : GoodIn wsX5_price wsX5_within := goodIn_r _ [9] rfl (by decide +kernel)
set_option maxRecDepth 20000 in
theorem gX5_price_X5_within : GoodIn wsX5_price (va_wsS RX5 81 yX5_within wsX5_within) := goodIn_app (goodIn_r _ [7, 8, 5] rfl (by decide +kernel)) ggX5_price_X5_within
set_option maxRecDepth 20000 in
theorem ggX5_reveal_X5_within : GoodIn wsX5_reveal wsX5_within := goodIn_r _ [6] rfl (by decide +kernel)
set_option maxRecDepth 20000 in
theorem gX5_reveal_X5_within : GoodIn wsX5_reveal (va_wsS RX5 81 yX5_within wsX5_within) := goodIn_app (goodIn_r _ [3, 4, 5] rfl (by decide +kernel)) ggX5_reveal_X5_within
set_option maxRecDepth 20000 in
theorem ggX5_end_X5_within : GoodIn wsX5_end wsX5_within := goodIn_r _ [6] rfl (by decide +kernel)
set_option maxRecDepth 20000 in
theorem gX5_end_X5_within : GoodIn wsX5_end (va_wsS RX5 81 yX5_within wsX5_within) := goodIn_app (goodIn_r _ [3, 4, 5] rfl (by decide +kernel)) ggX5_end_X5_within
set_option maxRecDepth 20000 in
theorem ggX5_isReserved_X5_isReady : GoodIn wsX5_isReserved wsX5_isReady := goodIn_r _ [9, 10, 11, 12, 13, 14, 15, 16, 17, 18, 19, 20, 21, 22, 23, 24, 25, 26, 27, 28, 29, 30, 31, 32, 33, 34, 35, 36] rfl (by decide +kernel)
set_option maxRecDepth 20000 in
theorem gX5_isReserved_X5_isReady : GoodIn wsX5_isReserved (wsV RX5 98 RX5 yX5_isReady wsX5_isReady) := goodIn_app (goodIn_r _ [5, 6, 7, 8] rfl (by decide +kernel)) ggX5_isReserved_X5_isReady
set_option maxRecDepth 20000 in
theorem ggX5_isLegal_X5_loses : GoodIn wsX5_isLegal wsX5_loses := goodIn_r _ [11, 12, 13, 36, 37, 38, 39, 40, 41, 42, 43, 44, 45, 46, 47, 48, 49, 50, 51, 52, 53, 54, 55, 56, 57, 58, 59, 60, 61] rfl (by decide +kernel)
set_option maxRecDepth 20000 in
theorem gX5_isLegal_X5_loses : GoodIn wsX5_isLegal (wsV RX5 101 RX5 yX5_loses wsX5_loses) := goodIn_app (goodIn_r _ [7, 8, 9, 10] rfl (by decide +kernel)) ggX5_isLegal_X5_loses
set_option maxRecDepth 20000 in
theorem ggX5_isLegal_X5_within : GoodIn wsX5_isLegal wsX5_within := goodIn_r _ [16] rfl (by decide +kernel)
set_option maxRecDepth 20000 in
theorem gX5_isLegal_X5_within : GoodIn wsX5_isLegal (va_wsS RX5 81 yX5_within wsX5_within) := goodIn_app (goodIn_r _ [14, 15, 10] rfl (by decide +kernel)) ggX5_isLegal_X5_within
set_option maxRecDepth 20000 in
theorem ggX5_isLegal_X5_far : GoodIn wsX5_isLegal wsX5_far := goodIn_r _ [19] rfl (by decide +kernel)
set_option maxRecDepth 20000 in
theorem gX5_isLegal_X5_far : GoodIn wsX5_isLegal (va_wsS RX5 105 yX5_far wsX5_far) := goodIn_app (goodIn_r _ [17, 18, 10] rfl (by decide +kernel)) ggX5_isLegal_X5_far
set_option maxRecDepth 20000 in
theorem ggX5_isLegal_X5_mayGo : GoodIn wsX5_isLegal wsX5_mayGo := goodIn_r _ [23, 24, 36, 37, 38, 39, 40, 41, 42, 43, 44, 45, 46, 47, 48, 49, 50, 51, 52, 53, 54, 55, 56, 57, 58, 59, 60, 61] rfl (by decide +kernel)
set_option maxRecDepth 20000 in
theorem gX5_isLegal_X5_mayGo : GoodIn wsX5_isLegal (wsV RX5 108 RX5 yX5_mayGo wsX5_mayGo) := goodIn_app (goodIn_r _ [20, 21, 22, 10] rfl (by decide +kernel)) ggX5_isLegal_X5_mayGo
set_option maxRecDepth 20000 in
theorem ggX5_isLegal_X5_isReserved : GoodIn wsX5_isLegal wsX5_isReserved := goodIn_r _ [28, 29, 30, 12, 31, 32, 33, 34, 10, 35, 24, 36, 37, 38, 39, 40, 41, 42, 43, 44, 45, 46, 47, 48, 49, 50, 51, 52, 53, 54, 55, 56, 57, 58, 59, 60, 61] rfl (by decide +kernel)
set_option maxRecDepth 20000 in
theorem gX5_isLegal_X5_isReserved : GoodIn wsX5_isLegal (wsV RX5 112 RX5 yX5_isReserved wsX5_isReserved) := goodIn_app (goodIn_r _ [25, 26, 27, 10] rfl (by decide +kernel)) ggX5_isLegal_X5_isReserved
set_option maxRecDepth 20000 in
theorem ggX5_laysOut_X5_bestOf : GoodIn wsX5_laysOut wsX5_bestOf := goodIn_r _ [13, 14, 15, 16, 17, 12, 18, 3, 5, 7, 19, 20, 21, 22, 23, 4, 24, 25, 26, 27, 28, 29, 30, 31, 32, 33, 34, 35, 36, 37, 38, 39, 40, 41, 42, 43, 44, 45, 46, 47, 48, 49, 50, 51, 52, 53, 54, 55, 56, 57, 58, 59, 60, 61, 66, 67, 68, 69, 70, 71, 72, 73, 74, 75, 76, 77, 78, 79, 80, 81, 82, 83, 84, 85, 86, 87, 88, 89, 90, 91] rfl (by decide +kernel)
set_option maxRecDepth 20000 in
theorem gX5_laysOut_X5_bestOf : GoodIn wsX5_laysOut (wsV RX5 115 RX5 yX5_bestOf wsX5_bestOf) := goodIn_app (goodIn_r _ [9, 10, 11, 12] rfl (by decide +kernel)) ggX5_laysOut_X5_bestOf
set_option maxRecDepth 20000 in
theorem ggX5_laysOut_X5_weighed : GoodIn wsX5_laysOut wsX5_weighed := goodIn_r _ [65, 5, 14, 19, 66, 67, 68, 69, 70, 71, 72, 73, 74, 75, 76, 77, 78, 79, 80, 81, 82, 83, 84, 85, 86, 87, 88, 89, 90, 91] rfl (by decide +kernel)
set_option maxRecDepth 20000 in
theorem gX5_laysOut_X5_weighed : GoodIn wsX5_laysOut (wsV RX5 119 RX5 yX5_weighed wsX5_weighed) := goodIn_app (goodIn_r _ [62, 63, 64, 12] rfl (by decide +kernel)) ggX5_laysOut_X5_weighed
set_option maxRecDepth 20000 in
theorem ggX5_brings_X5_isLegal : GoodIn wsX5_brings wsX5_isLegal := goodIn_r _ [10, 2, 11, 12, 13, 14, 15, 16, 17, 18, 9, 19, 20, 21, 22, 23, 24, 25, 26, 27, 28, 29, 30, 31, 32, 33, 34, 35, 36, 37, 38, 39, 40, 41, 42, 43, 50, 51, 52, 53, 54, 55, 56, 57, 58, 59, 60, 61, 62, 63, 64, 65, 66, 67, 68, 69, 70, 71, 72, 73, 74, 75] rfl (by decide +kernel)
set_option maxRecDepth 20000 in
theorem gX5_brings_X5_isLegal : GoodIn wsX5_brings (wsV RX5 123 RX5 yX5_isLegal wsX5_isLegal) := goodIn_app (goodIn_r _ [6, 7, 8, 9] rfl (by decide +kernel)) ggX5_brings_X5_isLegal
set_option maxRecDepth 20000 in
theorem ggX5_brings_X5_loses : GoodIn wsX5_brings wsX5_loses := goodIn_r _ [19, 20, 21, 50, 51, 52, 53, 54, 55, 56, 57, 58, 59, 60, 61, 62, 63, 64, 65, 66, 67, 68, 69, 70, 71, 72, 73, 74, 75] rfl (by decide +kernel)
set_option maxRecDepth 20000 in
theorem gX5_brings_X5_loses : GoodIn wsX5_brings (wsV RX5 101 RX5 yX5_loses wsX5_loses) := goodIn_app (goodIn_r _ [16, 17, 18, 9] rfl (by decide +kernel)) ggX5_brings_X5_loses
set_option maxRecDepth 20000 in
theorem ggX5_brings_X5_money : GoodIn wsX5_brings wsX5_money := goodIn_r _ [47, 37, 38, 48, 49, 50, 51, 52, 53, 54, 55, 56, 57, 58, 59, 60, 61, 62, 63, 64, 65, 66, 67, 68, 69, 70, 71, 72, 73, 74, 75] rfl (by decide +kernel)
set_option maxRecDepth 20000 in
theorem gX5_brings_X5_money : GoodIn wsX5_brings (wsV RX5 127 RX5 yX5_money wsX5_money) := goodIn_app (goodIn_r _ [44, 45, 46, 9] rfl (by decide +kernel)) ggX5_brings_X5_money
set_option maxRecDepth 20000 in
theorem ggX5_bestOf_X5_brings : GoodIn wsX5_bestOf wsX5_brings := goodIn_r _ [6, 1, 7, 8, 9, 10, 11, 12, 13, 5, 14, 15, 16, 17, 18, 19, 20, 21, 22, 23, 24, 25, 26, 27, 28, 29, 30, 31, 32, 33, 34, 35, 36, 37, 38, 39, 40, 41, 42, 43, 44, 45, 46, 47, 48, 49, 50, 51, 52, 53, 54, 55, 56, 57, 58, 59, 60, 61, 62, 63, 64, 65, 66, 67, 68, 69, 70, 71, 72, 73, 74, 75, 76, 77, 78, 79] rfl (by decide +kernel)
set_option maxRecDepth 20000 in
theorem gX5_bestOf_X5_brings : GoodIn wsX5_bestOf (wsV RX5 131 RX5 yX5_brings wsX5_brings) := goodIn_app (goodIn_r _ [2, 3, 4, 5] rfl (by decide +kernel)) ggX5_bestOf_X5_brings
set_option maxRecDepth 20000 in
theorem ggX5_worthNow_X5_laysOut : GoodIn wsX5_worthNow wsX5_laysOut := goodIn_r _ [9, 10, 4, 11, 12, 13, 14, 3, 15, 16, 17, 18, 8, 19, 20, 21, 22, 23, 24, 25, 26, 27, 28, 29, 30, 31, 32, 33, 34, 35, 36, 37, 38, 39, 40, 41, 42, 43, 44, 45, 46, 47, 48, 49, 50, 51, 52, 53, 54, 55, 56, 57, 58, 59, 60, 61, 62, 63, 64, 65, 66, 67, 68, 69, 70, 71, 77, 78, 79, 80, 81, 82, 83, 84, 85, 86, 87, 88, 89, 90, 91, 92, 93, 94, 95, 96, 97, 98, 99, 100, 101, 102] rfl (by decide +kernel)
set_option maxRecDepth 20000 in
theorem gX5_worthNow_X5_laysOut : GoodIn wsX5_worthNow (wsV RX5 134 RX5 yX5_laysOut wsX5_laysOut) := goodIn_app (goodIn_r _ [5, 6, 7, 8] rfl (by decide +kernel)) ggX5_worthNow_X5_laysOut
set_option maxRecDepth 20000 in
theorem ggX5_worthNow_X5_stateNow : GoodIn wsX5_worthNow wsX5_stateNow := goodIn_r _ [75, 1, 76, 77, 78, 79, 80, 81, 82, 83, 84, 85, 86, 87, 88, 89, 90, 91, 92, 93, 94, 95, 96, 97, 98, 99, 100, 101, 102] rfl (by decide +kernel)
set_option maxRecDepth 20000 in
theorem gX5_worthNow_X5_stateNow : GoodIn wsX5_worthNow (wsV RX5 138 RX5 yX5_stateNow wsX5_stateNow) := goodIn_app (goodIn_r _ [72, 73, 74, 8] rfl (by decide +kernel)) ggX5_worthNow_X5_stateNow
set_option maxRecDepth 20000 in
theorem ggX5_worth_X5_worthNow : GoodIn wsX5_worth wsX5_worthNow := goodIn_r _ [6, 7, 8, 9, 10, 11, 12, 13, 5, 14, 15, 16, 17, 18, 19, 20, 21, 22, 23, 24, 25, 26, 27, 28, 29, 30, 31, 32, 33, 34, 35, 36, 37, 38, 39, 40, 41, 42, 43, 44, 45, 46, 47, 48, 49, 50, 51, 52, 53, 54, 55, 56, 57, 58, 59, 60, 61, 62, 63, 64, 65, 66, 67, 68, 69, 70, 71, 72, 73, 74, 75, 76, 77, 78, 79, 80, 81, 82, 83, 84, 85, 86, 87, 88, 89, 90, 91, 92, 93, 94, 95, 96, 97, 98, 99, 100, 101, 102, 103, 104, 105, 106, 107] rfl (by decide +kernel)
set_option maxRecDepth 20000 in
theorem gX5_worth_X5_worthNow : GoodIn wsX5_worth (wsV RX5 142 RX5 yX5_worthNow wsX5_worthNow) := goodIn_app (goodIn_r _ [2, 3, 4, 5] rfl (by decide +kernel)) ggX5_worth_X5_worthNow
set_option maxRecDepth 20000 in
theorem ggX5_doing_X5_laysOut : GoodIn wsX5_doing wsX5_laysOut := goodIn_r _ [10, 11, 3, 12, 13, 14, 15, 16, 4, 17, 18, 19, 9, 20, 5, 21, 22, 23, 24, 25, 26, 27, 28, 29, 30, 31, 32, 33, 34, 35, 36, 37, 38, 39, 40, 41, 42, 43, 44, 45, 46, 47, 48, 49, 50, 51, 52, 53, 54, 55, 56, 57, 58, 59, 60, 61, 62, 63, 64, 65, 66, 67, 68, 69, 70, 71, 77, 78, 79, 80, 81, 82, 83, 84, 85, 86, 87, 88, 89, 90, 91, 92, 93, 94, 95, 96, 97, 98, 99, 100, 101, 102] rfl (by decide +kernel)
set_option maxRecDepth 20000 in
theorem gX5_doing_X5_laysOut : GoodIn wsX5_doing (wsV RX5 134 RX5 yX5_laysOut wsX5_laysOut) := goodIn_app (goodIn_r _ [6, 7, 8, 9] rfl (by decide +kernel)) ggX5_doing_X5_laysOut
set_option maxRecDepth 20000 in
theorem ggX5_doing_X5_stateNow : GoodIn wsX5_doing wsX5_stateNow := goodIn_r _ [75, 1, 76, 77, 78, 79, 80, 81, 82, 83, 84, 85, 86, 87, 88, 89, 90, 91, 92, 93, 94, 95, 96, 97, 98, 99, 100, 101, 102] rfl (by decide +kernel)
set_option maxRecDepth 20000 in
theorem gX5_doing_X5_stateNow : GoodIn wsX5_doing (wsV RX5 138 RX5 yX5_stateNow wsX5_stateNow) := goodIn_app (goodIn_r _ [72, 73, 74, 9] rfl (by decide +kernel)) ggX5_doing_X5_stateNow
set_option maxRecDepth 20000 in
theorem ggX5_doing_X5_bestOf : GoodIn wsX5_doing wsX5_bestOf := goodIn_r _ [20, 5, 21, 22, 23, 9, 24, 12, 14, 16, 25, 26, 27, 28, 29, 13, 30, 31, 32, 33, 34, 35, 36, 37, 38, 39, 40, 41, 42, 43, 44, 45, 46, 47, 48, 49, 50, 51, 52, 53, 54, 55, 56, 57, 58, 59, 60, 61, 62, 63, 64, 65, 66, 67, 77, 78, 79, 80, 81, 82, 83, 84, 85, 86, 87, 88, 89, 90, 91, 92, 93, 94, 95, 96, 97, 98, 99, 100, 101, 102] rfl (by decide +kernel)
set_option maxRecDepth 20000 in
theorem gX5_doing_X5_bestOf : GoodIn wsX5_doing (wsV RX5 115 RX5 yX5_bestOf wsX5_bestOf) := goodIn_app (goodIn_r _ [17, 18, 19, 9] rfl (by decide +kernel)) ggX5_doing_X5_bestOf
set_option maxRecDepth 20000 in
theorem ggX5_doing_X5_brings : GoodIn wsX5_doing wsX5_brings := goodIn_r _ [24, 5, 12, 14, 16, 25, 26, 27, 28, 9, 29, 13, 30, 31, 32, 33, 34, 35, 36, 37, 38, 39, 40, 41, 42, 43, 44, 45, 46, 47, 48, 49, 50, 51, 52, 53, 54, 55, 56, 57, 58, 59, 60, 61, 62, 63, 64, 65, 66, 67, 77, 78, 79, 80, 81, 82, 83, 84, 85, 86, 87, 88, 89, 90, 91, 92, 93, 94, 95, 96, 97, 98, 99, 100, 101, 102] rfl (by decide +kernel)
set_option maxRecDepth 20000 in
theorem gX5_doing_X5_brings : GoodIn wsX5_doing (wsV RX5 131 RX5 yX5_brings wsX5_brings) := goodIn_app (goodIn_r _ [21, 22, 23, 9] rfl (by decide +kernel)) ggX5_doing_X5_brings
set_option maxRecDepth 20000 in
theorem ggX5_mode_X5_isWorld : GoodIn wsX5_mode wsX5_isWorld := goodIn_r _ [6, 7, 8, 5, 9] rfl (by decide +kernel)
set_option maxRecDepth 20000 in
theorem gX5_mode_X5_isWorld : GoodIn wsX5_mode (va_wsS RX5 89 yX5_isWorld wsX5_isWorld) := goodIn_app (goodIn_r _ [3, 4, 5] rfl (by decide +kernel)) ggX5_mode_X5_isWorld
set_option maxRecDepth 20000 in
theorem ggX5_mode_X5_within : GoodIn wsX5_mode wsX5_within := goodIn_r _ [9] rfl (by decide +kernel)
set_option maxRecDepth 20000 in
theorem gX5_mode_X5_within : GoodIn wsX5_mode (va_wsS RX5 81 yX5_within wsX5_within) := goodIn_app (goodIn_r _ [7, 8, 5] rfl (by decide +kernel)) ggX5_mode_X5_within
set_option maxRecDepth 20000 in
theorem ggX5_mode_X5_doing : GoodIn wsX5_mode wsX5_doing := goodIn_r _ [13, 14, 15, 2, 16, 17, 18, 19, 20, 5, 21, 22, 23, 24, 25, 26, 27, 28, 29, 30, 31, 32, 33, 34, 35, 36, 37, 38, 39, 40, 41, 42, 43, 44, 45, 46, 47, 48, 49, 50, 7, 8, 9, 51, 52, 53, 54, 55, 56, 57, 58, 59, 60, 61, 62, 63, 64, 65, 66, 67, 68, 69, 70, 71, 72, 73, 74, 75, 76, 77, 78, 79, 80, 81, 82, 83, 84, 85, 86, 87, 88, 89, 90, 91, 92, 93, 94, 95, 96, 97, 98, 99, 100, 101, 102, 103, 104, 105, 106, 107, 108, 109, 110] rfl (by decide +kernel)
set_option maxRecDepth 20000 in
theorem gX5_mode_X5_doing : GoodIn wsX5_mode (wsV RX5 145 RX5 yX5_doing wsX5_doing) := goodIn_app (goodIn_r _ [10, 11, 12, 5] rfl (by decide +kernel)) ggX5_mode_X5_doing
set_option maxRecDepth 20000 in
theorem ggX5_water_X5_laysOut : GoodIn wsX5_water wsX5_laysOut := goodIn_r _ [12, 13, 6, 14, 15, 16, 17, 5, 18, 19, 20, 21, 11, 22, 3, 23, 24, 25, 26, 27, 28, 29, 30, 31, 2, 32, 33, 34, 35, 36, 37, 38, 39, 40, 41, 42, 43, 44, 45, 46, 47, 48, 49, 50, 51, 52, 53, 54, 55, 56, 57, 58, 59, 60, 61, 62, 63, 64, 65, 66, 67, 68, 69, 70, 71, 72, 73, 74, 75, 76, 77, 78, 79, 80, 81, 82, 83, 84, 85, 86, 87, 88, 89, 90, 91, 92, 93, 94, 95, 96, 97, 98] rfl (by decide +kernel)
set_option maxRecDepth 20000 in
theorem gX5_water_X5_laysOut : GoodIn wsX5_water (wsV RX5 134 RX5 yX5_laysOut wsX5_laysOut) := goodIn_app (goodIn_r _ [8, 9, 10, 11] rfl (by decide +kernel)) ggX5_water_X5_laysOut
set_option maxRecDepth 20000 in
theorem ggX5_areModes_X5_within : GoodIn wsX5_areModes wsX5_within := goodIn_r _ [4] rfl (by decide +kernel)
set_option maxRecDepth 20000 in
theorem gX5_areModes_X5_within : GoodIn wsX5_areModes (va_wsS RX5 81 yX5_within wsX5_within) := goodIn_app (goodIn_r _ [1, 2, 3] rfl (by decide +kernel)) ggX5_areModes_X5_within
set_option maxRecDepth 20000 in
theorem ggX5_isLegalNow_X5_isLegal : GoodIn wsX5_isLegalNow wsX5_isLegal := goodIn_r _ [9, 10, 11, 12, 13, 14, 15, 16, 17, 18, 8, 19, 20, 21, 22, 23, 24, 25, 26, 27, 28, 29, 30, 31, 32, 33, 34, 35, 36, 37, 38, 39, 40, 41, 42, 43, 44, 45, 46, 47, 48, 49, 50, 51, 52, 53, 54, 55, 56, 57, 58, 59, 60, 61, 62, 63, 64, 65, 66, 67, 68, 69] rfl (by decide +kernel)
set_option maxRecDepth 20000 in
theorem gX5_isLegalNow_X5_isLegal : GoodIn wsX5_isLegalNow (wsV RX5 123 RX5 yX5_isLegal wsX5_isLegal) := goodIn_app (goodIn_r _ [5, 6, 7, 8] rfl (by decide +kernel)) ggX5_isLegalNow_X5_isLegal
set_option maxRecDepth 20000 in
theorem ggX5_legal_X5_areModes : GoodIn wsX5_legal wsX5_areModes := goodIn_r _ [6, 7, 8, 5, 9] rfl (by decide +kernel)
set_option maxRecDepth 20000 in
theorem gX5_legal_X5_areModes : GoodIn wsX5_legal (va_wsS RX5 149 yX5_areModes wsX5_areModes) := goodIn_app (goodIn_r _ [3, 4, 5] rfl (by decide +kernel)) ggX5_legal_X5_areModes
set_option maxRecDepth 20000 in
theorem ggX5_legal_X5_isLegalNow : GoodIn wsX5_legal wsX5_isLegalNow := goodIn_r _ [13, 2, 14, 15, 16, 17, 18, 19, 5, 20, 21, 22, 23, 24, 25, 26, 27, 28, 29, 30, 31, 32, 7, 8, 9, 33, 34, 35, 36, 37, 38, 39, 40, 41, 42, 43, 44, 45, 46, 47, 48, 49, 50, 51, 52, 53, 54, 55, 56, 57, 58, 59, 60, 61, 62, 63, 64, 65, 66, 67, 68, 69, 70, 71, 72, 73, 74, 75, 76, 77] rfl (by decide +kernel)
set_option maxRecDepth 20000 in
theorem gX5_legal_X5_isLegalNow : GoodIn wsX5_legal (wsV RX5 153 RX5 yX5_isLegalNow wsX5_isLegalNow) := goodIn_app (goodIn_r _ [10, 11, 12, 5] rfl (by decide +kernel)) ggX5_legal_X5_isLegalNow
set_option maxRecDepth 20000 in
theorem ggX5_does_X5_money : GoodIn wsX5_does wsX5_money := goodIn_r _ [13, 14, 15, 16, 17, 24, 25, 26, 27, 28, 29, 30, 31, 32, 33, 34, 35, 36, 37, 38, 39, 40, 41, 42, 43, 44, 45, 46, 47, 48, 49] rfl (by decide +kernel)
set_option maxRecDepth 20000 in
theorem gX5_does_X5_money : GoodIn wsX5_does (wsV RX5 127 RX5 yX5_money wsX5_money) := goodIn_app (goodIn_r _ [9, 10, 11, 12] rfl (by decide +kernel)) ggX5_does_X5_money
set_option maxRecDepth 20000 in
theorem ggX5_does_X5_loses : GoodIn wsX5_does wsX5_loses := goodIn_r _ [21, 22, 23, 24, 25, 26, 27, 28, 29, 30, 31, 32, 33, 34, 35, 36, 37, 38, 39, 40, 41, 42, 43, 44, 45, 46, 47, 48, 49] rfl (by decide +kernel)
set_option maxRecDepth 20000 in
theorem gX5_does_X5_loses : GoodIn wsX5_does (wsV RX5 101 RX5 yX5_loses wsX5_loses) := goodIn_app (goodIn_r _ [18, 19, 20, 12] rfl (by decide +kernel)) ggX5_does_X5_loses
set_option maxRecDepth 20000 in
theorem ggX5_done_X5_areModes : GoodIn wsX5_done wsX5_areModes := goodIn_r _ [6, 7, 8, 5, 9] rfl (by decide +kernel)
set_option maxRecDepth 20000 in
theorem gX5_done_X5_areModes : GoodIn wsX5_done (va_wsS RX5 149 yX5_areModes wsX5_areModes) := goodIn_app (goodIn_r _ [3, 4, 5] rfl (by decide +kernel)) ggX5_done_X5_areModes
set_option maxRecDepth 20000 in
theorem ggX5_done_X5_isWorld : GoodIn wsX5_done wsX5_isWorld := goodIn_r _ [12, 7, 8, 5, 9] rfl (by decide +kernel)
set_option maxRecDepth 20000 in
theorem gX5_done_X5_isWorld : GoodIn wsX5_done (va_wsS RX5 89 yX5_isWorld wsX5_isWorld) := goodIn_app (goodIn_r _ [10, 11, 5] rfl (by decide +kernel)) ggX5_done_X5_isWorld
set_option maxRecDepth 20000 in
theorem ggX5_done_X5_isLegalNow : GoodIn wsX5_done wsX5_isLegalNow := goodIn_r _ [16, 1, 17, 18, 19, 20, 21, 22, 5, 23, 24, 25, 26, 27, 28, 29, 30, 31, 32, 33, 34, 35, 7, 8, 9, 36, 37, 38, 39, 40, 41, 42, 43, 44, 45, 46, 47, 48, 49, 50, 51, 52, 53, 54, 67, 68, 69, 70, 71, 72, 73, 74, 75, 76, 77, 78, 79, 80, 81, 82, 83, 84, 85, 86, 87, 88, 89, 90, 91, 92] rfl (by decide +kernel)
set_option maxRecDepth 20000 in
theorem gX5_done_X5_isLegalNow : GoodIn wsX5_done (wsV RX5 153 RX5 yX5_isLegalNow wsX5_isLegalNow) := goodIn_app (goodIn_r _ [13, 14, 15, 5] rfl (by decide +kernel)) ggX5_done_X5_isLegalNow
set_option maxRecDepth 20000 in
theorem ggX5_done_X5_does : GoodIn wsX5_done wsX5_does := goodIn_r _ [58, 1, 19, 59, 17, 24, 18, 25, 60, 61, 62, 63, 5, 64, 48, 49, 65, 66, 30, 31, 32, 33, 34, 35, 67, 68, 69, 70, 71, 72, 73, 74, 75, 76, 77, 78, 79, 80, 81, 82, 83, 84, 85, 86, 87, 88, 89, 90, 91, 92] rfl (by decide +kernel)
set_option maxRecDepth 20000 in
theorem gX5_done_X5_does : GoodIn wsX5_done (wsV RX5 159 RX5 yX5_does wsX5_does) := goodIn_app (goodIn_r _ [55, 56, 57, 5] rfl (by decide +kernel)) ggX5_done_X5_does
set_option maxRecDepth 20000 in
theorem ggX5_runs_X5_isWorld : GoodIn wsX5_runs wsX5_isWorld := goodIn_r _ [6, 7, 8, 5, 9] rfl (by decide +kernel)
set_option maxRecDepth 20000 in
theorem gX5_runs_X5_isWorld : GoodIn wsX5_runs (va_wsS RX5 89 yX5_isWorld wsX5_isWorld) := goodIn_app (goodIn_r _ [3, 4, 5] rfl (by decide +kernel)) ggX5_runs_X5_isWorld
set_option maxRecDepth 20000 in
theorem ggX5_runs_X5_within : GoodIn wsX5_runs wsX5_within := goodIn_r _ [9] rfl (by decide +kernel)
set_option maxRecDepth 20000 in
theorem gX5_runs_X5_within : GoodIn wsX5_runs (va_wsS RX5 81 yX5_within wsX5_within) := goodIn_app (goodIn_r _ [7, 8, 5] rfl (by decide +kernel)) ggX5_runs_X5_within
set_option maxRecDepth 20000 in
theorem ggX5_runs_X5_doing : GoodIn wsX5_runs wsX5_doing := goodIn_r _ [13, 14, 15, 2, 16, 17, 18, 19, 20, 5, 21, 22, 23, 24, 25, 26, 27, 28, 29, 30, 31, 32, 33, 34, 35, 36, 37, 38, 39, 40, 41, 42, 43, 44, 45, 46, 47, 48, 49, 50, 7, 8, 9, 51, 52, 53, 54, 55, 56, 57, 58, 59, 60, 61, 62, 63, 64, 65, 66, 67, 68, 69, 70, 71, 72, 73, 74, 75, 76, 77, 78, 79, 80, 81, 82, 83, 84, 91, 92, 93, 94, 95, 96, 97, 98, 99, 100, 101, 102, 103, 104, 105, 106, 107, 108, 109, 110, 111, 112, 113, 114, 115, 116] rfl (by decide +kernel)
set_option maxRecDepth 20000 in
theorem gX5_runs_X5_doing : GoodIn wsX5_runs (wsV RX5 145 RX5 yX5_doing wsX5_doing) := goodIn_app (goodIn_r _ [10, 11, 12, 5] rfl (by decide +kernel)) ggX5_runs_X5_doing
set_option maxRecDepth 20000 in
theorem ggX5_runs_X5_does : GoodIn wsX5_runs wsX5_does := goodIn_r _ [88, 2, 84, 89, 14, 23, 15, 24, 90, 70, 71, 72, 5, 73, 63, 64, 74, 75, 45, 46, 47, 48, 49, 50, 91, 92, 93, 94, 95, 96, 97, 98, 99, 100, 101, 102, 103, 104, 105, 106, 107, 108, 109, 110, 111, 112, 113, 114, 115, 116] rfl (by decide +kernel)
set_option maxRecDepth 20000 in
theorem gX5_runs_X5_does : GoodIn wsX5_runs (wsV RX5 159 RX5 yX5_does wsX5_does) := goodIn_app (goodIn_r _ [85, 86, 87, 5] rfl (by decide +kernel)) ggX5_runs_X5_does
end
section
theorem dJ7_fill_53178_0 : decode cJ7_fill_53178 0 = .ok (.iconst 0, 1) := by decide +kernel
theorem dJ7_fill_53178_1 : decode cJ7_fill_53178 1 = .ok (.istore_n 2, 1) := by decide +kernel
theorem dJ7_fill_53178_2 : decode cJ7_fill_53178 2 = .ok (.aload_n 0, 1) := by decide +kernel
theorem dJ7_fill_53178_3 : decode cJ7_fill_53178 3 = .ok (.arraylength, 1) := by decide +kernel
theorem dJ7_fill_53178_4 : decode cJ7_fill_53178 4 = .ok (.istore_n 3, 1) := by decide +kernel
theorem dJ7_fill_53178_5 : decode cJ7_fill_53178 5 = .ok (.iload_n 2, 1) := by decide +kernel
theorem dJ7_fill_53178_6 : decode cJ7_fill_53178 6 = .ok (.iload_n 3, 1) := by decide +kernel
theorem dJ7_fill_53178_7 : decode cJ7_fill_53178 7 = .ok (.if_icmp .ge 13, 3) := by decide +kernel
theorem dJ7_fill_53178_10 : decode cJ7_fill_53178 10 = .ok (.aload_n 0, 1) := by decide +kernel
theorem dJ7_fill_53178_11 : decode cJ7_fill_53178 11 = .ok (.iload_n 2, 1) := by decide +kernel
theorem dJ7_fill_53178_12 : decode cJ7_fill_53178 12 = .ok (.iload_n 1, 1) := by decide +kernel
theorem dJ7_fill_53178_13 : decode cJ7_fill_53178 13 = .ok (.iastore, 1) := by decide +kernel
theorem dJ7_fill_53178_14 : decode cJ7_fill_53178 14 = .ok (.iinc 2 1, 3) := by decide +kernel
theorem dJ7_fill_53178_17 : decode cJ7_fill_53178 17 = .ok (.goto (-12), 3) := by decide +kernel
theorem dJ7_fill_53178_20 : decode cJ7_fill_53178 20 = .ok (.return_, 1) := by decide +kernel
end
section
theorem dJ9_abs_0f7a4_0 : decode cJ9_abs_0f7a4 0 = .ok (.iload_n 0, 1) := by decide +kernel
theorem dJ9_abs_0f7a4_1 : decode cJ9_abs_0f7a4 1 = .ok (.ifCond .ge 8, 3) := by decide +kernel
theorem dJ9_abs_0f7a4_4 : decode cJ9_abs_0f7a4 4 = .ok (.iload_n 0, 1) := by decide +kernel
theorem dJ9_abs_0f7a4_5 : decode cJ9_abs_0f7a4 5 = .ok (.ineg, 1) := by decide +kernel
theorem dJ9_abs_0f7a4_6 : decode cJ9_abs_0f7a4 6 = .ok (.goto 4, 3) := by decide +kernel
theorem dJ9_abs_0f7a4_9 : decode cJ9_abs_0f7a4 9 = .ok (.iload_n 0, 1) := by decide +kernel
theorem dJ9_abs_0f7a4_10 : decode cJ9_abs_0f7a4 10 = .ok (.ireturn, 1) := by decide +kernel
theorem dJ9_max_7cf53_0 : decode cJ9_max_7cf53 0 = .ok (.iload_n 0, 1) := by decide +kernel
theorem dJ9_max_7cf53_1 : decode cJ9_max_7cf53 1 = .ok (.iload_n 1, 1) := by decide +kernel
theorem dJ9_max_7cf53_2 : decode cJ9_max_7cf53 2 = .ok (.if_icmp .lt 7, 3) := by decide +kernel
theorem dJ9_max_7cf53_5 : decode cJ9_max_7cf53 5 = .ok (.iload_n 0, 1) := by decide +kernel
theorem dJ9_max_7cf53_6 : decode cJ9_max_7cf53 6 = .ok (.goto 4, 3) := by decide +kernel
theorem dJ9_max_7cf53_9 : decode cJ9_max_7cf53 9 = .ok (.iload_n 1, 1) := by decide +kernel
theorem dJ9_max_7cf53_10 : decode cJ9_max_7cf53 10 = .ok (.ireturn, 1) := by decide +kernel
theorem dJ9_min_7cf53_0 : decode cJ9_min_7cf53 0 = .ok (.iload_n 0, 1) := by decide +kernel
theorem dJ9_min_7cf53_1 : decode cJ9_min_7cf53 1 = .ok (.iload_n 1, 1) := by decide +kernel
theorem dJ9_min_7cf53_2 : decode cJ9_min_7cf53 2 = .ok (.if_icmp .gt 7, 3) := by decide +kernel
theorem dJ9_min_7cf53_5 : decode cJ9_min_7cf53 5 = .ok (.iload_n 0, 1) := by decide +kernel
theorem dJ9_min_7cf53_6 : decode cJ9_min_7cf53 6 = .ok (.goto 4, 3) := by decide +kernel
theorem dJ9_min_7cf53_9 : decode cJ9_min_7cf53 9 = .ok (.iload_n 1, 1) := by decide +kernel
theorem dJ9_min_7cf53_10 : decode cJ9_min_7cf53 10 = .ok (.ireturn, 1) := by decide +kernel
end
section
theorem dX0_init_0 : decode cX0_init 0 = .ok (.aload_n 0, 1) := by decide +kernel
theorem dX0_init_1 : decode cX0_init 1 = .ok (.invokespecial 3, 3) := by decide +kernel
theorem dX0_init_4 : decode cX0_init 4 = .ok (.aload_n 0, 1) := by decide +kernel
theorem dX0_init_5 : decode cX0_init 5 = .ok (.sipush 216, 3) := by decide +kernel
theorem dX0_init_8 : decode cX0_init 8 = .ok (.newarray .int, 2) := by decide +kernel
theorem dX0_init_10 : decode cX0_init 10 = .ok (.putfield 9, 3) := by decide +kernel
theorem dX0_init_13 : decode cX0_init 13 = .ok (.aload_n 0, 1) := by decide +kernel
theorem dX0_init_14 : decode cX0_init 14 = .ok (.sipush 216, 3) := by decide +kernel
theorem dX0_init_17 : decode cX0_init 17 = .ok (.newarray .int, 2) := by decide +kernel
theorem dX0_init_19 : decode cX0_init 19 = .ok (.putfield 15, 3) := by decide +kernel
theorem dX0_init_22 : decode cX0_init 22 = .ok (.aload_n 0, 1) := by decide +kernel
theorem dX0_init_23 : decode cX0_init 23 = .ok (.sipush 216, 3) := by decide +kernel
theorem dX0_init_26 : decode cX0_init 26 = .ok (.newarray .int, 2) := by decide +kernel
theorem dX0_init_28 : decode cX0_init 28 = .ok (.putfield 18, 3) := by decide +kernel
theorem dX0_init_31 : decode cX0_init 31 = .ok (.aload_n 0, 1) := by decide +kernel
theorem dX0_init_32 : decode cX0_init 32 = .ok (.sipush 216, 3) := by decide +kernel
theorem dX0_init_35 : decode cX0_init 35 = .ok (.newarray .int, 2) := by decide +kernel
theorem dX0_init_37 : decode cX0_init 37 = .ok (.putfield 21, 3) := by decide +kernel
theorem dX0_init_40 : decode cX0_init 40 = .ok (.aload_n 0, 1) := by decide +kernel
theorem dX0_init_41 : decode cX0_init 41 = .ok (.sipush 216, 3) := by decide +kernel
theorem dX0_init_44 : decode cX0_init 44 = .ok (.newarray .int, 2) := by decide +kernel
theorem dX0_init_46 : decode cX0_init 46 = .ok (.putfield 24, 3) := by decide +kernel
theorem dX0_init_49 : decode cX0_init 49 = .ok (.aload_n 0, 1) := by decide +kernel
theorem dX0_init_50 : decode cX0_init 50 = .ok (.bipush 81, 2) := by decide +kernel
theorem dX0_init_52 : decode cX0_init 52 = .ok (.newarray .int, 2) := by decide +kernel
theorem dX0_init_54 : decode cX0_init 54 = .ok (.putfield 27, 3) := by decide +kernel
theorem dX0_init_57 : decode cX0_init 57 = .ok (.aload_n 0, 1) := by decide +kernel
theorem dX0_init_58 : decode cX0_init 58 = .ok (.aload_n 1, 1) := by decide +kernel
theorem dX0_init_59 : decode cX0_init 59 = .ok (.putfield 30, 3) := by decide +kernel
theorem dX0_init_62 : decode cX0_init 62 = .ok (.aload_n 0, 1) := by decide +kernel
theorem dX0_init_63 : decode cX0_init 63 = .ok (.aload_n 2, 1) := by decide +kernel
theorem dX0_init_64 : decode cX0_init 64 = .ok (.putfield 34, 3) := by decide +kernel
theorem dX0_init_67 : decode cX0_init 67 = .ok (.aload_n 0, 1) := by decide +kernel
theorem dX0_init_68 : decode cX0_init 68 = .ok (.aload_n 3, 1) := by decide +kernel
theorem dX0_init_69 : decode cX0_init 69 = .ok (.putfield 38, 3) := by decide +kernel
theorem dX0_init_72 : decode cX0_init 72 = .ok (.return_, 1) := by decide +kernel
theorem dX0_foresee_0 : decode cX0_foresee 0 = .ok (.iload_n 2, 1) := by decide +kernel
theorem dX0_foresee_1 : decode cX0_foresee 1 = .ok (.istore_n 3, 1) := by decide +kernel
theorem dX0_foresee_2 : decode cX0_foresee 2 = .ok (.iload_n 1, 1) := by decide +kernel
theorem dX0_foresee_3 : decode cX0_foresee 3 = .ok (.istore 4, 2) := by decide +kernel
theorem dX0_foresee_5 : decode cX0_foresee 5 = .ok (.iload 4, 2) := by decide +kernel
theorem dX0_foresee_7 : decode cX0_foresee 7 = .ok (.bipush 24, 2) := by decide +kernel
theorem dX0_foresee_9 : decode cX0_foresee 9 = .ok (.if_icmp .ge 40, 3) := by decide +kernel
theorem dX0_foresee_12 : decode cX0_foresee 12 = .ok (.aload_n 0, 1) := by decide +kernel
theorem dX0_foresee_13 : decode cX0_foresee 13 = .ok (.iload 4, 2) := by decide +kernel
theorem dX0_foresee_15 : decode cX0_foresee 15 = .ok (.iload_n 3, 1) := by decide +kernel
theorem dX0_foresee_16 : decode cX0_foresee 16 = .ok (.invokevirtual 41, 3) := by decide +kernel
theorem dX0_foresee_19 : decode cX0_foresee 19 = .ok (.iload_n 3, 1) := by decide +kernel
theorem dX0_foresee_20 : decode cX0_foresee 20 = .ok (.aload_n 0, 1) := by decide +kernel
theorem dX0_foresee_21 : decode cX0_foresee 21 = .ok (.getfield 30, 3) := by decide +kernel
theorem dX0_foresee_24 : decode cX0_foresee 24 = .ok (.getfield 45, 3) := by decide +kernel
theorem dX0_foresee_27 : decode cX0_foresee 27 = .ok (.iload 4, 2) := by decide +kernel
theorem dX0_foresee_29 : decode cX0_foresee 29 = .ok (.iaload, 1) := by decide +kernel
theorem dX0_foresee_30 : decode cX0_foresee 30 = .ok (.aload_n 0, 1) := by decide +kernel
theorem dX0_foresee_31 : decode cX0_foresee 31 = .ok (.getfield 30, 3) := by decide +kernel
theorem dX0_foresee_34 : decode cX0_foresee 34 = .ok (.getfield 50, 3) := by decide +kernel
theorem dX0_foresee_37 : decode cX0_foresee 37 = .ok (.iload 4, 2) := by decide +kernel
theorem dX0_foresee_39 : decode cX0_foresee 39 = .ok (.iaload, 1) := by decide +kernel
theorem dX0_foresee_40 : decode cX0_foresee 40 = .ok (.isub, 1) := by decide +kernel
theorem dX0_foresee_41 : decode cX0_foresee 41 = .ok (.iadd, 1) := by decide +kernel
theorem dX0_foresee_42 : decode cX0_foresee 42 = .ok (.istore_n 3, 1) := by decide +kernel
theorem dX0_foresee_43 : decode cX0_foresee 43 = .ok (.iinc 4 1, 3) := by decide +kernel
theorem dX0_foresee_46 : decode cX0_foresee 46 = .ok (.goto (-41), 3) := by decide +kernel
theorem dX0_foresee_49 : decode cX0_foresee 49 = .ok (.aload_n 0, 1) := by decide +kernel
theorem dX0_foresee_50 : decode cX0_foresee 50 = .ok (.invokevirtual 53, 3) := by decide +kernel
theorem dX0_foresee_53 : decode cX0_foresee 53 = .ok (.return_, 1) := by decide +kernel
theorem dX0_lookAt_0 : decode cX0_lookAt 0 = .ok (.iload_n 2, 1) := by decide +kernel
theorem dX0_lookAt_1 : decode cX0_lookAt 1 = .ok (.aload_n 0, 1) := by decide +kernel
theorem dX0_lookAt_2 : decode cX0_lookAt 2 = .ok (.getfield 30, 3) := by decide +kernel
theorem dX0_lookAt_5 : decode cX0_lookAt 5 = .ok (.getfield 45, 3) := by decide +kernel
theorem dX0_lookAt_8 : decode cX0_lookAt 8 = .ok (.iload_n 1, 1) := by decide +kernel
theorem dX0_lookAt_9 : decode cX0_lookAt 9 = .ok (.iaload, 1) := by decide +kernel
theorem dX0_lookAt_10 : decode cX0_lookAt 10 = .ok (.iadd, 1) := by decide +kernel
theorem dX0_lookAt_11 : decode cX0_lookAt 11 = .ok (.aload_n 0, 1) := by decide +kernel
theorem dX0_lookAt_12 : decode cX0_lookAt 12 = .ok (.getfield 30, 3) := by decide +kernel
theorem dX0_lookAt_15 : decode cX0_lookAt 15 = .ok (.getfield 50, 3) := by decide +kernel
theorem dX0_lookAt_18 : decode cX0_lookAt 18 = .ok (.iload_n 1, 1) := by decide +kernel
theorem dX0_lookAt_19 : decode cX0_lookAt 19 = .ok (.iaload, 1) := by decide +kernel
theorem dX0_lookAt_20 : decode cX0_lookAt 20 = .ok (.isub, 1) := by decide +kernel
theorem dX0_lookAt_21 : decode cX0_lookAt 21 = .ok (.istore_n 3, 1) := by decide +kernel
theorem dX0_lookAt_22 : decode cX0_lookAt 22 = .ok (.iconst 0, 1) := by decide +kernel
theorem dX0_lookAt_23 : decode cX0_lookAt 23 = .ok (.istore 4, 2) := by decide +kernel
theorem dX0_lookAt_25 : decode cX0_lookAt 25 = .ok (.iload 4, 2) := by decide +kernel
theorem dX0_lookAt_27 : decode cX0_lookAt 27 = .ok (.bipush 9, 2) := by decide +kernel
theorem dX0_lookAt_29 : decode cX0_lookAt 29 = .ok (.if_icmp .ge 135, 3) := by decide +kernel
theorem dX0_lookAt_32 : decode cX0_lookAt 32 = .ok (.iload_n 1, 1) := by decide +kernel
theorem dX0_lookAt_33 : decode cX0_lookAt 33 = .ok (.bipush 9, 2) := by decide +kernel
theorem dX0_lookAt_35 : decode cX0_lookAt 35 = .ok (.imul, 1) := by decide +kernel
theorem dX0_lookAt_36 : decode cX0_lookAt 36 = .ok (.iload 4, 2) := by decide +kernel
theorem dX0_lookAt_38 : decode cX0_lookAt 38 = .ok (.iadd, 1) := by decide +kernel
theorem dX0_lookAt_39 : decode cX0_lookAt 39 = .ok (.istore 5, 2) := by decide +kernel
theorem dX0_lookAt_41 : decode cX0_lookAt 41 = .ok (.aload_n 0, 1) := by decide +kernel
theorem dX0_lookAt_42 : decode cX0_lookAt 42 = .ok (.iload_n 1, 1) := by decide +kernel
theorem dX0_lookAt_43 : decode cX0_lookAt 43 = .ok (.iload 4, 2) := by decide +kernel
theorem dX0_lookAt_45 : decode cX0_lookAt 45 = .ok (.invokevirtual 56, 3) := by decide +kernel
theorem dX0_lookAt_48 : decode cX0_lookAt 48 = .ok (.aload_n 0, 1) := by decide +kernel
theorem dX0_lookAt_49 : decode cX0_lookAt 49 = .ok (.iload_n 1, 1) := by decide +kernel
theorem dX0_lookAt_50 : decode cX0_lookAt 50 = .ok (.iload 4, 2) := by decide +kernel
theorem dX0_lookAt_52 : decode cX0_lookAt 52 = .ok (.invokevirtual 59, 3) := by decide +kernel
theorem dX0_lookAt_55 : decode cX0_lookAt 55 = .ok (.ifCond .eq 22, 3) := by decide +kernel
theorem dX0_lookAt_58 : decode cX0_lookAt 58 = .ok (.aload_n 0, 1) := by decide +kernel
theorem dX0_lookAt_59 : decode cX0_lookAt 59 = .ok (.getfield 21, 3) := by decide +kernel
theorem dX0_lookAt_62 : decode cX0_lookAt 62 = .ok (.iload 5, 2) := by decide +kernel
theorem dX0_lookAt_64 : decode cX0_lookAt 64 = .ok (.iconst 1, 1) := by decide +kernel
theorem dX0_lookAt_65 : decode cX0_lookAt 65 = .ok (.iastore, 1) := by decide +kernel
theorem dX0_lookAt_66 : decode cX0_lookAt 66 = .ok (.aload_n 0, 1) := by decide +kernel
theorem dX0_lookAt_67 : decode cX0_lookAt 67 = .ok (.getfield 24, 3) := by decide +kernel
theorem dX0_lookAt_70 : decode cX0_lookAt 70 = .ok (.iload 5, 2) := by decide +kernel
theorem dX0_lookAt_72 : decode cX0_lookAt 72 = .ok (.iconst 0, 1) := by decide +kernel
theorem dX0_lookAt_73 : decode cX0_lookAt 73 = .ok (.iastore, 1) := by decide +kernel
theorem dX0_lookAt_74 : decode cX0_lookAt 74 = .ok (.goto 84, 3) := by decide +kernel
theorem dX0_lookAt_77 : decode cX0_lookAt 77 = .ok (.aload_n 0, 1) := by decide +kernel
theorem dX0_lookAt_78 : decode cX0_lookAt 78 = .ok (.getfield 15, 3) := by decide +kernel
theorem dX0_lookAt_81 : decode cX0_lookAt 81 = .ok (.iload 5, 2) := by decide +kernel
theorem dX0_lookAt_83 : decode cX0_lookAt 83 = .ok (.iaload, 1) := by decide +kernel
theorem dX0_lookAt_84 : decode cX0_lookAt 84 = .ok (.istore 6, 2) := by decide +kernel
theorem dX0_lookAt_86 : decode cX0_lookAt 86 = .ok (.aload_n 0, 1) := by decide +kernel
theorem dX0_lookAt_87 : decode cX0_lookAt 87 = .ok (.getfield 30, 3) := by decide +kernel
theorem dX0_lookAt_90 : decode cX0_lookAt 90 = .ok (.iload_n 2, 1) := by decide +kernel
theorem dX0_lookAt_91 : decode cX0_lookAt 91 = .ok (.invokevirtual 63, 3) := by decide +kernel
theorem dX0_lookAt_94 : decode cX0_lookAt 94 = .ok (.aload_n 0, 1) := by decide +kernel
theorem dX0_lookAt_95 : decode cX0_lookAt 95 = .ok (.getfield 30, 3) := by decide +kernel
theorem dX0_lookAt_98 : decode cX0_lookAt 98 = .ok (.iload_n 3, 1) := by decide +kernel
theorem dX0_lookAt_99 : decode cX0_lookAt 99 = .ok (.invokevirtual 63, 3) := by decide +kernel
theorem dX0_lookAt_102 : decode cX0_lookAt 102 = .ok (.iload 6, 2) := by decide +kernel
theorem dX0_lookAt_104 : decode cX0_lookAt 104 = .ok (.isub, 1) := by decide +kernel
theorem dX0_lookAt_105 : decode cX0_lookAt 105 = .ok (.invokestatic 67, 3) := by decide +kernel
theorem dX0_lookAt_108 : decode cX0_lookAt 108 = .ok (.istore 7, 2) := by decide +kernel
theorem dX0_lookAt_110 : decode cX0_lookAt 110 = .ok (.aload_n 0, 1) := by decide +kernel
theorem dX0_lookAt_111 : decode cX0_lookAt 111 = .ok (.getfield 21, 3) := by decide +kernel
theorem dX0_lookAt_114 : decode cX0_lookAt 114 = .ok (.iload 5, 2) := by decide +kernel
theorem dX0_lookAt_116 : decode cX0_lookAt 116 = .ok (.iload 7, 2) := by decide +kernel
theorem dX0_lookAt_118 : decode cX0_lookAt 118 = .ok (.aload_n 0, 1) := by decide +kernel
theorem dX0_lookAt_119 : decode cX0_lookAt 119 = .ok (.iload_n 1, 1) := by decide +kernel
theorem dX0_lookAt_120 : decode cX0_lookAt 120 = .ok (.iload 4, 2) := by decide +kernel
theorem dX0_lookAt_122 : decode cX0_lookAt 122 = .ok (.invokevirtual 73, 3) := by decide +kernel
theorem dX0_lookAt_125 : decode cX0_lookAt 125 = .ok (.invokestatic 67, 3) := by decide +kernel
theorem dX0_lookAt_128 : decode cX0_lookAt 128 = .ok (.iastore, 1) := by decide +kernel
theorem dX0_lookAt_129 : decode cX0_lookAt 129 = .ok (.aload_n 0, 1) := by decide +kernel
theorem dX0_lookAt_130 : decode cX0_lookAt 130 = .ok (.getfield 24, 3) := by decide +kernel
theorem dX0_lookAt_133 : decode cX0_lookAt 133 = .ok (.iload 5, 2) := by decide +kernel
theorem dX0_lookAt_135 : decode cX0_lookAt 135 = .ok (.aload_n 0, 1) := by decide +kernel
theorem dX0_lookAt_136 : decode cX0_lookAt 136 = .ok (.getfield 30, 3) := by decide +kernel
theorem dX0_lookAt_139 : decode cX0_lookAt 139 = .ok (.iload_n 2, 1) := by decide +kernel
theorem dX0_lookAt_140 : decode cX0_lookAt 140 = .ok (.invokevirtual 76, 3) := by decide +kernel
theorem dX0_lookAt_143 : decode cX0_lookAt 143 = .ok (.aload_n 0, 1) := by decide +kernel
theorem dX0_lookAt_144 : decode cX0_lookAt 144 = .ok (.getfield 30, 3) := by decide +kernel
theorem dX0_lookAt_147 : decode cX0_lookAt 147 = .ok (.iload_n 3, 1) := by decide +kernel
theorem dX0_lookAt_148 : decode cX0_lookAt 148 = .ok (.invokevirtual 76, 3) := by decide +kernel
theorem dX0_lookAt_151 : decode cX0_lookAt 151 = .ok (.iload 6, 2) := by decide +kernel
theorem dX0_lookAt_153 : decode cX0_lookAt 153 = .ok (.isub, 1) := by decide +kernel
theorem dX0_lookAt_154 : decode cX0_lookAt 154 = .ok (.invokestatic 79, 3) := by decide +kernel
theorem dX0_lookAt_157 : decode cX0_lookAt 157 = .ok (.iastore, 1) := by decide +kernel
theorem dX0_lookAt_158 : decode cX0_lookAt 158 = .ok (.iinc 4 1, 3) := by decide +kernel
theorem dX0_lookAt_161 : decode cX0_lookAt 161 = .ok (.goto (-136), 3) := by decide +kernel
theorem dX0_lookAt_164 : decode cX0_lookAt 164 = .ok (.return_, 1) := by decide +kernel
theorem dX0_isOpen_0 : decode cX0_isOpen 0 = .ok (.iload_n 2, 1) := by decide +kernel
theorem dX0_isOpen_1 : decode cX0_isOpen 1 = .ok (.aload_n 0, 1) := by decide +kernel
theorem dX0_isOpen_2 : decode cX0_isOpen 2 = .ok (.getfield 21, 3) := by decide +kernel
theorem dX0_isOpen_5 : decode cX0_isOpen 5 = .ok (.iload_n 1, 1) := by decide +kernel
theorem dX0_isOpen_6 : decode cX0_isOpen 6 = .ok (.iaload, 1) := by decide +kernel
theorem dX0_isOpen_7 : decode cX0_isOpen 7 = .ok (.if_icmp .lt 17, 3) := by decide +kernel
theorem dX0_isOpen_10 : decode cX0_isOpen 10 = .ok (.iload_n 2, 1) := by decide +kernel
theorem dX0_isOpen_11 : decode cX0_isOpen 11 = .ok (.aload_n 0, 1) := by decide +kernel
theorem dX0_isOpen_12 : decode cX0_isOpen 12 = .ok (.getfield 24, 3) := by decide +kernel
theorem dX0_isOpen_15 : decode cX0_isOpen 15 = .ok (.iload_n 1, 1) := by decide +kernel
theorem dX0_isOpen_16 : decode cX0_isOpen 16 = .ok (.iaload, 1) := by decide +kernel
theorem dX0_isOpen_17 : decode cX0_isOpen 17 = .ok (.if_icmp .gt 7, 3) := by decide +kernel
theorem dX0_isOpen_20 : decode cX0_isOpen 20 = .ok (.iconst 1, 1) := by decide +kernel
theorem dX0_isOpen_21 : decode cX0_isOpen 21 = .ok (.goto 4, 3) := by decide +kernel
theorem dX0_isOpen_24 : decode cX0_isOpen 24 = .ok (.iconst 0, 1) := by decide +kernel
theorem dX0_isOpen_25 : decode cX0_isOpen 25 = .ok (.ireturn, 1) := by decide +kernel
theorem dX0_measure_0 : decode cX0_measure 0 = .ok (.iload_n 1, 1) := by decide +kernel
theorem dX0_measure_1 : decode cX0_measure 1 = .ok (.bipush 9, 2) := by decide +kernel
theorem dX0_measure_3 : decode cX0_measure 3 = .ok (.imul, 1) := by decide +kernel
theorem dX0_measure_4 : decode cX0_measure 4 = .ok (.iload_n 2, 1) := by decide +kernel
theorem dX0_measure_5 : decode cX0_measure 5 = .ok (.iadd, 1) := by decide +kernel
theorem dX0_measure_6 : decode cX0_measure 6 = .ok (.istore_n 3, 1) := by decide +kernel
theorem dX0_measure_7 : decode cX0_measure 7 = .ok (.iload_n 2, 1) := by decide +kernel
theorem dX0_measure_8 : decode cX0_measure 8 = .ok (.iconst 3, 1) := by decide +kernel
theorem dX0_measure_9 : decode cX0_measure 9 = .ok (.idiv, 1) := by decide +kernel
theorem dX0_measure_10 : decode cX0_measure 10 = .ok (.istore 4, 2) := by decide +kernel
theorem dX0_measure_12 : decode cX0_measure 12 = .ok (.iload_n 2, 1) := by decide +kernel
theorem dX0_measure_13 : decode cX0_measure 13 = .ok (.iconst 3, 1) := by decide +kernel
theorem dX0_measure_14 : decode cX0_measure 14 = .ok (.irem, 1) := by decide +kernel
theorem dX0_measure_15 : decode cX0_measure 15 = .ok (.istore 5, 2) := by decide +kernel
theorem dX0_measure_17 : decode cX0_measure 17 = .ok (.aload_n 0, 1) := by decide +kernel
theorem dX0_measure_18 : decode cX0_measure 18 = .ok (.getfield 34, 3) := by decide +kernel
theorem dX0_measure_21 : decode cX0_measure 21 = .ok (.iload 4, 2) := by decide +kernel
theorem dX0_measure_23 : decode cX0_measure 23 = .ok (.invokevirtual 82, 3) := by decide +kernel
theorem dX0_measure_26 : decode cX0_measure 26 = .ok (.aload_n 0, 1) := by decide +kernel
theorem dX0_measure_27 : decode cX0_measure 27 = .ok (.getfield 38, 3) := by decide +kernel
theorem dX0_measure_30 : decode cX0_measure 30 = .ok (.iload 5, 2) := by decide +kernel
theorem dX0_measure_32 : decode cX0_measure 32 = .ok (.invokevirtual 82, 3) := by decide +kernel
theorem dX0_measure_35 : decode cX0_measure 35 = .ok (.iadd, 1) := by decide +kernel
theorem dX0_measure_36 : decode cX0_measure 36 = .ok (.istore 6, 2) := by decide +kernel
theorem dX0_measure_38 : decode cX0_measure 38 = .ok (.aload_n 0, 1) := by decide +kernel
theorem dX0_measure_39 : decode cX0_measure 39 = .ok (.getfield 9, 3) := by decide +kernel
theorem dX0_measure_42 : decode cX0_measure 42 = .ok (.iload_n 3, 1) := by decide +kernel
theorem dX0_measure_43 : decode cX0_measure 43 = .ok (.aload_n 0, 1) := by decide +kernel
theorem dX0_measure_44 : decode cX0_measure 44 = .ok (.getfield 34, 3) := by decide +kernel
theorem dX0_measure_47 : decode cX0_measure 47 = .ok (.iload 4, 2) := by decide +kernel
theorem dX0_measure_49 : decode cX0_measure 49 = .ok (.invokevirtual 87, 3) := by decide +kernel
theorem dX0_measure_52 : decode cX0_measure 52 = .ok (.aload_n 0, 1) := by decide +kernel
theorem dX0_measure_53 : decode cX0_measure 53 = .ok (.getfield 38, 3) := by decide +kernel
theorem dX0_measure_56 : decode cX0_measure 56 = .ok (.iload 5, 2) := by decide +kernel
theorem dX0_measure_58 : decode cX0_measure 58 = .ok (.invokevirtual 87, 3) := by decide +kernel
theorem dX0_measure_61 : decode cX0_measure 61 = .ok (.iadd, 1) := by decide +kernel
theorem dX0_measure_62 : decode cX0_measure 62 = .ok (.iastore, 1) := by decide +kernel
theorem dX0_measure_63 : decode cX0_measure 63 = .ok (.aload_n 0, 1) := by decide +kernel
theorem dX0_measure_64 : decode cX0_measure 64 = .ok (.getfield 15, 3) := by decide +kernel
theorem dX0_measure_67 : decode cX0_measure 67 = .ok (.iload_n 3, 1) := by decide +kernel
theorem dX0_measure_68 : decode cX0_measure 68 = .ok (.aload_n 0, 1) := by decide +kernel
theorem dX0_measure_69 : decode cX0_measure 69 = .ok (.getfield 30, 3) := by decide +kernel
theorem dX0_measure_72 : decode cX0_measure 72 = .ok (.getfield 45, 3) := by decide +kernel
theorem dX0_measure_75 : decode cX0_measure 75 = .ok (.iload_n 1, 1) := by decide +kernel
theorem dX0_measure_76 : decode cX0_measure 76 = .ok (.iaload, 1) := by decide +kernel
theorem dX0_measure_77 : decode cX0_measure 77 = .ok (.iload 6, 2) := by decide +kernel
theorem dX0_measure_79 : decode cX0_measure 79 = .ok (.isub, 1) := by decide +kernel
theorem dX0_measure_80 : decode cX0_measure 80 = .ok (.iastore, 1) := by decide +kernel
theorem dX0_measure_81 : decode cX0_measure 81 = .ok (.aload_n 0, 1) := by decide +kernel
theorem dX0_measure_82 : decode cX0_measure 82 = .ok (.getfield 18, 3) := by decide +kernel
theorem dX0_measure_85 : decode cX0_measure 85 = .ok (.iload_n 3, 1) := by decide +kernel
theorem dX0_measure_86 : decode cX0_measure 86 = .ok (.iload 6, 2) := by decide +kernel
theorem dX0_measure_88 : decode cX0_measure 88 = .ok (.aload_n 0, 1) := by decide +kernel
theorem dX0_measure_89 : decode cX0_measure 89 = .ok (.getfield 30, 3) := by decide +kernel
theorem dX0_measure_92 : decode cX0_measure 92 = .ok (.getfield 50, 3) := by decide +kernel
theorem dX0_measure_95 : decode cX0_measure 95 = .ok (.iload_n 1, 1) := by decide +kernel
theorem dX0_measure_96 : decode cX0_measure 96 = .ok (.iaload, 1) := by decide +kernel
theorem dX0_measure_97 : decode cX0_measure 97 = .ok (.isub, 1) := by decide +kernel
theorem dX0_measure_98 : decode cX0_measure 98 = .ok (.iastore, 1) := by decide +kernel
theorem dX0_measure_99 : decode cX0_measure 99 = .ok (.return_, 1) := by decide +kernel
theorem dX0_isForbidden_0 : decode cX0_isForbidden 0 = .ok (.iload_n 1, 1) := by decide +kernel
theorem dX0_isForbidden_1 : decode cX0_isForbidden 1 = .ok (.bipush 9, 2) := by decide +kernel
theorem dX0_isForbidden_3 : decode cX0_isForbidden 3 = .ok (.imul, 1) := by decide +kernel
theorem dX0_isForbidden_4 : decode cX0_isForbidden 4 = .ok (.iload_n 2, 1) := by decide +kernel
theorem dX0_isForbidden_5 : decode cX0_isForbidden 5 = .ok (.iadd, 1) := by decide +kernel
theorem dX0_isForbidden_6 : decode cX0_isForbidden 6 = .ok (.istore_n 3, 1) := by decide +kernel
theorem dX0_isForbidden_7 : decode cX0_isForbidden 7 = .ok (.iload_n 2, 1) := by decide +kernel
theorem dX0_isForbidden_8 : decode cX0_isForbidden 8 = .ok (.iconst 3, 1) := by decide +kernel
theorem dX0_isForbidden_9 : decode cX0_isForbidden 9 = .ok (.idiv, 1) := by decide +kernel
theorem dX0_isForbidden_10 : decode cX0_isForbidden 10 = .ok (.istore 4, 2) := by decide +kernel
theorem dX0_isForbidden_12 : decode cX0_isForbidden 12 = .ok (.iload_n 2, 1) := by decide +kernel
theorem dX0_isForbidden_13 : decode cX0_isForbidden 13 = .ok (.iconst 3, 1) := by decide +kernel
theorem dX0_isForbidden_14 : decode cX0_isForbidden 14 = .ok (.irem, 1) := by decide +kernel
theorem dX0_isForbidden_15 : decode cX0_isForbidden 15 = .ok (.istore 5, 2) := by decide +kernel
theorem dX0_isForbidden_17 : decode cX0_isForbidden 17 = .ok (.aload_n 0, 1) := by decide +kernel
theorem dX0_isForbidden_18 : decode cX0_isForbidden 18 = .ok (.getfield 34, 3) := by decide +kernel
theorem dX0_isForbidden_21 : decode cX0_isForbidden 21 = .ok (.iload 4, 2) := by decide +kernel
theorem dX0_isForbidden_23 : decode cX0_isForbidden 23 = .ok (.iload_n 1, 1) := by decide +kernel
theorem dX0_isForbidden_24 : decode cX0_isForbidden 24 = .ok (.invokevirtual 90, 3) := by decide +kernel
theorem dX0_isForbidden_27 : decode cX0_isForbidden 27 = .ok (.ifCond .eq 16, 3) := by decide +kernel
theorem dX0_isForbidden_30 : decode cX0_isForbidden 30 = .ok (.aload_n 0, 1) := by decide +kernel
theorem dX0_isForbidden_31 : decode cX0_isForbidden 31 = .ok (.getfield 38, 3) := by decide +kernel
theorem dX0_isForbidden_34 : decode cX0_isForbidden 34 = .ok (.iload 5, 2) := by decide +kernel
theorem dX0_isForbidden_36 : decode cX0_isForbidden 36 = .ok (.iload_n 1, 1) := by decide +kernel
theorem dX0_isForbidden_37 : decode cX0_isForbidden 37 = .ok (.invokevirtual 90, 3) := by decide +kernel
theorem dX0_isForbidden_40 : decode cX0_isForbidden 40 = .ok (.ifCond .ne 5, 3) := by decide +kernel
theorem dX0_isForbidden_43 : decode cX0_isForbidden 43 = .ok (.iconst 1, 1) := by decide +kernel
theorem dX0_isForbidden_44 : decode cX0_isForbidden 44 = .ok (.ireturn, 1) := by decide +kernel
theorem dX0_isForbidden_45 : decode cX0_isForbidden 45 = .ok (.aload_n 0, 1) := by decide +kernel
theorem dX0_isForbidden_46 : decode cX0_isForbidden 46 = .ok (.getfield 15, 3) := by decide +kernel
theorem dX0_isForbidden_49 : decode cX0_isForbidden 49 = .ok (.iload_n 3, 1) := by decide +kernel
theorem dX0_isForbidden_50 : decode cX0_isForbidden 50 = .ok (.iaload, 1) := by decide +kernel
theorem dX0_isForbidden_51 : decode cX0_isForbidden 51 = .ok (.invokestatic 93, 3) := by decide +kernel
theorem dX0_isForbidden_54 : decode cX0_isForbidden 54 = .ok (.aload_n 0, 1) := by decide +kernel
theorem dX0_isForbidden_55 : decode cX0_isForbidden 55 = .ok (.getfield 30, 3) := by decide +kernel
theorem dX0_isForbidden_58 : decode cX0_isForbidden 58 = .ok (.getfield 96, 3) := by decide +kernel
theorem dX0_isForbidden_61 : decode cX0_isForbidden 61 = .ok (.if_icmp .gt 22, 3) := by decide +kernel
theorem dX0_isForbidden_64 : decode cX0_isForbidden 64 = .ok (.aload_n 0, 1) := by decide +kernel
theorem dX0_isForbidden_65 : decode cX0_isForbidden 65 = .ok (.getfield 18, 3) := by decide +kernel
theorem dX0_isForbidden_68 : decode cX0_isForbidden 68 = .ok (.iload_n 3, 1) := by decide +kernel
theorem dX0_isForbidden_69 : decode cX0_isForbidden 69 = .ok (.iaload, 1) := by decide +kernel
theorem dX0_isForbidden_70 : decode cX0_isForbidden 70 = .ok (.invokestatic 93, 3) := by decide +kernel
theorem dX0_isForbidden_73 : decode cX0_isForbidden 73 = .ok (.aload_n 0, 1) := by decide +kernel
theorem dX0_isForbidden_74 : decode cX0_isForbidden 74 = .ok (.getfield 30, 3) := by decide +kernel
theorem dX0_isForbidden_77 : decode cX0_isForbidden 77 = .ok (.getfield 100, 3) := by decide +kernel
theorem dX0_isForbidden_80 : decode cX0_isForbidden 80 = .ok (.if_icmp .le 5, 3) := by decide +kernel
theorem dX0_isForbidden_83 : decode cX0_isForbidden 83 = .ok (.iconst 1, 1) := by decide +kernel
theorem dX0_isForbidden_84 : decode cX0_isForbidden 84 = .ok (.ireturn, 1) := by decide +kernel
theorem dX0_isForbidden_85 : decode cX0_isForbidden 85 = .ok (.aload_n 0, 1) := by decide +kernel
theorem dX0_isForbidden_86 : decode cX0_isForbidden 86 = .ok (.getfield 34, 3) := by decide +kernel
theorem dX0_isForbidden_89 : decode cX0_isForbidden 89 = .ok (.iload 4, 2) := by decide +kernel
theorem dX0_isForbidden_91 : decode cX0_isForbidden 91 = .ok (.iload_n 1, 1) := by decide +kernel
theorem dX0_isForbidden_92 : decode cX0_isForbidden 92 = .ok (.invokevirtual 103, 3) := by decide +kernel
theorem dX0_isForbidden_95 : decode cX0_isForbidden 95 = .ok (.aload_n 0, 1) := by decide +kernel
theorem dX0_isForbidden_96 : decode cX0_isForbidden 96 = .ok (.getfield 38, 3) := by decide +kernel
theorem dX0_isForbidden_99 : decode cX0_isForbidden 99 = .ok (.iload 5, 2) := by decide +kernel
theorem dX0_isForbidden_101 : decode cX0_isForbidden 101 = .ok (.iload_n 1, 1) := by decide +kernel
theorem dX0_isForbidden_102 : decode cX0_isForbidden 102 = .ok (.invokevirtual 103, 3) := by decide +kernel
theorem dX0_isForbidden_105 : decode cX0_isForbidden 105 = .ok (.iadd, 1) := by decide +kernel
theorem dX0_isForbidden_106 : decode cX0_isForbidden 106 = .ok (.aload_n 0, 1) := by decide +kernel
theorem dX0_isForbidden_107 : decode cX0_isForbidden 107 = .ok (.getfield 30, 3) := by decide +kernel
theorem dX0_isForbidden_110 : decode cX0_isForbidden 110 = .ok (.getfield 106, 3) := by decide +kernel
theorem dX0_isForbidden_113 : decode cX0_isForbidden 113 = .ok (.iload_n 1, 1) := by decide +kernel
theorem dX0_isForbidden_114 : decode cX0_isForbidden 114 = .ok (.iaload, 1) := by decide +kernel
theorem dX0_isForbidden_115 : decode cX0_isForbidden 115 = .ok (.if_icmp .ge 7, 3) := by decide +kernel
theorem dX0_isForbidden_118 : decode cX0_isForbidden 118 = .ok (.iconst 1, 1) := by decide +kernel
theorem dX0_isForbidden_119 : decode cX0_isForbidden 119 = .ok (.goto 4, 3) := by decide +kernel
theorem dX0_isForbidden_122 : decode cX0_isForbidden 122 = .ok (.iconst 0, 1) := by decide +kernel
theorem dX0_isForbidden_123 : decode cX0_isForbidden 123 = .ok (.ireturn, 1) := by decide +kernel
theorem dX0_unitsNeeded_0 : decode cX0_unitsNeeded 0 = .ok (.aload_n 0, 1) := by decide +kernel
theorem dX0_unitsNeeded_1 : decode cX0_unitsNeeded 1 = .ok (.getfield 30, 3) := by decide +kernel
theorem dX0_unitsNeeded_4 : decode cX0_unitsNeeded 4 = .ok (.getfield 106, 3) := by decide +kernel
theorem dX0_unitsNeeded_7 : decode cX0_unitsNeeded 7 = .ok (.iload_n 1, 1) := by decide +kernel
theorem dX0_unitsNeeded_8 : decode cX0_unitsNeeded 8 = .ok (.iaload, 1) := by decide +kernel
theorem dX0_unitsNeeded_9 : decode cX0_unitsNeeded 9 = .ok (.ifCond .ne 5, 3) := by decide +kernel
theorem dX0_unitsNeeded_12 : decode cX0_unitsNeeded 12 = .ok (.iconst 0, 1) := by decide +kernel
theorem dX0_unitsNeeded_13 : decode cX0_unitsNeeded 13 = .ok (.ireturn, 1) := by decide +kernel
theorem dX0_unitsNeeded_14 : decode cX0_unitsNeeded 14 = .ok (.aload_n 0, 1) := by decide +kernel
theorem dX0_unitsNeeded_15 : decode cX0_unitsNeeded 15 = .ok (.getfield 34, 3) := by decide +kernel
theorem dX0_unitsNeeded_18 : decode cX0_unitsNeeded 18 = .ok (.iload_n 2, 1) := by decide +kernel
theorem dX0_unitsNeeded_19 : decode cX0_unitsNeeded 19 = .ok (.iconst 3, 1) := by decide +kernel
theorem dX0_unitsNeeded_20 : decode cX0_unitsNeeded 20 = .ok (.idiv, 1) := by decide +kernel
theorem dX0_unitsNeeded_21 : decode cX0_unitsNeeded 21 = .ok (.iload_n 1, 1) := by decide +kernel
theorem dX0_unitsNeeded_22 : decode cX0_unitsNeeded 22 = .ok (.invokevirtual 109, 3) := by decide +kernel
theorem dX0_unitsNeeded_25 : decode cX0_unitsNeeded 25 = .ok (.aload_n 0, 1) := by decide +kernel
theorem dX0_unitsNeeded_26 : decode cX0_unitsNeeded 26 = .ok (.getfield 38, 3) := by decide +kernel
theorem dX0_unitsNeeded_29 : decode cX0_unitsNeeded 29 = .ok (.iload_n 2, 1) := by decide +kernel
theorem dX0_unitsNeeded_30 : decode cX0_unitsNeeded 30 = .ok (.iconst 3, 1) := by decide +kernel
theorem dX0_unitsNeeded_31 : decode cX0_unitsNeeded 31 = .ok (.irem, 1) := by decide +kernel
theorem dX0_unitsNeeded_32 : decode cX0_unitsNeeded 32 = .ok (.iload_n 1, 1) := by decide +kernel
theorem dX0_unitsNeeded_33 : decode cX0_unitsNeeded 33 = .ok (.invokevirtual 109, 3) := by decide +kernel
theorem dX0_unitsNeeded_36 : decode cX0_unitsNeeded 36 = .ok (.iadd, 1) := by decide +kernel
theorem dX0_unitsNeeded_37 : decode cX0_unitsNeeded 37 = .ok (.ireturn, 1) := by decide +kernel
theorem dX0_startCost_0 : decode cX0_startCost 0 = .ok (.iload_n 1, 1) := by decide +kernel
theorem dX0_startCost_1 : decode cX0_startCost 1 = .ok (.iconst 3, 1) := by decide +kernel
theorem dX0_startCost_2 : decode cX0_startCost 2 = .ok (.idiv, 1) := by decide +kernel
theorem dX0_startCost_3 : decode cX0_startCost 3 = .ok (.istore_n 3, 1) := by decide +kernel
theorem dX0_startCost_4 : decode cX0_startCost 4 = .ok (.iload_n 1, 1) := by decide +kernel
theorem dX0_startCost_5 : decode cX0_startCost 5 = .ok (.iconst 3, 1) := by decide +kernel
theorem dX0_startCost_6 : decode cX0_startCost 6 = .ok (.irem, 1) := by decide +kernel
theorem dX0_startCost_7 : decode cX0_startCost 7 = .ok (.istore 4, 2) := by decide +kernel
theorem dX0_startCost_9 : decode cX0_startCost 9 = .ok (.iload_n 2, 1) := by decide +kernel
theorem dX0_startCost_10 : decode cX0_startCost 10 = .ok (.iconst 3, 1) := by decide +kernel
theorem dX0_startCost_11 : decode cX0_startCost 11 = .ok (.idiv, 1) := by decide +kernel
theorem dX0_startCost_12 : decode cX0_startCost 12 = .ok (.istore 5, 2) := by decide +kernel
theorem dX0_startCost_14 : decode cX0_startCost 14 = .ok (.iload_n 2, 1) := by decide +kernel
theorem dX0_startCost_15 : decode cX0_startCost 15 = .ok (.iconst 3, 1) := by decide +kernel
theorem dX0_startCost_16 : decode cX0_startCost 16 = .ok (.irem, 1) := by decide +kernel
theorem dX0_startCost_17 : decode cX0_startCost 17 = .ok (.istore 6, 2) := by decide +kernel
theorem dX0_startCost_19 : decode cX0_startCost 19 = .ok (.iload_n 3, 1) := by decide +kernel
theorem dX0_startCost_20 : decode cX0_startCost 20 = .ok (.iload 5, 2) := by decide +kernel
theorem dX0_startCost_22 : decode cX0_startCost 22 = .ok (.invokestatic 112, 3) := by decide +kernel
theorem dX0_startCost_25 : decode cX0_startCost 25 = .ok (.ifCond .eq 13, 3) := by decide +kernel
theorem dX0_startCost_28 : decode cX0_startCost 28 = .ok (.iload 4, 2) := by decide +kernel
theorem dX0_startCost_30 : decode cX0_startCost 30 = .ok (.iload 6, 2) := by decide +kernel
theorem dX0_startCost_32 : decode cX0_startCost 32 = .ok (.invokestatic 112, 3) := by decide +kernel
theorem dX0_startCost_35 : decode cX0_startCost 35 = .ok (.ifCond .ne 5, 3) := by decide +kernel
theorem dX0_startCost_38 : decode cX0_startCost 38 = .ok (.iconst (-1), 1) := by decide +kernel
theorem dX0_startCost_39 : decode cX0_startCost 39 = .ok (.ireturn, 1) := by decide +kernel
theorem dX0_startCost_40 : decode cX0_startCost 40 = .ok (.iload_n 3, 1) := by decide +kernel
theorem dX0_startCost_41 : decode cX0_startCost 41 = .ok (.iload 5, 2) := by decide +kernel
theorem dX0_startCost_43 : decode cX0_startCost 43 = .ok (.invokestatic 115, 3) := by decide +kernel
theorem dX0_startCost_46 : decode cX0_startCost 46 = .ok (.ifCond .eq 13, 3) := by decide +kernel
theorem dX0_startCost_49 : decode cX0_startCost 49 = .ok (.aload_n 0, 1) := by decide +kernel
theorem dX0_startCost_50 : decode cX0_startCost 50 = .ok (.getfield 34, 3) := by decide +kernel
theorem dX0_startCost_53 : decode cX0_startCost 53 = .ok (.getfield 118, 3) := by decide +kernel
theorem dX0_startCost_56 : decode cX0_startCost 56 = .ok (.goto 4, 3) := by decide +kernel
theorem dX0_startCost_59 : decode cX0_startCost 59 = .ok (.iconst 0, 1) := by decide +kernel
theorem dX0_startCost_60 : decode cX0_startCost 60 = .ok (.istore 7, 2) := by decide +kernel
theorem dX0_startCost_62 : decode cX0_startCost 62 = .ok (.iload 4, 2) := by decide +kernel
theorem dX0_startCost_64 : decode cX0_startCost 64 = .ok (.iload 6, 2) := by decide +kernel
theorem dX0_startCost_66 : decode cX0_startCost 66 = .ok (.invokestatic 115, 3) := by decide +kernel
theorem dX0_startCost_69 : decode cX0_startCost 69 = .ok (.ifCond .eq 16, 3) := by decide +kernel
theorem dX0_startCost_72 : decode cX0_startCost 72 = .ok (.iload 7, 2) := by decide +kernel
theorem dX0_startCost_74 : decode cX0_startCost 74 = .ok (.aload_n 0, 1) := by decide +kernel
theorem dX0_startCost_75 : decode cX0_startCost 75 = .ok (.getfield 38, 3) := by decide +kernel
theorem dX0_startCost_78 : decode cX0_startCost 78 = .ok (.getfield 118, 3) := by decide +kernel
theorem dX0_startCost_81 : decode cX0_startCost 81 = .ok (.iadd, 1) := by decide +kernel
theorem dX0_startCost_82 : decode cX0_startCost 82 = .ok (.goto 5, 3) := by decide +kernel
theorem dX0_startCost_85 : decode cX0_startCost 85 = .ok (.iload 7, 2) := by decide +kernel
theorem dX0_startCost_87 : decode cX0_startCost 87 = .ok (.ireturn, 1) := by decide +kernel
theorem dX0_countStarts_0 : decode cX0_countStarts 0 = .ok (.iconst 0, 1) := by decide +kernel
theorem dX0_countStarts_1 : decode cX0_countStarts 1 = .ok (.istore_n 1, 1) := by decide +kernel
theorem dX0_countStarts_2 : decode cX0_countStarts 2 = .ok (.iload_n 1, 1) := by decide +kernel
theorem dX0_countStarts_3 : decode cX0_countStarts 3 = .ok (.bipush 9, 2) := by decide +kernel
theorem dX0_countStarts_5 : decode cX0_countStarts 5 = .ok (.if_icmp .ge 40, 3) := by decide +kernel
theorem dX0_countStarts_8 : decode cX0_countStarts 8 = .ok (.iconst 0, 1) := by decide +kernel
theorem dX0_countStarts_9 : decode cX0_countStarts 9 = .ok (.istore_n 2, 1) := by decide +kernel
theorem dX0_countStarts_10 : decode cX0_countStarts 10 = .ok (.iload_n 2, 1) := by decide +kernel
theorem dX0_countStarts_11 : decode cX0_countStarts 11 = .ok (.bipush 9, 2) := by decide +kernel
theorem dX0_countStarts_13 : decode cX0_countStarts 13 = .ok (.if_icmp .ge 26, 3) := by decide +kernel
theorem dX0_countStarts_16 : decode cX0_countStarts 16 = .ok (.aload_n 0, 1) := by decide +kernel
theorem dX0_countStarts_17 : decode cX0_countStarts 17 = .ok (.getfield 27, 3) := by decide +kernel
theorem dX0_countStarts_20 : decode cX0_countStarts 20 = .ok (.iload_n 1, 1) := by decide +kernel
theorem dX0_countStarts_21 : decode cX0_countStarts 21 = .ok (.bipush 9, 2) := by decide +kernel
theorem dX0_countStarts_23 : decode cX0_countStarts 23 = .ok (.imul, 1) := by decide +kernel
theorem dX0_countStarts_24 : decode cX0_countStarts 24 = .ok (.iload_n 2, 1) := by decide +kernel
theorem dX0_countStarts_25 : decode cX0_countStarts 25 = .ok (.iadd, 1) := by decide +kernel
theorem dX0_countStarts_26 : decode cX0_countStarts 26 = .ok (.aload_n 0, 1) := by decide +kernel
theorem dX0_countStarts_27 : decode cX0_countStarts 27 = .ok (.iload_n 2, 1) := by decide +kernel
theorem dX0_countStarts_28 : decode cX0_countStarts 28 = .ok (.iload_n 1, 1) := by decide +kernel
theorem dX0_countStarts_29 : decode cX0_countStarts 29 = .ok (.invokevirtual 121, 3) := by decide +kernel
theorem dX0_countStarts_32 : decode cX0_countStarts 32 = .ok (.iastore, 1) := by decide +kernel
theorem dX0_countStarts_33 : decode cX0_countStarts 33 = .ok (.iinc 2 1, 3) := by decide +kernel
theorem dX0_countStarts_36 : decode cX0_countStarts 36 = .ok (.goto (-26), 3) := by decide +kernel
theorem dX0_countStarts_39 : decode cX0_countStarts 39 = .ok (.iinc 1 1, 3) := by decide +kernel
theorem dX0_countStarts_42 : decode cX0_countStarts 42 = .ok (.goto (-40), 3) := by decide +kernel
theorem dX0_countStarts_45 : decode cX0_countStarts 45 = .ok (.return_, 1) := by decide +kernel
end
section
theorem dX1_init_0 : decode cX1_init 0 = .ok (.aload_n 0, 1) := by decide +kernel
theorem dX1_init_1 : decode cX1_init 1 = .ok (.invokespecial 3, 3) := by decide +kernel
theorem dX1_init_4 : decode cX1_init 4 = .ok (.aload_n 0, 1) := by decide +kernel
theorem dX1_init_5 : decode cX1_init 5 = .ok (.bipush 40, 2) := by decide +kernel
theorem dX1_init_7 : decode cX1_init 7 = .ok (.putfield 9, 3) := by decide +kernel
theorem dX1_init_10 : decode cX1_init 10 = .ok (.aload_n 0, 1) := by decide +kernel
theorem dX1_init_11 : decode cX1_init 11 = .ok (.bipush 40, 2) := by decide +kernel
theorem dX1_init_13 : decode cX1_init 13 = .ok (.putfield 15, 3) := by decide +kernel
theorem dX1_init_16 : decode cX1_init 16 = .ok (.aload_n 0, 1) := by decide +kernel
theorem dX1_init_17 : decode cX1_init 17 = .ok (.bipush 40, 2) := by decide +kernel
theorem dX1_init_19 : decode cX1_init 19 = .ok (.putfield 18, 3) := by decide +kernel
theorem dX1_init_22 : decode cX1_init 22 = .ok (.aload_n 0, 1) := by decide +kernel
theorem dX1_init_23 : decode cX1_init 23 = .ok (.bipush 40, 2) := by decide +kernel
theorem dX1_init_25 : decode cX1_init 25 = .ok (.putfield 21, 3) := by decide +kernel
theorem dX1_init_28 : decode cX1_init 28 = .ok (.aload_n 0, 1) := by decide +kernel
theorem dX1_init_29 : decode cX1_init 29 = .ok (.bipush 20, 2) := by decide +kernel
theorem dX1_init_31 : decode cX1_init 31 = .ok (.putfield 24, 3) := by decide +kernel
theorem dX1_init_34 : decode cX1_init 34 = .ok (.aload_n 0, 1) := by decide +kernel
theorem dX1_init_35 : decode cX1_init 35 = .ok (.bipush 20, 2) := by decide +kernel
theorem dX1_init_37 : decode cX1_init 37 = .ok (.putfield 27, 3) := by decide +kernel
theorem dX1_init_40 : decode cX1_init 40 = .ok (.aload_n 0, 1) := by decide +kernel
theorem dX1_init_41 : decode cX1_init 41 = .ok (.bipush 24, 2) := by decide +kernel
theorem dX1_init_43 : decode cX1_init 43 = .ok (.newarray .int, 2) := by decide +kernel
theorem dX1_init_45 : decode cX1_init 45 = .ok (.putfield 30, 3) := by decide +kernel
theorem dX1_init_48 : decode cX1_init 48 = .ok (.aload_n 0, 1) := by decide +kernel
theorem dX1_init_49 : decode cX1_init 49 = .ok (.bipush 24, 2) := by decide +kernel
theorem dX1_init_51 : decode cX1_init 51 = .ok (.newarray .int, 2) := by decide +kernel
theorem dX1_init_53 : decode cX1_init 53 = .ok (.putfield 34, 3) := by decide +kernel
theorem dX1_init_56 : decode cX1_init 56 = .ok (.aload_n 0, 1) := by decide +kernel
theorem dX1_init_57 : decode cX1_init 57 = .ok (.bipush 24, 2) := by decide +kernel
theorem dX1_init_59 : decode cX1_init 59 = .ok (.newarray .int, 2) := by decide +kernel
theorem dX1_init_61 : decode cX1_init 61 = .ok (.putfield 37, 3) := by decide +kernel
theorem dX1_init_64 : decode cX1_init 64 = .ok (.return_, 1) := by decide +kernel
theorem dX1_leastUpper_0 : decode cX1_leastUpper 0 = .ok (.iconst 0, 1) := by decide +kernel
theorem dX1_leastUpper_1 : decode cX1_leastUpper 1 = .ok (.iload_n 1, 1) := by decide +kernel
theorem dX1_leastUpper_2 : decode cX1_leastUpper 2 = .ok (.aload_n 0, 1) := by decide +kernel
theorem dX1_leastUpper_3 : decode cX1_leastUpper 3 = .ok (.getfield 15, 3) := by decide +kernel
theorem dX1_leastUpper_6 : decode cX1_leastUpper 6 = .ok (.isub, 1) := by decide +kernel
theorem dX1_leastUpper_7 : decode cX1_leastUpper 7 = .ok (.invokestatic 40, 3) := by decide +kernel
theorem dX1_leastUpper_10 : decode cX1_leastUpper 10 = .ok (.ireturn, 1) := by decide +kernel
theorem dX1_mostUpper_0 : decode cX1_mostUpper 0 = .ok (.aload_n 0, 1) := by decide +kernel
theorem dX1_mostUpper_1 : decode cX1_mostUpper 1 = .ok (.getfield 9, 3) := by decide +kernel
theorem dX1_mostUpper_4 : decode cX1_mostUpper 4 = .ok (.iload_n 1, 1) := by decide +kernel
theorem dX1_mostUpper_5 : decode cX1_mostUpper 5 = .ok (.invokestatic 46, 3) := by decide +kernel
theorem dX1_mostUpper_8 : decode cX1_mostUpper 8 = .ok (.ireturn, 1) := by decide +kernel
end
section
theorem dX2_init_0 : decode cX2_init 0 = .ok (.aload_n 0, 1) := by decide +kernel
theorem dX2_init_1 : decode cX2_init 1 = .ok (.invokespecial 3, 3) := by decide +kernel
theorem dX2_init_4 : decode cX2_init 4 = .ok (.aload_n 0, 1) := by decide +kernel
theorem dX2_init_5 : decode cX2_init 5 = .ok (.iconst 3, 1) := by decide +kernel
theorem dX2_init_6 : decode cX2_init 6 = .ok (.putfield 9, 3) := by decide +kernel
theorem dX2_init_9 : decode cX2_init 9 = .ok (.aload_n 0, 1) := by decide +kernel
theorem dX2_init_10 : decode cX2_init 10 = .ok (.bipush 10, 2) := by decide +kernel
theorem dX2_init_12 : decode cX2_init 12 = .ok (.putfield 15, 3) := by decide +kernel
theorem dX2_init_15 : decode cX2_init 15 = .ok (.aload_n 0, 1) := by decide +kernel
theorem dX2_init_16 : decode cX2_init 16 = .ok (.iconst 2, 1) := by decide +kernel
theorem dX2_init_17 : decode cX2_init 17 = .ok (.putfield 18, 3) := by decide +kernel
theorem dX2_init_20 : decode cX2_init 20 = .ok (.aload_n 0, 1) := by decide +kernel
theorem dX2_init_21 : decode cX2_init 21 = .ok (.bipush 10, 2) := by decide +kernel
theorem dX2_init_23 : decode cX2_init 23 = .ok (.putfield 21, 3) := by decide +kernel
theorem dX2_init_26 : decode cX2_init 26 = .ok (.aload_n 0, 1) := by decide +kernel
theorem dX2_init_27 : decode cX2_init 27 = .ok (.iconst 5, 1) := by decide +kernel
theorem dX2_init_28 : decode cX2_init 28 = .ok (.putfield 24, 3) := by decide +kernel
theorem dX2_init_31 : decode cX2_init 31 = .ok (.aload_n 0, 1) := by decide +kernel
theorem dX2_init_32 : decode cX2_init 32 = .ok (.iconst 0, 1) := by decide +kernel
theorem dX2_init_33 : decode cX2_init 33 = .ok (.putfield 27, 3) := by decide +kernel
theorem dX2_init_36 : decode cX2_init 36 = .ok (.aload_n 0, 1) := by decide +kernel
theorem dX2_init_37 : decode cX2_init 37 = .ok (.iconst 0, 1) := by decide +kernel
theorem dX2_init_38 : decode cX2_init 38 = .ok (.putfield 30, 3) := by decide +kernel
theorem dX2_init_41 : decode cX2_init 41 = .ok (.aload_n 0, 1) := by decide +kernel
theorem dX2_init_42 : decode cX2_init 42 = .ok (.bipush 24, 2) := by decide +kernel
theorem dX2_init_44 : decode cX2_init 44 = .ok (.newarray .boolean, 2) := by decide +kernel
theorem dX2_init_46 : decode cX2_init 46 = .ok (.putfield 33, 3) := by decide +kernel
theorem dX2_init_49 : decode cX2_init 49 = .ok (.return_, 1) := by decide +kernel
theorem dX2_canBe_0 : decode cX2_canBe 0 = .ok (.iload_n 1, 1) := by decide +kernel
theorem dX2_canBe_1 : decode cX2_canBe 1 = .ok (.ifCond .eq 12, 3) := by decide +kernel
theorem dX2_canBe_4 : decode cX2_canBe 4 = .ok (.aload_n 0, 1) := by decide +kernel
theorem dX2_canBe_5 : decode cX2_canBe 5 = .ok (.getfield 33, 3) := by decide +kernel
theorem dX2_canBe_8 : decode cX2_canBe 8 = .ok (.iload_n 2, 1) := by decide +kernel
theorem dX2_canBe_9 : decode cX2_canBe 9 = .ok (.baload, 1) := by decide +kernel
theorem dX2_canBe_10 : decode cX2_canBe 10 = .ok (.ifCond .ne 7, 3) := by decide +kernel
theorem dX2_canBe_13 : decode cX2_canBe 13 = .ok (.iconst 1, 1) := by decide +kernel
theorem dX2_canBe_14 : decode cX2_canBe 14 = .ok (.goto 4, 3) := by decide +kernel
theorem dX2_canBe_17 : decode cX2_canBe 17 = .ok (.iconst 0, 1) := by decide +kernel
theorem dX2_canBe_18 : decode cX2_canBe 18 = .ok (.ireturn, 1) := by decide +kernel
theorem dX2_letDown_0 : decode cX2_letDown 0 = .ok (.iload_n 1, 1) := by decide +kernel
theorem dX2_letDown_1 : decode cX2_letDown 1 = .ok (.iconst 1, 1) := by decide +kernel
theorem dX2_letDown_2 : decode cX2_letDown 2 = .ok (.if_icmp .ne 10, 3) := by decide +kernel
theorem dX2_letDown_5 : decode cX2_letDown 5 = .ok (.aload_n 0, 1) := by decide +kernel
theorem dX2_letDown_6 : decode cX2_letDown 6 = .ok (.getfield 9, 3) := by decide +kernel
theorem dX2_letDown_9 : decode cX2_letDown 9 = .ok (.goto 17, 3) := by decide +kernel
theorem dX2_letDown_12 : decode cX2_letDown 12 = .ok (.iload_n 1, 1) := by decide +kernel
theorem dX2_letDown_13 : decode cX2_letDown 13 = .ok (.iconst 2, 1) := by decide +kernel
theorem dX2_letDown_14 : decode cX2_letDown 14 = .ok (.if_icmp .ne 11, 3) := by decide +kernel
theorem dX2_letDown_17 : decode cX2_letDown 17 = .ok (.aload_n 0, 1) := by decide +kernel
theorem dX2_letDown_18 : decode cX2_letDown 18 = .ok (.getfield 18, 3) := by decide +kernel
theorem dX2_letDown_21 : decode cX2_letDown 21 = .ok (.ineg, 1) := by decide +kernel
theorem dX2_letDown_22 : decode cX2_letDown 22 = .ok (.goto 4, 3) := by decide +kernel
theorem dX2_letDown_25 : decode cX2_letDown 25 = .ok (.iconst 0, 1) := by decide +kernel
theorem dX2_letDown_26 : decode cX2_letDown 26 = .ok (.ireturn, 1) := by decide +kernel
theorem dX2_energyOf_0 : decode cX2_energyOf 0 = .ok (.iload_n 1, 1) := by decide +kernel
theorem dX2_energyOf_1 : decode cX2_energyOf 1 = .ok (.iconst 1, 1) := by decide +kernel
theorem dX2_energyOf_2 : decode cX2_energyOf 2 = .ok (.if_icmp .ne 10, 3) := by decide +kernel
theorem dX2_energyOf_5 : decode cX2_energyOf 5 = .ok (.aload_n 0, 1) := by decide +kernel
theorem dX2_energyOf_6 : decode cX2_energyOf 6 = .ok (.getfield 15, 3) := by decide +kernel
theorem dX2_energyOf_9 : decode cX2_energyOf 9 = .ok (.goto 17, 3) := by decide +kernel
theorem dX2_energyOf_12 : decode cX2_energyOf 12 = .ok (.iload_n 1, 1) := by decide +kernel
theorem dX2_energyOf_13 : decode cX2_energyOf 13 = .ok (.iconst 2, 1) := by decide +kernel
theorem dX2_energyOf_14 : decode cX2_energyOf 14 = .ok (.if_icmp .ne 11, 3) := by decide +kernel
theorem dX2_energyOf_17 : decode cX2_energyOf 17 = .ok (.aload_n 0, 1) := by decide +kernel
theorem dX2_energyOf_18 : decode cX2_energyOf 18 = .ok (.getfield 21, 3) := by decide +kernel
theorem dX2_energyOf_21 : decode cX2_energyOf 21 = .ok (.ineg, 1) := by decide +kernel
theorem dX2_energyOf_22 : decode cX2_energyOf 22 = .ok (.goto 4, 3) := by decide +kernel
theorem dX2_energyOf_25 : decode cX2_energyOf 25 = .ok (.iconst 0, 1) := by decide +kernel
theorem dX2_energyOf_26 : decode cX2_energyOf 26 = .ok (.ireturn, 1) := by decide +kernel
theorem dX2_backup_0 : decode cX2_backup 0 = .ok (.iload_n 1, 1) := by decide +kernel
theorem dX2_backup_1 : decode cX2_backup 1 = .ok (.iconst 2, 1) := by decide +kernel
theorem dX2_backup_2 : decode cX2_backup 2 = .ok (.if_icmp .ne 8, 3) := by decide +kernel
theorem dX2_backup_5 : decode cX2_backup 5 = .ok (.aload_n 0, 1) := by decide +kernel
theorem dX2_backup_6 : decode cX2_backup 6 = .ok (.getfield 21, 3) := by decide +kernel
theorem dX2_backup_9 : decode cX2_backup 9 = .ok (.ireturn, 1) := by decide +kernel
theorem dX2_backup_10 : decode cX2_backup 10 = .ok (.iload_n 1, 1) := by decide +kernel
theorem dX2_backup_11 : decode cX2_backup 11 = .ok (.ifCond .ne 19, 3) := by decide +kernel
theorem dX2_backup_14 : decode cX2_backup 14 = .ok (.aload_n 0, 1) := by decide +kernel
theorem dX2_backup_15 : decode cX2_backup 15 = .ok (.getfield 33, 3) := by decide +kernel
theorem dX2_backup_18 : decode cX2_backup 18 = .ok (.iload_n 2, 1) := by decide +kernel
theorem dX2_backup_19 : decode cX2_backup 19 = .ok (.baload, 1) := by decide +kernel
theorem dX2_backup_20 : decode cX2_backup 20 = .ok (.ifCond .ne 10, 3) := by decide +kernel
theorem dX2_backup_23 : decode cX2_backup 23 = .ok (.aload_n 0, 1) := by decide +kernel
theorem dX2_backup_24 : decode cX2_backup 24 = .ok (.getfield 15, 3) := by decide +kernel
theorem dX2_backup_27 : decode cX2_backup 27 = .ok (.goto 4, 3) := by decide +kernel
theorem dX2_backup_30 : decode cX2_backup 30 = .ok (.iconst 0, 1) := by decide +kernel
theorem dX2_backup_31 : decode cX2_backup 31 = .ok (.ireturn, 1) := by decide +kernel
theorem dX2_unitsForBackup_0 : decode cX2_unitsForBackup 0 = .ok (.iload_n 1, 1) := by decide +kernel
theorem dX2_unitsForBackup_1 : decode cX2_unitsForBackup 1 = .ok (.iconst 1, 1) := by decide +kernel
theorem dX2_unitsForBackup_2 : decode cX2_unitsForBackup 2 = .ok (.if_icmp .eq 16, 3) := by decide +kernel
theorem dX2_unitsForBackup_5 : decode cX2_unitsForBackup 5 = .ok (.iload_n 1, 1) := by decide +kernel
theorem dX2_unitsForBackup_6 : decode cX2_unitsForBackup 6 = .ok (.ifCond .ne 19, 3) := by decide +kernel
theorem dX2_unitsForBackup_9 : decode cX2_unitsForBackup 9 = .ok (.aload_n 0, 1) := by decide +kernel
theorem dX2_unitsForBackup_10 : decode cX2_unitsForBackup 10 = .ok (.getfield 33, 3) := by decide +kernel
theorem dX2_unitsForBackup_13 : decode cX2_unitsForBackup 13 = .ok (.iload_n 2, 1) := by decide +kernel
theorem dX2_unitsForBackup_14 : decode cX2_unitsForBackup 14 = .ok (.baload, 1) := by decide +kernel
theorem dX2_unitsForBackup_15 : decode cX2_unitsForBackup 15 = .ok (.ifCond .ne 10, 3) := by decide +kernel
theorem dX2_unitsForBackup_18 : decode cX2_unitsForBackup 18 = .ok (.aload_n 0, 1) := by decide +kernel
theorem dX2_unitsForBackup_19 : decode cX2_unitsForBackup 19 = .ok (.getfield 9, 3) := by decide +kernel
theorem dX2_unitsForBackup_22 : decode cX2_unitsForBackup 22 = .ok (.goto 4, 3) := by decide +kernel
theorem dX2_unitsForBackup_25 : decode cX2_unitsForBackup 25 = .ok (.iconst 0, 1) := by decide +kernel
theorem dX2_unitsForBackup_26 : decode cX2_unitsForBackup 26 = .ok (.ireturn, 1) := by decide +kernel
theorem dX2_isStart_0 : decode cX2_isStart 0 = .ok (.iload_n 0, 1) := by decide +kernel
theorem dX2_isStart_1 : decode cX2_isStart 1 = .ok (.ifCond .ne 11, 3) := by decide +kernel
theorem dX2_isStart_4 : decode cX2_isStart 4 = .ok (.iload_n 1, 1) := by decide +kernel
theorem dX2_isStart_5 : decode cX2_isStart 5 = .ok (.ifCond .eq 7, 3) := by decide +kernel
theorem dX2_isStart_8 : decode cX2_isStart 8 = .ok (.iconst 1, 1) := by decide +kernel
theorem dX2_isStart_9 : decode cX2_isStart 9 = .ok (.goto 4, 3) := by decide +kernel
theorem dX2_isStart_12 : decode cX2_isStart 12 = .ok (.iconst 0, 1) := by decide +kernel
theorem dX2_isStart_13 : decode cX2_isStart 13 = .ok (.ireturn, 1) := by decide +kernel
theorem dX2_canFollow_0 : decode cX2_canFollow 0 = .ok (.iload_n 0, 1) := by decide +kernel
theorem dX2_canFollow_1 : decode cX2_canFollow 1 = .ok (.ifCond .eq 12, 3) := by decide +kernel
theorem dX2_canFollow_4 : decode cX2_canFollow 4 = .ok (.iload_n 1, 1) := by decide +kernel
theorem dX2_canFollow_5 : decode cX2_canFollow 5 = .ok (.ifCond .eq 8, 3) := by decide +kernel
theorem dX2_canFollow_8 : decode cX2_canFollow 8 = .ok (.iload_n 0, 1) := by decide +kernel
theorem dX2_canFollow_9 : decode cX2_canFollow 9 = .ok (.iload_n 1, 1) := by decide +kernel
theorem dX2_canFollow_10 : decode cX2_canFollow 10 = .ok (.if_icmp .ne 7, 3) := by decide +kernel
theorem dX2_canFollow_13 : decode cX2_canFollow 13 = .ok (.iconst 1, 1) := by decide +kernel
theorem dX2_canFollow_14 : decode cX2_canFollow 14 = .ok (.goto 4, 3) := by decide +kernel
theorem dX2_canFollow_17 : decode cX2_canFollow 17 = .ok (.iconst 0, 1) := by decide +kernel
theorem dX2_canFollow_18 : decode cX2_canFollow 18 = .ok (.ireturn, 1) := by decide +kernel
theorem dX2_turnTo_0 : decode cX2_turnTo 0 = .ok (.aload_n 0, 1) := by decide +kernel
theorem dX2_turnTo_1 : decode cX2_turnTo 1 = .ok (.getfield 27, 3) := by decide +kernel
theorem dX2_turnTo_4 : decode cX2_turnTo 4 = .ok (.iload_n 1, 1) := by decide +kernel
theorem dX2_turnTo_5 : decode cX2_turnTo 5 = .ok (.invokestatic 37, 3) := by decide +kernel
theorem dX2_turnTo_8 : decode cX2_turnTo 8 = .ok (.ifCond .eq 13, 3) := by decide +kernel
theorem dX2_turnTo_11 : decode cX2_turnTo 11 = .ok (.aload_n 0, 1) := by decide +kernel
theorem dX2_turnTo_12 : decode cX2_turnTo 12 = .ok (.dup, 1) := by decide +kernel
theorem dX2_turnTo_13 : decode cX2_turnTo 13 = .ok (.getfield 30, 3) := by decide +kernel
theorem dX2_turnTo_16 : decode cX2_turnTo 16 = .ok (.iconst 1, 1) := by decide +kernel
theorem dX2_turnTo_17 : decode cX2_turnTo 17 = .ok (.iadd, 1) := by decide +kernel
theorem dX2_turnTo_18 : decode cX2_turnTo 18 = .ok (.putfield 30, 3) := by decide +kernel
theorem dX2_turnTo_21 : decode cX2_turnTo 21 = .ok (.aload_n 0, 1) := by decide +kernel
theorem dX2_turnTo_22 : decode cX2_turnTo 22 = .ok (.iload_n 1, 1) := by decide +kernel
theorem dX2_turnTo_23 : decode cX2_turnTo 23 = .ok (.putfield 27, 3) := by decide +kernel
theorem dX2_turnTo_26 : decode cX2_turnTo 26 = .ok (.return_, 1) := by decide +kernel
end
section
theorem dX3_init_0 : decode cX3_init 0 = .ok (.aload_n 0, 1) := by decide +kernel
theorem dX3_init_1 : decode cX3_init 1 = .ok (.invokespecial 3, 3) := by decide +kernel
theorem dX3_init_4 : decode cX3_init 4 = .ok (.aload_n 0, 1) := by decide +kernel
theorem dX3_init_5 : decode cX3_init 5 = .ok (.bipush 24, 2) := by decide +kernel
theorem dX3_init_7 : decode cX3_init 7 = .ok (.newarray .int, 2) := by decide +kernel
theorem dX3_init_9 : decode cX3_init 9 = .ok (.putfield 9, 3) := by decide +kernel
theorem dX3_init_12 : decode cX3_init 12 = .ok (.aload_n 0, 1) := by decide +kernel
theorem dX3_init_13 : decode cX3_init 13 = .ok (.iconst 1, 1) := by decide +kernel
theorem dX3_init_14 : decode cX3_init 14 = .ok (.putfield 15, 3) := by decide +kernel
theorem dX3_init_17 : decode cX3_init 17 = .ok (.aload_n 0, 1) := by decide +kernel
theorem dX3_init_18 : decode cX3_init 18 = .ok (.sipush 369, 3) := by decide +kernel
theorem dX3_init_21 : decode cX3_init 21 = .ok (.newarray .int, 2) := by decide +kernel
theorem dX3_init_23 : decode cX3_init 23 = .ok (.putfield 19, 3) := by decide +kernel
theorem dX3_init_26 : decode cX3_init 26 = .ok (.aload_n 0, 1) := by decide +kernel
theorem dX3_init_27 : decode cX3_init 27 = .ok (.sipush 369, 3) := by decide +kernel
theorem dX3_init_30 : decode cX3_init 30 = .ok (.newarray .int, 2) := by decide +kernel
theorem dX3_init_32 : decode cX3_init 32 = .ok (.putfield 22, 3) := by decide +kernel
theorem dX3_init_35 : decode cX3_init 35 = .ok (.aload_n 0, 1) := by decide +kernel
theorem dX3_init_36 : decode cX3_init 36 = .ok (.sipush 369, 3) := by decide +kernel
theorem dX3_init_39 : decode cX3_init 39 = .ok (.newarray .int, 2) := by decide +kernel
theorem dX3_init_41 : decode cX3_init 41 = .ok (.putfield 25, 3) := by decide +kernel
theorem dX3_init_44 : decode cX3_init 44 = .ok (.aload_n 0, 1) := by decide +kernel
theorem dX3_init_45 : decode cX3_init 45 = .ok (.getfield 9, 3) := by decide +kernel
theorem dX3_init_48 : decode cX3_init 48 = .ok (.bipush 10, 2) := by decide +kernel
theorem dX3_init_50 : decode cX3_init 50 = .ok (.invokestatic 28, 3) := by decide +kernel
theorem dX3_init_53 : decode cX3_init 53 = .ok (.return_, 1) := by decide +kernel
theorem dX3_endWith_0 : decode cX3_endWith 0 = .ok (.iconst 0, 1) := by decide +kernel
theorem dX3_endWith_1 : decode cX3_endWith 1 = .ok (.istore_n 2, 1) := by decide +kernel
theorem dX3_endWith_2 : decode cX3_endWith 2 = .ok (.iload_n 2, 1) := by decide +kernel
theorem dX3_endWith_3 : decode cX3_endWith 3 = .ok (.sipush 369, 3) := by decide +kernel
theorem dX3_endWith_6 : decode cX3_endWith 6 = .ok (.if_icmp .ge 21, 3) := by decide +kernel
theorem dX3_endWith_9 : decode cX3_endWith 9 = .ok (.aload_n 0, 1) := by decide +kernel
theorem dX3_endWith_10 : decode cX3_endWith 10 = .ok (.getfield 19, 3) := by decide +kernel
theorem dX3_endWith_13 : decode cX3_endWith 13 = .ok (.iload_n 2, 1) := by decide +kernel
theorem dX3_endWith_14 : decode cX3_endWith 14 = .ok (.iload_n 2, 1) := by decide +kernel
theorem dX3_endWith_15 : decode cX3_endWith 15 = .ok (.bipush 9, 2) := by decide +kernel
theorem dX3_endWith_17 : decode cX3_endWith 17 = .ok (.idiv, 1) := by decide +kernel
theorem dX3_endWith_18 : decode cX3_endWith 18 = .ok (.iload_n 1, 1) := by decide +kernel
theorem dX3_endWith_19 : decode cX3_endWith 19 = .ok (.imul, 1) := by decide +kernel
theorem dX3_endWith_20 : decode cX3_endWith 20 = .ok (.iastore, 1) := by decide +kernel
theorem dX3_endWith_21 : decode cX3_endWith 21 = .ok (.iinc 2 1, 3) := by decide +kernel
theorem dX3_endWith_24 : decode cX3_endWith 24 = .ok (.goto (-22), 3) := by decide +kernel
theorem dX3_endWith_27 : decode cX3_endWith 27 = .ok (.return_, 1) := by decide +kernel
theorem dX3_mixIn_0 : decode cX3_mixIn 0 = .ok (.aload_n 0, 1) := by decide +kernel
theorem dX3_mixIn_1 : decode cX3_mixIn 1 = .ok (.dup, 1) := by decide +kernel
theorem dX3_mixIn_2 : decode cX3_mixIn 2 = .ok (.getfield 15, 3) := by decide +kernel
theorem dX3_mixIn_5 : decode cX3_mixIn 5 = .ok (.iload_n 2, 1) := by decide +kernel
theorem dX3_mixIn_6 : decode cX3_mixIn 6 = .ok (.iadd, 1) := by decide +kernel
theorem dX3_mixIn_7 : decode cX3_mixIn 7 = .ok (.putfield 15, 3) := by decide +kernel
theorem dX3_mixIn_10 : decode cX3_mixIn 10 = .ok (.iconst 0, 1) := by decide +kernel
theorem dX3_mixIn_11 : decode cX3_mixIn 11 = .ok (.istore_n 3, 1) := by decide +kernel
theorem dX3_mixIn_12 : decode cX3_mixIn 12 = .ok (.iload_n 3, 1) := by decide +kernel
theorem dX3_mixIn_13 : decode cX3_mixIn 13 = .ok (.bipush 24, 2) := by decide +kernel
theorem dX3_mixIn_15 : decode cX3_mixIn 15 = .ok (.if_icmp .ge 26, 3) := by decide +kernel
theorem dX3_mixIn_18 : decode cX3_mixIn 18 = .ok (.aload_n 0, 1) := by decide +kernel
theorem dX3_mixIn_19 : decode cX3_mixIn 19 = .ok (.getfield 9, 3) := by decide +kernel
theorem dX3_mixIn_22 : decode cX3_mixIn 22 = .ok (.iload_n 3, 1) := by decide +kernel
theorem dX3_mixIn_23 : decode cX3_mixIn 23 = .ok (.dup2, 1) := by decide +kernel
theorem dX3_mixIn_24 : decode cX3_mixIn 24 = .ok (.iaload, 1) := by decide +kernel
theorem dX3_mixIn_25 : decode cX3_mixIn 25 = .ok (.iload_n 2, 1) := by decide +kernel
theorem dX3_mixIn_26 : decode cX3_mixIn 26 = .ok (.aload_n 1, 1) := by decide +kernel
theorem dX3_mixIn_27 : decode cX3_mixIn 27 = .ok (.getfield 9, 3) := by decide +kernel
theorem dX3_mixIn_30 : decode cX3_mixIn 30 = .ok (.iload_n 3, 1) := by decide +kernel
theorem dX3_mixIn_31 : decode cX3_mixIn 31 = .ok (.iaload, 1) := by decide +kernel
theorem dX3_mixIn_32 : decode cX3_mixIn 32 = .ok (.imul, 1) := by decide +kernel
theorem dX3_mixIn_33 : decode cX3_mixIn 33 = .ok (.iadd, 1) := by decide +kernel
theorem dX3_mixIn_34 : decode cX3_mixIn 34 = .ok (.iastore, 1) := by decide +kernel
theorem dX3_mixIn_35 : decode cX3_mixIn 35 = .ok (.iinc 3 1, 3) := by decide +kernel
theorem dX3_mixIn_38 : decode cX3_mixIn 38 = .ok (.goto (-26), 3) := by decide +kernel
theorem dX3_mixIn_41 : decode cX3_mixIn 41 = .ok (.iconst 0, 1) := by decide +kernel
theorem dX3_mixIn_42 : decode cX3_mixIn 42 = .ok (.istore_n 3, 1) := by decide +kernel
theorem dX3_mixIn_43 : decode cX3_mixIn 43 = .ok (.iload_n 3, 1) := by decide +kernel
theorem dX3_mixIn_44 : decode cX3_mixIn 44 = .ok (.sipush 369, 3) := by decide +kernel
theorem dX3_mixIn_47 : decode cX3_mixIn 47 = .ok (.if_icmp .ge 69, 3) := by decide +kernel
theorem dX3_mixIn_50 : decode cX3_mixIn 50 = .ok (.aload_n 0, 1) := by decide +kernel
theorem dX3_mixIn_51 : decode cX3_mixIn 51 = .ok (.getfield 19, 3) := by decide +kernel
theorem dX3_mixIn_54 : decode cX3_mixIn 54 = .ok (.iload_n 3, 1) := by decide +kernel
theorem dX3_mixIn_55 : decode cX3_mixIn 55 = .ok (.iaload, 1) := by decide +kernel
theorem dX3_mixIn_56 : decode cX3_mixIn 56 = .ok (.ldc 34, 2) := by decide +kernel
theorem dX3_mixIn_58 : decode cX3_mixIn 58 = .ok (.if_icmp .eq 14, 3) := by decide +kernel
theorem dX3_mixIn_61 : decode cX3_mixIn 61 = .ok (.aload_n 1, 1) := by decide +kernel
theorem dX3_mixIn_62 : decode cX3_mixIn 62 = .ok (.getfield 19, 3) := by decide +kernel
theorem dX3_mixIn_65 : decode cX3_mixIn 65 = .ok (.iload_n 3, 1) := by decide +kernel
theorem dX3_mixIn_66 : decode cX3_mixIn 66 = .ok (.iaload, 1) := by decide +kernel
theorem dX3_mixIn_67 : decode cX3_mixIn 67 = .ok (.ldc 34, 2) := by decide +kernel
theorem dX3_mixIn_69 : decode cX3_mixIn 69 = .ok (.if_icmp .ne 7, 3) := by decide +kernel
theorem dX3_mixIn_72 : decode cX3_mixIn 72 = .ok (.iconst 1, 1) := by decide +kernel
theorem dX3_mixIn_73 : decode cX3_mixIn 73 = .ok (.goto 4, 3) := by decide +kernel
theorem dX3_mixIn_76 : decode cX3_mixIn 76 = .ok (.iconst 0, 1) := by decide +kernel
theorem dX3_mixIn_77 : decode cX3_mixIn 77 = .ok (.istore 4, 2) := by decide +kernel
theorem dX3_mixIn_79 : decode cX3_mixIn 79 = .ok (.aload_n 0, 1) := by decide +kernel
theorem dX3_mixIn_80 : decode cX3_mixIn 80 = .ok (.getfield 19, 3) := by decide +kernel
theorem dX3_mixIn_83 : decode cX3_mixIn 83 = .ok (.iload_n 3, 1) := by decide +kernel
theorem dX3_mixIn_84 : decode cX3_mixIn 84 = .ok (.iload 4, 2) := by decide +kernel
theorem dX3_mixIn_86 : decode cX3_mixIn 86 = .ok (.ifCond .eq 8, 3) := by decide +kernel
theorem dX3_mixIn_89 : decode cX3_mixIn 89 = .ok (.ldc 34, 2) := by decide +kernel
theorem dX3_mixIn_91 : decode cX3_mixIn 91 = .ok (.goto 18, 3) := by decide +kernel
theorem dX3_mixIn_94 : decode cX3_mixIn 94 = .ok (.aload_n 0, 1) := by decide +kernel
theorem dX3_mixIn_95 : decode cX3_mixIn 95 = .ok (.getfield 19, 3) := by decide +kernel
theorem dX3_mixIn_98 : decode cX3_mixIn 98 = .ok (.iload_n 3, 1) := by decide +kernel
theorem dX3_mixIn_99 : decode cX3_mixIn 99 = .ok (.iaload, 1) := by decide +kernel
theorem dX3_mixIn_100 : decode cX3_mixIn 100 = .ok (.iload_n 2, 1) := by decide +kernel
theorem dX3_mixIn_101 : decode cX3_mixIn 101 = .ok (.aload_n 1, 1) := by decide +kernel
theorem dX3_mixIn_102 : decode cX3_mixIn 102 = .ok (.getfield 19, 3) := by decide +kernel
theorem dX3_mixIn_105 : decode cX3_mixIn 105 = .ok (.iload_n 3, 1) := by decide +kernel
theorem dX3_mixIn_106 : decode cX3_mixIn 106 = .ok (.iaload, 1) := by decide +kernel
theorem dX3_mixIn_107 : decode cX3_mixIn 107 = .ok (.imul, 1) := by decide +kernel
theorem dX3_mixIn_108 : decode cX3_mixIn 108 = .ok (.iadd, 1) := by decide +kernel
theorem dX3_mixIn_109 : decode cX3_mixIn 109 = .ok (.iastore, 1) := by decide +kernel
theorem dX3_mixIn_110 : decode cX3_mixIn 110 = .ok (.iinc 3 1, 3) := by decide +kernel
theorem dX3_mixIn_113 : decode cX3_mixIn 113 = .ok (.goto (-70), 3) := by decide +kernel
theorem dX3_mixIn_116 : decode cX3_mixIn 116 = .ok (.return_, 1) := by decide +kernel
theorem dX3_plan_0 : decode cX3_plan 0 = .ok (.iload_n 3, 1) := by decide +kernel
theorem dX3_plan_1 : decode cX3_plan 1 = .ok (.iconst 1, 1) := by decide +kernel
theorem dX3_plan_2 : decode cX3_plan 2 = .ok (.isub, 1) := by decide +kernel
theorem dX3_plan_3 : decode cX3_plan 3 = .ok (.istore 4, 2) := by decide +kernel
theorem dX3_plan_5 : decode cX3_plan 5 = .ok (.iload 4, 2) := by decide +kernel
theorem dX3_plan_7 : decode cX3_plan 7 = .ok (.iload_n 2, 1) := by decide +kernel
theorem dX3_plan_8 : decode cX3_plan 8 = .ok (.if_icmp .lt 71, 3) := by decide +kernel
theorem dX3_plan_11 : decode cX3_plan 11 = .ok (.aload_n 0, 1) := by decide +kernel
theorem dX3_plan_12 : decode cX3_plan 12 = .ok (.getfield 22, 3) := by decide +kernel
theorem dX3_plan_15 : decode cX3_plan 15 = .ok (.astore 5, 2) := by decide +kernel
theorem dX3_plan_17 : decode cX3_plan 17 = .ok (.aload_n 0, 1) := by decide +kernel
theorem dX3_plan_18 : decode cX3_plan 18 = .ok (.aload_n 0, 1) := by decide +kernel
theorem dX3_plan_19 : decode cX3_plan 19 = .ok (.getfield 19, 3) := by decide +kernel
theorem dX3_plan_22 : decode cX3_plan 22 = .ok (.putfield 22, 3) := by decide +kernel
theorem dX3_plan_25 : decode cX3_plan 25 = .ok (.aload_n 0, 1) := by decide +kernel
theorem dX3_plan_26 : decode cX3_plan 26 = .ok (.aload 5, 2) := by decide +kernel
theorem dX3_plan_28 : decode cX3_plan 28 = .ok (.putfield 19, 3) := by decide +kernel
theorem dX3_plan_31 : decode cX3_plan 31 = .ok (.aload_n 0, 1) := by decide +kernel
theorem dX3_plan_32 : decode cX3_plan 32 = .ok (.getfield 19, 3) := by decide +kernel
theorem dX3_plan_35 : decode cX3_plan 35 = .ok (.ldc 34, 2) := by decide +kernel
theorem dX3_plan_37 : decode cX3_plan 37 = .ok (.invokestatic 28, 3) := by decide +kernel
theorem dX3_plan_40 : decode cX3_plan 40 = .ok (.aload_n 0, 1) := by decide +kernel
theorem dX3_plan_41 : decode cX3_plan 41 = .ok (.getfield 25, 3) := by decide +kernel
theorem dX3_plan_44 : decode cX3_plan 44 = .ok (.iconst (-1), 1) := by decide +kernel
theorem dX3_plan_45 : decode cX3_plan 45 = .ok (.invokestatic 28, 3) := by decide +kernel
theorem dX3_plan_48 : decode cX3_plan 48 = .ok (.iconst 0, 1) := by decide +kernel
theorem dX3_plan_49 : decode cX3_plan 49 = .ok (.istore 6, 2) := by decide +kernel
theorem dX3_plan_51 : decode cX3_plan 51 = .ok (.iload 6, 2) := by decide +kernel
theorem dX3_plan_53 : decode cX3_plan 53 = .ok (.bipush 9, 2) := by decide +kernel
theorem dX3_plan_55 : decode cX3_plan 55 = .ok (.if_icmp .ge 18, 3) := by decide +kernel
theorem dX3_plan_58 : decode cX3_plan 58 = .ok (.aload_n 0, 1) := by decide +kernel
theorem dX3_plan_59 : decode cX3_plan 59 = .ok (.aload_n 1, 1) := by decide +kernel
theorem dX3_plan_60 : decode cX3_plan 60 = .ok (.iload 4, 2) := by decide +kernel
theorem dX3_plan_62 : decode cX3_plan 62 = .ok (.iload 6, 2) := by decide +kernel
theorem dX3_plan_64 : decode cX3_plan 64 = .ok (.invokevirtual 35, 3) := by decide +kernel
theorem dX3_plan_67 : decode cX3_plan 67 = .ok (.iinc 6 1, 3) := by decide +kernel
theorem dX3_plan_70 : decode cX3_plan 70 = .ok (.goto (-19), 3) := by decide +kernel
theorem dX3_plan_73 : decode cX3_plan 73 = .ok (.iinc 4 (-1), 3) := by decide +kernel
theorem dX3_plan_76 : decode cX3_plan 76 = .ok (.goto (-71), 3) := by decide +kernel
theorem dX3_plan_79 : decode cX3_plan 79 = .ok (.return_, 1) := by decide +kernel
theorem dX3_tryFromAllModes_0 : decode cX3_tryFromAllModes 0 = .ok (.aload_n 0, 1) := by decide +kernel
theorem dX3_tryFromAllModes_1 : decode cX3_tryFromAllModes 1 = .ok (.getfield 9, 3) := by decide +kernel
theorem dX3_tryFromAllModes_4 : decode cX3_tryFromAllModes 4 = .ok (.iload_n 2, 1) := by decide +kernel
theorem dX3_tryFromAllModes_5 : decode cX3_tryFromAllModes 5 = .ok (.iaload, 1) := by decide +kernel
theorem dX3_tryFromAllModes_6 : decode cX3_tryFromAllModes 6 = .ok (.aload_n 1, 1) := by decide +kernel
theorem dX3_tryFromAllModes_7 : decode cX3_tryFromAllModes 7 = .ok (.getfield 39, 3) := by decide +kernel
theorem dX3_tryFromAllModes_10 : decode cX3_tryFromAllModes 10 = .ok (.iload_n 2, 1) := by decide +kernel
theorem dX3_tryFromAllModes_11 : decode cX3_tryFromAllModes 11 = .ok (.bipush 9, 2) := by decide +kernel
theorem dX3_tryFromAllModes_13 : decode cX3_tryFromAllModes 13 = .ok (.imul, 1) := by decide +kernel
theorem dX3_tryFromAllModes_14 : decode cX3_tryFromAllModes 14 = .ok (.iload_n 3, 1) := by decide +kernel
theorem dX3_tryFromAllModes_15 : decode cX3_tryFromAllModes 15 = .ok (.iadd, 1) := by decide +kernel
theorem dX3_tryFromAllModes_16 : decode cX3_tryFromAllModes 16 = .ok (.iaload, 1) := by decide +kernel
theorem dX3_tryFromAllModes_17 : decode cX3_tryFromAllModes 17 = .ok (.imul, 1) := by decide +kernel
theorem dX3_tryFromAllModes_18 : decode cX3_tryFromAllModes 18 = .ok (.istore 4, 2) := by decide +kernel
theorem dX3_tryFromAllModes_20 : decode cX3_tryFromAllModes 20 = .ok (.iconst 0, 1) := by decide +kernel
theorem dX3_tryFromAllModes_21 : decode cX3_tryFromAllModes 21 = .ok (.istore 5, 2) := by decide +kernel
theorem dX3_tryFromAllModes_23 : decode cX3_tryFromAllModes 23 = .ok (.iload 5, 2) := by decide +kernel
theorem dX3_tryFromAllModes_25 : decode cX3_tryFromAllModes 25 = .ok (.bipush 9, 2) := by decide +kernel
theorem dX3_tryFromAllModes_27 : decode cX3_tryFromAllModes 27 = .ok (.if_icmp .ge 48, 3) := by decide +kernel
theorem dX3_tryFromAllModes_30 : decode cX3_tryFromAllModes 30 = .ok (.aload_n 1, 1) := by decide +kernel
theorem dX3_tryFromAllModes_31 : decode cX3_tryFromAllModes 31 = .ok (.getfield 44, 3) := by decide +kernel
theorem dX3_tryFromAllModes_34 : decode cX3_tryFromAllModes 34 = .ok (.iload_n 3, 1) := by decide +kernel
theorem dX3_tryFromAllModes_35 : decode cX3_tryFromAllModes 35 = .ok (.bipush 9, 2) := by decide +kernel
theorem dX3_tryFromAllModes_37 : decode cX3_tryFromAllModes 37 = .ok (.imul, 1) := by decide +kernel
theorem dX3_tryFromAllModes_38 : decode cX3_tryFromAllModes 38 = .ok (.iload 5, 2) := by decide +kernel
theorem dX3_tryFromAllModes_40 : decode cX3_tryFromAllModes 40 = .ok (.iadd, 1) := by decide +kernel
theorem dX3_tryFromAllModes_41 : decode cX3_tryFromAllModes 41 = .ok (.iaload, 1) := by decide +kernel
theorem dX3_tryFromAllModes_42 : decode cX3_tryFromAllModes 42 = .ok (.istore 6, 2) := by decide +kernel
theorem dX3_tryFromAllModes_44 : decode cX3_tryFromAllModes 44 = .ok (.iload 6, 2) := by decide +kernel
theorem dX3_tryFromAllModes_46 : decode cX3_tryFromAllModes 46 = .ok (.iconst (-1), 1) := by decide +kernel
theorem dX3_tryFromAllModes_47 : decode cX3_tryFromAllModes 47 = .ok (.if_icmp .eq 22, 3) := by decide +kernel
theorem dX3_tryFromAllModes_50 : decode cX3_tryFromAllModes 50 = .ok (.aload_n 0, 1) := by decide +kernel
theorem dX3_tryFromAllModes_51 : decode cX3_tryFromAllModes 51 = .ok (.aload_n 1, 1) := by decide +kernel
theorem dX3_tryFromAllModes_52 : decode cX3_tryFromAllModes 52 = .ok (.iload_n 2, 1) := by decide +kernel
theorem dX3_tryFromAllModes_53 : decode cX3_tryFromAllModes 53 = .ok (.iload_n 3, 1) := by decide +kernel
theorem dX3_tryFromAllModes_54 : decode cX3_tryFromAllModes 54 = .ok (.iload 5, 2) := by decide +kernel
theorem dX3_tryFromAllModes_56 : decode cX3_tryFromAllModes 56 = .ok (.iload 4, 2) := by decide +kernel
theorem dX3_tryFromAllModes_58 : decode cX3_tryFromAllModes 58 = .ok (.iload 6, 2) := by decide +kernel
theorem dX3_tryFromAllModes_60 : decode cX3_tryFromAllModes 60 = .ok (.aload_n 0, 1) := by decide +kernel
theorem dX3_tryFromAllModes_61 : decode cX3_tryFromAllModes 61 = .ok (.getfield 15, 3) := by decide +kernel
theorem dX3_tryFromAllModes_64 : decode cX3_tryFromAllModes 64 = .ok (.imul, 1) := by decide +kernel
theorem dX3_tryFromAllModes_65 : decode cX3_tryFromAllModes 65 = .ok (.isub, 1) := by decide +kernel
theorem dX3_tryFromAllModes_66 : decode cX3_tryFromAllModes 66 = .ok (.invokevirtual 47, 3) := by decide +kernel
theorem dX3_tryFromAllModes_69 : decode cX3_tryFromAllModes 69 = .ok (.iinc 5 1, 3) := by decide +kernel
theorem dX3_tryFromAllModes_72 : decode cX3_tryFromAllModes 72 = .ok (.goto (-49), 3) := by decide +kernel
theorem dX3_tryFromAllModes_75 : decode cX3_tryFromAllModes 75 = .ok (.return_, 1) := by decide +kernel
theorem dX3_tryAtAllLevels_0 : decode cX3_tryAtAllLevels 0 = .ok (.aload_n 1, 1) := by decide +kernel
theorem dX3_tryAtAllLevels_1 : decode cX3_tryAtAllLevels 1 = .ok (.getfield 51, 3) := by decide +kernel
theorem dX3_tryAtAllLevels_4 : decode cX3_tryAtAllLevels 4 = .ok (.iload_n 2, 1) := by decide +kernel
theorem dX3_tryAtAllLevels_5 : decode cX3_tryAtAllLevels 5 = .ok (.bipush 9, 2) := by decide +kernel
theorem dX3_tryAtAllLevels_7 : decode cX3_tryAtAllLevels 7 = .ok (.imul, 1) := by decide +kernel
theorem dX3_tryAtAllLevels_8 : decode cX3_tryAtAllLevels 8 = .ok (.iload_n 3, 1) := by decide +kernel
theorem dX3_tryAtAllLevels_9 : decode cX3_tryAtAllLevels 9 = .ok (.iadd, 1) := by decide +kernel
theorem dX3_tryAtAllLevels_10 : decode cX3_tryAtAllLevels 10 = .ok (.iaload, 1) := by decide +kernel
theorem dX3_tryAtAllLevels_11 : decode cX3_tryAtAllLevels 11 = .ok (.istore 6, 2) := by decide +kernel
theorem dX3_tryAtAllLevels_13 : decode cX3_tryAtAllLevels 13 = .ok (.aload_n 1, 1) := by decide +kernel
theorem dX3_tryAtAllLevels_14 : decode cX3_tryAtAllLevels 14 = .ok (.getfield 54, 3) := by decide +kernel
theorem dX3_tryAtAllLevels_17 : decode cX3_tryAtAllLevels 17 = .ok (.iload_n 2, 1) := by decide +kernel
theorem dX3_tryAtAllLevels_18 : decode cX3_tryAtAllLevels 18 = .ok (.bipush 9, 2) := by decide +kernel
theorem dX3_tryAtAllLevels_20 : decode cX3_tryAtAllLevels 20 = .ok (.imul, 1) := by decide +kernel
theorem dX3_tryAtAllLevels_21 : decode cX3_tryAtAllLevels 21 = .ok (.iload_n 3, 1) := by decide +kernel
theorem dX3_tryAtAllLevels_22 : decode cX3_tryAtAllLevels 22 = .ok (.iadd, 1) := by decide +kernel
theorem dX3_tryAtAllLevels_23 : decode cX3_tryAtAllLevels 23 = .ok (.iaload, 1) := by decide +kernel
theorem dX3_tryAtAllLevels_24 : decode cX3_tryAtAllLevels 24 = .ok (.istore 7, 2) := by decide +kernel
theorem dX3_tryAtAllLevels_26 : decode cX3_tryAtAllLevels 26 = .ok (.aload_n 1, 1) := by decide +kernel
theorem dX3_tryAtAllLevels_27 : decode cX3_tryAtAllLevels 27 = .ok (.getfield 57, 3) := by decide +kernel
theorem dX3_tryAtAllLevels_30 : decode cX3_tryAtAllLevels 30 = .ok (.iload_n 2, 1) := by decide +kernel
theorem dX3_tryAtAllLevels_31 : decode cX3_tryAtAllLevels 31 = .ok (.bipush 9, 2) := by decide +kernel
theorem dX3_tryAtAllLevels_33 : decode cX3_tryAtAllLevels 33 = .ok (.imul, 1) := by decide +kernel
theorem dX3_tryAtAllLevels_34 : decode cX3_tryAtAllLevels 34 = .ok (.iload_n 3, 1) := by decide +kernel
theorem dX3_tryAtAllLevels_35 : decode cX3_tryAtAllLevels 35 = .ok (.iadd, 1) := by decide +kernel
theorem dX3_tryAtAllLevels_36 : decode cX3_tryAtAllLevels 36 = .ok (.iaload, 1) := by decide +kernel
theorem dX3_tryAtAllLevels_37 : decode cX3_tryAtAllLevels 37 = .ok (.istore 8, 2) := by decide +kernel
theorem dX3_tryAtAllLevels_39 : decode cX3_tryAtAllLevels 39 = .ok (.iload 8, 2) := by decide +kernel
theorem dX3_tryAtAllLevels_41 : decode cX3_tryAtAllLevels 41 = .ok (.iload 7, 2) := by decide +kernel
theorem dX3_tryAtAllLevels_43 : decode cX3_tryAtAllLevels 43 = .ok (.if_icmp .gt 78, 3) := by decide +kernel
theorem dX3_tryAtAllLevels_46 : decode cX3_tryAtAllLevels 46 = .ok (.aload_n 0, 1) := by decide +kernel
theorem dX3_tryAtAllLevels_47 : decode cX3_tryAtAllLevels 47 = .ok (.getfield 22, 3) := by decide +kernel
theorem dX3_tryAtAllLevels_50 : decode cX3_tryAtAllLevels 50 = .ok (.iload 8, 2) := by decide +kernel
theorem dX3_tryAtAllLevels_52 : decode cX3_tryAtAllLevels 52 = .ok (.iload 6, 2) := by decide +kernel
theorem dX3_tryAtAllLevels_54 : decode cX3_tryAtAllLevels 54 = .ok (.iadd, 1) := by decide +kernel
theorem dX3_tryAtAllLevels_55 : decode cX3_tryAtAllLevels 55 = .ok (.bipush 9, 2) := by decide +kernel
theorem dX3_tryAtAllLevels_57 : decode cX3_tryAtAllLevels 57 = .ok (.imul, 1) := by decide +kernel
theorem dX3_tryAtAllLevels_58 : decode cX3_tryAtAllLevels 58 = .ok (.iload_n 3, 1) := by decide +kernel
theorem dX3_tryAtAllLevels_59 : decode cX3_tryAtAllLevels 59 = .ok (.iadd, 1) := by decide +kernel
theorem dX3_tryAtAllLevels_60 : decode cX3_tryAtAllLevels 60 = .ok (.iaload, 1) := by decide +kernel
theorem dX3_tryAtAllLevels_61 : decode cX3_tryAtAllLevels 61 = .ok (.istore 9, 2) := by decide +kernel
theorem dX3_tryAtAllLevels_63 : decode cX3_tryAtAllLevels 63 = .ok (.iload 8, 2) := by decide +kernel
theorem dX3_tryAtAllLevels_65 : decode cX3_tryAtAllLevels 65 = .ok (.bipush 9, 2) := by decide +kernel
theorem dX3_tryAtAllLevels_67 : decode cX3_tryAtAllLevels 67 = .ok (.imul, 1) := by decide +kernel
theorem dX3_tryAtAllLevels_68 : decode cX3_tryAtAllLevels 68 = .ok (.iload 4, 2) := by decide +kernel
theorem dX3_tryAtAllLevels_70 : decode cX3_tryAtAllLevels 70 = .ok (.iadd, 1) := by decide +kernel
theorem dX3_tryAtAllLevels_71 : decode cX3_tryAtAllLevels 71 = .ok (.istore 10, 2) := by decide +kernel
theorem dX3_tryAtAllLevels_73 : decode cX3_tryAtAllLevels 73 = .ok (.iload 9, 2) := by decide +kernel
theorem dX3_tryAtAllLevels_75 : decode cX3_tryAtAllLevels 75 = .ok (.ldc 34, 2) := by decide +kernel
theorem dX3_tryAtAllLevels_77 : decode cX3_tryAtAllLevels 77 = .ok (.if_icmp .eq 38, 3) := by decide +kernel
theorem dX3_tryAtAllLevels_80 : decode cX3_tryAtAllLevels 80 = .ok (.iload 5, 2) := by decide +kernel
theorem dX3_tryAtAllLevels_82 : decode cX3_tryAtAllLevels 82 = .ok (.iload 9, 2) := by decide +kernel
theorem dX3_tryAtAllLevels_84 : decode cX3_tryAtAllLevels 84 = .ok (.iadd, 1) := by decide +kernel
theorem dX3_tryAtAllLevels_85 : decode cX3_tryAtAllLevels 85 = .ok (.aload_n 0, 1) := by decide +kernel
theorem dX3_tryAtAllLevels_86 : decode cX3_tryAtAllLevels 86 = .ok (.getfield 19, 3) := by decide +kernel
theorem dX3_tryAtAllLevels_89 : decode cX3_tryAtAllLevels 89 = .ok (.iload 10, 2) := by decide +kernel
theorem dX3_tryAtAllLevels_91 : decode cX3_tryAtAllLevels 91 = .ok (.iaload, 1) := by decide +kernel
theorem dX3_tryAtAllLevels_92 : decode cX3_tryAtAllLevels 92 = .ok (.if_icmp .le 23, 3) := by decide +kernel
theorem dX3_tryAtAllLevels_95 : decode cX3_tryAtAllLevels 95 = .ok (.aload_n 0, 1) := by decide +kernel
theorem dX3_tryAtAllLevels_96 : decode cX3_tryAtAllLevels 96 = .ok (.getfield 19, 3) := by decide +kernel
theorem dX3_tryAtAllLevels_99 : decode cX3_tryAtAllLevels 99 = .ok (.iload 10, 2) := by decide +kernel
theorem dX3_tryAtAllLevels_101 : decode cX3_tryAtAllLevels 101 = .ok (.iload 5, 2) := by decide +kernel
theorem dX3_tryAtAllLevels_103 : decode cX3_tryAtAllLevels 103 = .ok (.iload 9, 2) := by decide +kernel
theorem dX3_tryAtAllLevels_105 : decode cX3_tryAtAllLevels 105 = .ok (.iadd, 1) := by decide +kernel
theorem dX3_tryAtAllLevels_106 : decode cX3_tryAtAllLevels 106 = .ok (.iastore, 1) := by decide +kernel
theorem dX3_tryAtAllLevels_107 : decode cX3_tryAtAllLevels 107 = .ok (.aload_n 0, 1) := by decide +kernel
theorem dX3_tryAtAllLevels_108 : decode cX3_tryAtAllLevels 108 = .ok (.getfield 25, 3) := by decide +kernel
theorem dX3_tryAtAllLevels_111 : decode cX3_tryAtAllLevels 111 = .ok (.iload 10, 2) := by decide +kernel
theorem dX3_tryAtAllLevels_113 : decode cX3_tryAtAllLevels 113 = .ok (.iload_n 3, 1) := by decide +kernel
theorem dX3_tryAtAllLevels_114 : decode cX3_tryAtAllLevels 114 = .ok (.iastore, 1) := by decide +kernel
theorem dX3_tryAtAllLevels_115 : decode cX3_tryAtAllLevels 115 = .ok (.iinc 8 1, 3) := by decide +kernel
theorem dX3_tryAtAllLevels_118 : decode cX3_tryAtAllLevels 118 = .ok (.goto (-79), 3) := by decide +kernel
theorem dX3_tryAtAllLevels_121 : decode cX3_tryAtAllLevels 121 = .ok (.return_, 1) := by decide +kernel
end
section
theorem dX4_init_0 : decode cX4_init 0 = .ok (.aload_n 0, 1) := by decide +kernel
theorem dX4_init_1 : decode cX4_init 1 = .ok (.invokespecial 1, 3) := by decide +kernel
theorem dX4_init_4 : decode cX4_init 4 = .ok (.aload_n 0, 1) := by decide +kernel
theorem dX4_init_5 : decode cX4_init 5 = .ok (.new 7, 3) := by decide +kernel
theorem dX4_init_8 : decode cX4_init 8 = .ok (.dup, 1) := by decide +kernel
theorem dX4_init_9 : decode cX4_init 9 = .ok (.invokespecial 9, 3) := by decide +kernel
theorem dX4_init_12 : decode cX4_init 12 = .ok (.putfield 10, 3) := by decide +kernel
theorem dX4_init_15 : decode cX4_init 15 = .ok (.aload_n 0, 1) := by decide +kernel
theorem dX4_init_16 : decode cX4_init 16 = .ok (.new 16, 3) := by decide +kernel
theorem dX4_init_19 : decode cX4_init 19 = .ok (.dup, 1) := by decide +kernel
theorem dX4_init_20 : decode cX4_init 20 = .ok (.invokespecial 18, 3) := by decide +kernel
theorem dX4_init_23 : decode cX4_init 23 = .ok (.putfield 19, 3) := by decide +kernel
theorem dX4_init_26 : decode cX4_init 26 = .ok (.aload_n 0, 1) := by decide +kernel
theorem dX4_init_27 : decode cX4_init 27 = .ok (.new 16, 3) := by decide +kernel
theorem dX4_init_30 : decode cX4_init 30 = .ok (.dup, 1) := by decide +kernel
theorem dX4_init_31 : decode cX4_init 31 = .ok (.invokespecial 18, 3) := by decide +kernel
theorem dX4_init_34 : decode cX4_init 34 = .ok (.putfield 23, 3) := by decide +kernel
theorem dX4_init_37 : decode cX4_init 37 = .ok (.aload_n 0, 1) := by decide +kernel
theorem dX4_init_38 : decode cX4_init 38 = .ok (.new 26, 3) := by decide +kernel
theorem dX4_init_41 : decode cX4_init 41 = .ok (.dup, 1) := by decide +kernel
theorem dX4_init_42 : decode cX4_init 42 = .ok (.aload_n 0, 1) := by decide +kernel
theorem dX4_init_43 : decode cX4_init 43 = .ok (.getfield 10, 3) := by decide +kernel
theorem dX4_init_46 : decode cX4_init 46 = .ok (.aload_n 0, 1) := by decide +kernel
theorem dX4_init_47 : decode cX4_init 47 = .ok (.getfield 19, 3) := by decide +kernel
theorem dX4_init_50 : decode cX4_init 50 = .ok (.aload_n 0, 1) := by decide +kernel
theorem dX4_init_51 : decode cX4_init 51 = .ok (.getfield 23, 3) := by decide +kernel
theorem dX4_init_54 : decode cX4_init 54 = .ok (.invokespecial 28, 3) := by decide +kernel
theorem dX4_init_57 : decode cX4_init 57 = .ok (.putfield 31, 3) := by decide +kernel
theorem dX4_init_60 : decode cX4_init 60 = .ok (.aload_n 0, 1) := by decide +kernel
theorem dX4_init_61 : decode cX4_init 61 = .ok (.iconst 3, 1) := by decide +kernel
theorem dX4_init_62 : decode cX4_init 62 = .ok (.anewarray 35, 3) := by decide +kernel
theorem dX4_init_65 : decode cX4_init 65 = .ok (.putfield 37, 3) := by decide +kernel
theorem dX4_init_68 : decode cX4_init 68 = .ok (.aload_n 0, 1) := by decide +kernel
theorem dX4_init_69 : decode cX4_init 69 = .ok (.new 35, 3) := by decide +kernel
theorem dX4_init_72 : decode cX4_init 72 = .ok (.dup, 1) := by decide +kernel
theorem dX4_init_73 : decode cX4_init 73 = .ok (.invokespecial 41, 3) := by decide +kernel
theorem dX4_init_76 : decode cX4_init 76 = .ok (.putfield 42, 3) := by decide +kernel
theorem dX4_init_79 : decode cX4_init 79 = .ok (.aload_n 0, 1) := by decide +kernel
theorem dX4_init_80 : decode cX4_init 80 = .ok (.iconst 3, 1) := by decide +kernel
theorem dX4_init_81 : decode cX4_init 81 = .ok (.newarray .int, 2) := by decide +kernel
theorem dX4_init_83 : decode cX4_init 83 = .ok (.putfield 46, 3) := by decide +kernel
theorem dX4_init_86 : decode cX4_init 86 = .ok (.aload_n 0, 1) := by decide +kernel
theorem dX4_init_87 : decode cX4_init 87 = .ok (.bipush 41, 2) := by decide +kernel
theorem dX4_init_89 : decode cX4_init 89 = .ok (.newarray .int, 2) := by decide +kernel
theorem dX4_init_91 : decode cX4_init 91 = .ok (.putfield 50, 3) := by decide +kernel
theorem dX4_init_94 : decode cX4_init 94 = .ok (.aload_n 0, 1) := by decide +kernel
theorem dX4_init_95 : decode cX4_init 95 = .ok (.iconst 3, 1) := by decide +kernel
theorem dX4_init_96 : decode cX4_init 96 = .ok (.newarray .int, 2) := by decide +kernel
theorem dX4_init_98 : decode cX4_init 98 = .ok (.putfield 53, 3) := by decide +kernel
theorem dX4_init_101 : decode cX4_init 101 = .ok (.aload_n 0, 1) := by decide +kernel
theorem dX4_init_102 : decode cX4_init 102 = .ok (.iconst 0, 1) := by decide +kernel
theorem dX4_init_103 : decode cX4_init 103 = .ok (.putfield 56, 3) := by decide +kernel
theorem dX4_init_106 : decode cX4_init 106 = .ok (.aload_n 0, 1) := by decide +kernel
theorem dX4_init_107 : decode cX4_init 107 = .ok (.iconst 0, 1) := by decide +kernel
theorem dX4_init_108 : decode cX4_init 108 = .ok (.putfield 60, 3) := by decide +kernel
theorem dX4_init_111 : decode cX4_init 111 = .ok (.aload_n 0, 1) := by decide +kernel
theorem dX4_init_112 : decode cX4_init 112 = .ok (.iconst 0, 1) := by decide +kernel
theorem dX4_init_113 : decode cX4_init 113 = .ok (.putfield 63, 3) := by decide +kernel
theorem dX4_init_116 : decode cX4_init 116 = .ok (.aload_n 0, 1) := by decide +kernel
theorem dX4_init_117 : decode cX4_init 117 = .ok (.iconst 0, 1) := by decide +kernel
theorem dX4_init_118 : decode cX4_init 118 = .ok (.putfield 66, 3) := by decide +kernel
theorem dX4_init_121 : decode cX4_init 121 = .ok (.iconst 0, 1) := by decide +kernel
theorem dX4_init_122 : decode cX4_init 122 = .ok (.istore_n 1, 1) := by decide +kernel
theorem dX4_init_123 : decode cX4_init 123 = .ok (.iload_n 1, 1) := by decide +kernel
theorem dX4_init_124 : decode cX4_init 124 = .ok (.iconst 3, 1) := by decide +kernel
theorem dX4_init_125 : decode cX4_init 125 = .ok (.if_icmp .ge 22, 3) := by decide +kernel
theorem dX4_init_128 : decode cX4_init 128 = .ok (.aload_n 0, 1) := by decide +kernel
theorem dX4_init_129 : decode cX4_init 129 = .ok (.getfield 37, 3) := by decide +kernel
theorem dX4_init_132 : decode cX4_init 132 = .ok (.iload_n 1, 1) := by decide +kernel
theorem dX4_init_133 : decode cX4_init 133 = .ok (.new 35, 3) := by decide +kernel
theorem dX4_init_136 : decode cX4_init 136 = .ok (.dup, 1) := by decide +kernel
theorem dX4_init_137 : decode cX4_init 137 = .ok (.invokespecial 41, 3) := by decide +kernel
theorem dX4_init_140 : decode cX4_init 140 = .ok (.aastore, 1) := by decide +kernel
theorem dX4_init_141 : decode cX4_init 141 = .ok (.iinc 1 1, 3) := by decide +kernel
theorem dX4_init_144 : decode cX4_init 144 = .ok (.goto (-21), 3) := by decide +kernel
theorem dX4_init_147 : decode cX4_init 147 = .ok (.aload_n 0, 1) := by decide +kernel
theorem dX4_init_148 : decode cX4_init 148 = .ok (.getfield 46, 3) := by decide +kernel
theorem dX4_init_151 : decode cX4_init 151 = .ok (.iconst 0, 1) := by decide +kernel
theorem dX4_init_152 : decode cX4_init 152 = .ok (.iconst 1, 1) := by decide +kernel
theorem dX4_init_153 : decode cX4_init 153 = .ok (.iastore, 1) := by decide +kernel
theorem dX4_init_154 : decode cX4_init 154 = .ok (.aload_n 0, 1) := by decide +kernel
theorem dX4_init_155 : decode cX4_init 155 = .ok (.getfield 50, 3) := by decide +kernel
theorem dX4_init_158 : decode cX4_init 158 = .ok (.ldc 69, 2) := by decide +kernel
theorem dX4_init_160 : decode cX4_init 160 = .ok (.invokestatic 70, 3) := by decide +kernel
theorem dX4_init_163 : decode cX4_init 163 = .ok (.aload_n 0, 1) := by decide +kernel
theorem dX4_init_164 : decode cX4_init 164 = .ok (.getfield 53, 3) := by decide +kernel
theorem dX4_init_167 : decode cX4_init 167 = .ok (.ldc 69, 2) := by decide +kernel
theorem dX4_init_169 : decode cX4_init 169 = .ok (.invokestatic 70, 3) := by decide +kernel
theorem dX4_init_172 : decode cX4_init 172 = .ok (.return_, 1) := by decide +kernel
theorem dX4_lakes_0 : decode cX4_lakes 0 = .ok (.aload_n 0, 1) := by decide +kernel
theorem dX4_lakes_1 : decode cX4_lakes 1 = .ok (.getfield 63, 3) := by decide +kernel
theorem dX4_lakes_4 : decode cX4_lakes 4 = .ok (.ifCond .ne 23, 3) := by decide +kernel
theorem dX4_lakes_7 : decode cX4_lakes 7 = .ok (.iload_n 1, 1) := by decide +kernel
theorem dX4_lakes_8 : decode cX4_lakes 8 = .ok (.iconst 1, 1) := by decide +kernel
theorem dX4_lakes_9 : decode cX4_lakes 9 = .ok (.bipush 40, 2) := by decide +kernel
theorem dX4_lakes_11 : decode cX4_lakes 11 = .ok (.invokestatic 76, 3) := by decide +kernel
theorem dX4_lakes_14 : decode cX4_lakes 14 = .ok (.ifCond .eq 13, 3) := by decide +kernel
theorem dX4_lakes_17 : decode cX4_lakes 17 = .ok (.iload_n 2, 1) := by decide +kernel
theorem dX4_lakes_18 : decode cX4_lakes 18 = .ok (.iconst 1, 1) := by decide +kernel
theorem dX4_lakes_19 : decode cX4_lakes 19 = .ok (.bipush 40, 2) := by decide +kernel
theorem dX4_lakes_21 : decode cX4_lakes 21 = .ok (.invokestatic 76, 3) := by decide +kernel
theorem dX4_lakes_24 : decode cX4_lakes 24 = .ok (.ifCond .ne 5, 3) := by decide +kernel
theorem dX4_lakes_27 : decode cX4_lakes 27 = .ok (.iconst 0, 1) := by decide +kernel
theorem dX4_lakes_28 : decode cX4_lakes 28 = .ok (.ireturn, 1) := by decide +kernel
theorem dX4_lakes_29 : decode cX4_lakes 29 = .ok (.iload_n 3, 1) := by decide +kernel
theorem dX4_lakes_30 : decode cX4_lakes 30 = .ok (.iconst 0, 1) := by decide +kernel
theorem dX4_lakes_31 : decode cX4_lakes 31 = .ok (.iload_n 1, 1) := by decide +kernel
theorem dX4_lakes_32 : decode cX4_lakes 32 = .ok (.invokestatic 76, 3) := by decide +kernel
theorem dX4_lakes_35 : decode cX4_lakes 35 = .ok (.ifCond .eq 13, 3) := by decide +kernel
theorem dX4_lakes_38 : decode cX4_lakes 38 = .ok (.iload 4, 2) := by decide +kernel
theorem dX4_lakes_40 : decode cX4_lakes 40 = .ok (.iconst 0, 1) := by decide +kernel
theorem dX4_lakes_41 : decode cX4_lakes 41 = .ok (.iload_n 2, 1) := by decide +kernel
theorem dX4_lakes_42 : decode cX4_lakes 42 = .ok (.invokestatic 76, 3) := by decide +kernel
theorem dX4_lakes_45 : decode cX4_lakes 45 = .ok (.ifCond .ne 5, 3) := by decide +kernel
theorem dX4_lakes_48 : decode cX4_lakes 48 = .ok (.iconst 0, 1) := by decide +kernel
theorem dX4_lakes_49 : decode cX4_lakes 49 = .ok (.ireturn, 1) := by decide +kernel
theorem dX4_lakes_50 : decode cX4_lakes 50 = .ok (.aload_n 0, 1) := by decide +kernel
theorem dX4_lakes_51 : decode cX4_lakes 51 = .ok (.getfield 10, 3) := by decide +kernel
theorem dX4_lakes_54 : decode cX4_lakes 54 = .ok (.iload_n 1, 1) := by decide +kernel
theorem dX4_lakes_55 : decode cX4_lakes 55 = .ok (.putfield 80, 3) := by decide +kernel
theorem dX4_lakes_58 : decode cX4_lakes 58 = .ok (.aload_n 0, 1) := by decide +kernel
theorem dX4_lakes_59 : decode cX4_lakes 59 = .ok (.getfield 10, 3) := by decide +kernel
theorem dX4_lakes_62 : decode cX4_lakes 62 = .ok (.iload_n 2, 1) := by decide +kernel
theorem dX4_lakes_63 : decode cX4_lakes 63 = .ok (.putfield 83, 3) := by decide +kernel
theorem dX4_lakes_66 : decode cX4_lakes 66 = .ok (.aload_n 0, 1) := by decide +kernel
theorem dX4_lakes_67 : decode cX4_lakes 67 = .ok (.getfield 10, 3) := by decide +kernel
theorem dX4_lakes_70 : decode cX4_lakes 70 = .ok (.iload_n 3, 1) := by decide +kernel
theorem dX4_lakes_71 : decode cX4_lakes 71 = .ok (.putfield 86, 3) := by decide +kernel
theorem dX4_lakes_74 : decode cX4_lakes 74 = .ok (.aload_n 0, 1) := by decide +kernel
theorem dX4_lakes_75 : decode cX4_lakes 75 = .ok (.getfield 10, 3) := by decide +kernel
theorem dX4_lakes_78 : decode cX4_lakes 78 = .ok (.iload 4, 2) := by decide +kernel
theorem dX4_lakes_80 : decode cX4_lakes 80 = .ok (.putfield 89, 3) := by decide +kernel
theorem dX4_lakes_83 : decode cX4_lakes 83 = .ok (.aload_n 0, 1) := by decide +kernel
theorem dX4_lakes_84 : decode cX4_lakes 84 = .ok (.invokevirtual 92, 3) := by decide +kernel
theorem dX4_lakes_87 : decode cX4_lakes 87 = .ok (.ireturn, 1) := by decide +kernel
theorem dX4_speeds_0 : decode cX4_speeds 0 = .ok (.iload_n 1, 1) := by decide +kernel
theorem dX4_speeds_1 : decode cX4_speeds 1 = .ok (.iconst 1, 1) := by decide +kernel
theorem dX4_speeds_2 : decode cX4_speeds 2 = .ok (.bipush 40, 2) := by decide +kernel
theorem dX4_speeds_4 : decode cX4_speeds 4 = .ok (.invokestatic 76, 3) := by decide +kernel
theorem dX4_speeds_7 : decode cX4_speeds 7 = .ok (.ifCond .eq 13, 3) := by decide +kernel
theorem dX4_speeds_10 : decode cX4_speeds 10 = .ok (.iload_n 2, 1) := by decide +kernel
theorem dX4_speeds_11 : decode cX4_speeds 11 = .ok (.iconst 1, 1) := by decide +kernel
theorem dX4_speeds_12 : decode cX4_speeds 12 = .ok (.bipush 40, 2) := by decide +kernel
theorem dX4_speeds_14 : decode cX4_speeds 14 = .ok (.invokestatic 76, 3) := by decide +kernel
theorem dX4_speeds_17 : decode cX4_speeds 17 = .ok (.ifCond .ne 5, 3) := by decide +kernel
theorem dX4_speeds_20 : decode cX4_speeds 20 = .ok (.iconst 0, 1) := by decide +kernel
theorem dX4_speeds_21 : decode cX4_speeds 21 = .ok (.ireturn, 1) := by decide +kernel
theorem dX4_speeds_22 : decode cX4_speeds 22 = .ok (.aload_n 0, 1) := by decide +kernel
theorem dX4_speeds_23 : decode cX4_speeds 23 = .ok (.getfield 10, 3) := by decide +kernel
theorem dX4_speeds_26 : decode cX4_speeds 26 = .ok (.iload_n 1, 1) := by decide +kernel
theorem dX4_speeds_27 : decode cX4_speeds 27 = .ok (.putfield 96, 3) := by decide +kernel
theorem dX4_speeds_30 : decode cX4_speeds 30 = .ok (.aload_n 0, 1) := by decide +kernel
theorem dX4_speeds_31 : decode cX4_speeds 31 = .ok (.getfield 10, 3) := by decide +kernel
theorem dX4_speeds_34 : decode cX4_speeds 34 = .ok (.iload_n 2, 1) := by decide +kernel
theorem dX4_speeds_35 : decode cX4_speeds 35 = .ok (.putfield 99, 3) := by decide +kernel
theorem dX4_speeds_38 : decode cX4_speeds 38 = .ok (.aload_n 0, 1) := by decide +kernel
theorem dX4_speeds_39 : decode cX4_speeds 39 = .ok (.invokevirtual 92, 3) := by decide +kernel
theorem dX4_speeds_42 : decode cX4_speeds 42 = .ok (.ireturn, 1) := by decide +kernel
theorem dX4_flows_0 : decode cX4_flows 0 = .ok (.iload_n 1, 1) := by decide +kernel
theorem dX4_flows_1 : decode cX4_flows 1 = .ok (.invokestatic 102, 3) := by decide +kernel
theorem dX4_flows_4 : decode cX4_flows 4 = .ok (.ifCond .eq 23, 3) := by decide +kernel
theorem dX4_flows_7 : decode cX4_flows 7 = .ok (.iload_n 2, 1) := by decide +kernel
theorem dX4_flows_8 : decode cX4_flows 8 = .ok (.iconst 0, 1) := by decide +kernel
theorem dX4_flows_9 : decode cX4_flows 9 = .ok (.bipush 9, 2) := by decide +kernel
theorem dX4_flows_11 : decode cX4_flows 11 = .ok (.invokestatic 76, 3) := by decide +kernel
theorem dX4_flows_14 : decode cX4_flows 14 = .ok (.ifCond .eq 13, 3) := by decide +kernel
theorem dX4_flows_17 : decode cX4_flows 17 = .ok (.iload_n 3, 1) := by decide +kernel
theorem dX4_flows_18 : decode cX4_flows 18 = .ok (.iconst 0, 1) := by decide +kernel
theorem dX4_flows_19 : decode cX4_flows 19 = .ok (.bipush 9, 2) := by decide +kernel
theorem dX4_flows_21 : decode cX4_flows 21 = .ok (.invokestatic 76, 3) := by decide +kernel
theorem dX4_flows_24 : decode cX4_flows 24 = .ok (.ifCond .ne 5, 3) := by decide +kernel
theorem dX4_flows_27 : decode cX4_flows 27 = .ok (.iconst 0, 1) := by decide +kernel
theorem dX4_flows_28 : decode cX4_flows 28 = .ok (.ireturn, 1) := by decide +kernel
theorem dX4_flows_29 : decode cX4_flows 29 = .ok (.aload_n 0, 1) := by decide +kernel
theorem dX4_flows_30 : decode cX4_flows 30 = .ok (.getfield 10, 3) := by decide +kernel
theorem dX4_flows_33 : decode cX4_flows 33 = .ok (.getfield 106, 3) := by decide +kernel
theorem dX4_flows_36 : decode cX4_flows 36 = .ok (.iload_n 1, 1) := by decide +kernel
theorem dX4_flows_37 : decode cX4_flows 37 = .ok (.iload_n 2, 1) := by decide +kernel
theorem dX4_flows_38 : decode cX4_flows 38 = .ok (.iastore, 1) := by decide +kernel
theorem dX4_flows_39 : decode cX4_flows 39 = .ok (.aload_n 0, 1) := by decide +kernel
theorem dX4_flows_40 : decode cX4_flows 40 = .ok (.getfield 10, 3) := by decide +kernel
theorem dX4_flows_43 : decode cX4_flows 43 = .ok (.getfield 109, 3) := by decide +kernel
theorem dX4_flows_46 : decode cX4_flows 46 = .ok (.iload_n 1, 1) := by decide +kernel
theorem dX4_flows_47 : decode cX4_flows 47 = .ok (.iload_n 3, 1) := by decide +kernel
theorem dX4_flows_48 : decode cX4_flows 48 = .ok (.iastore, 1) := by decide +kernel
theorem dX4_flows_49 : decode cX4_flows 49 = .ok (.aload_n 0, 1) := by decide +kernel
theorem dX4_flows_50 : decode cX4_flows 50 = .ok (.invokevirtual 92, 3) := by decide +kernel
theorem dX4_flows_53 : decode cX4_flows 53 = .ok (.ireturn, 1) := by decide +kernel
theorem dX4_machine_0 : decode cX4_machine 0 = .ok (.iload_n 1, 1) := by decide +kernel
theorem dX4_machine_1 : decode cX4_machine 1 = .ok (.invokestatic 112, 3) := by decide +kernel
theorem dX4_machine_4 : decode cX4_machine 4 = .ok (.ifCond .eq 17, 3) := by decide +kernel
theorem dX4_machine_7 : decode cX4_machine 7 = .ok (.iload_n 2, 1) := by decide +kernel
theorem dX4_machine_8 : decode cX4_machine 8 = .ok (.invokestatic 115, 3) := by decide +kernel
theorem dX4_machine_11 : decode cX4_machine 11 = .ok (.ifCond .eq 10, 3) := by decide +kernel
theorem dX4_machine_14 : decode cX4_machine 14 = .ok (.iload_n 3, 1) := by decide +kernel
theorem dX4_machine_15 : decode cX4_machine 15 = .ok (.invokestatic 115, 3) := by decide +kernel
theorem dX4_machine_18 : decode cX4_machine 18 = .ok (.ifCond .ne 5, 3) := by decide +kernel
theorem dX4_machine_21 : decode cX4_machine 21 = .ok (.iconst 0, 1) := by decide +kernel
theorem dX4_machine_22 : decode cX4_machine 22 = .ok (.ireturn, 1) := by decide +kernel
theorem dX4_machine_23 : decode cX4_machine 23 = .ok (.iload 4, 2) := by decide +kernel
theorem dX4_machine_25 : decode cX4_machine 25 = .ok (.invokestatic 115, 3) := by decide +kernel
theorem dX4_machine_28 : decode cX4_machine 28 = .ok (.ifCond .eq 19, 3) := by decide +kernel
theorem dX4_machine_31 : decode cX4_machine 31 = .ok (.iload 5, 2) := by decide +kernel
theorem dX4_machine_33 : decode cX4_machine 33 = .ok (.invokestatic 115, 3) := by decide +kernel
theorem dX4_machine_36 : decode cX4_machine 36 = .ok (.ifCond .eq 11, 3) := by decide +kernel
theorem dX4_machine_39 : decode cX4_machine 39 = .ok (.iload 6, 2) := by decide +kernel
theorem dX4_machine_41 : decode cX4_machine 41 = .ok (.invokestatic 115, 3) := by decide +kernel
theorem dX4_machine_44 : decode cX4_machine 44 = .ok (.ifCond .ne 5, 3) := by decide +kernel
theorem dX4_machine_47 : decode cX4_machine 47 = .ok (.iconst 0, 1) := by decide +kernel
theorem dX4_machine_48 : decode cX4_machine 48 = .ok (.ireturn, 1) := by decide +kernel
theorem dX4_machine_49 : decode cX4_machine 49 = .ok (.aload_n 0, 1) := by decide +kernel
theorem dX4_machine_50 : decode cX4_machine 50 = .ok (.iload_n 1, 1) := by decide +kernel
theorem dX4_machine_51 : decode cX4_machine 51 = .ok (.invokevirtual 118, 3) := by decide +kernel
theorem dX4_machine_54 : decode cX4_machine 54 = .ok (.astore 7, 2) := by decide +kernel
theorem dX4_machine_56 : decode cX4_machine 56 = .ok (.aload 7, 2) := by decide +kernel
theorem dX4_machine_58 : decode cX4_machine 58 = .ok (.iload_n 2, 1) := by decide +kernel
theorem dX4_machine_59 : decode cX4_machine 59 = .ok (.putfield 122, 3) := by decide +kernel
theorem dX4_machine_62 : decode cX4_machine 62 = .ok (.aload 7, 2) := by decide +kernel
theorem dX4_machine_64 : decode cX4_machine 64 = .ok (.iload_n 3, 1) := by decide +kernel
theorem dX4_machine_65 : decode cX4_machine 65 = .ok (.putfield 125, 3) := by decide +kernel
theorem dX4_machine_68 : decode cX4_machine 68 = .ok (.aload 7, 2) := by decide +kernel
theorem dX4_machine_70 : decode cX4_machine 70 = .ok (.iload 4, 2) := by decide +kernel
theorem dX4_machine_72 : decode cX4_machine 72 = .ok (.putfield 128, 3) := by decide +kernel
theorem dX4_machine_75 : decode cX4_machine 75 = .ok (.aload 7, 2) := by decide +kernel
theorem dX4_machine_77 : decode cX4_machine 77 = .ok (.iload 5, 2) := by decide +kernel
theorem dX4_machine_79 : decode cX4_machine 79 = .ok (.putfield 131, 3) := by decide +kernel
theorem dX4_machine_82 : decode cX4_machine 82 = .ok (.aload 7, 2) := by decide +kernel
theorem dX4_machine_84 : decode cX4_machine 84 = .ok (.iload 6, 2) := by decide +kernel
theorem dX4_machine_86 : decode cX4_machine 86 = .ok (.putfield 134, 3) := by decide +kernel
theorem dX4_machine_89 : decode cX4_machine 89 = .ok (.aload_n 0, 1) := by decide +kernel
theorem dX4_machine_90 : decode cX4_machine 90 = .ok (.invokevirtual 92, 3) := by decide +kernel
theorem dX4_machine_93 : decode cX4_machine 93 = .ok (.ireturn, 1) := by decide +kernel
theorem dX4_out_0 : decode cX4_out 0 = .ok (.iload_n 1, 1) := by decide +kernel
theorem dX4_out_1 : decode cX4_out 1 = .ok (.invokestatic 112, 3) := by decide +kernel
theorem dX4_out_4 : decode cX4_out 4 = .ok (.ifCond .eq 22, 3) := by decide +kernel
theorem dX4_out_7 : decode cX4_out 7 = .ok (.iload_n 2, 1) := by decide +kernel
theorem dX4_out_8 : decode cX4_out 8 = .ok (.invokestatic 102, 3) := by decide +kernel
theorem dX4_out_11 : decode cX4_out 11 = .ok (.ifCond .eq 15, 3) := by decide +kernel
theorem dX4_out_14 : decode cX4_out 14 = .ok (.iload_n 3, 1) := by decide +kernel
theorem dX4_out_15 : decode cX4_out 15 = .ok (.invokestatic 102, 3) := by decide +kernel
theorem dX4_out_18 : decode cX4_out 18 = .ok (.ifCond .eq 8, 3) := by decide +kernel
theorem dX4_out_21 : decode cX4_out 21 = .ok (.iload_n 2, 1) := by decide +kernel
theorem dX4_out_22 : decode cX4_out 22 = .ok (.iload_n 3, 1) := by decide +kernel
theorem dX4_out_23 : decode cX4_out 23 = .ok (.if_icmp .le 5, 3) := by decide +kernel
theorem dX4_out_26 : decode cX4_out 26 = .ok (.iconst 0, 1) := by decide +kernel
theorem dX4_out_27 : decode cX4_out 27 = .ok (.ireturn, 1) := by decide +kernel
theorem dX4_out_28 : decode cX4_out 28 = .ok (.aload_n 0, 1) := by decide +kernel
theorem dX4_out_29 : decode cX4_out 29 = .ok (.iload_n 1, 1) := by decide +kernel
theorem dX4_out_30 : decode cX4_out 30 = .ok (.invokevirtual 118, 3) := by decide +kernel
theorem dX4_out_33 : decode cX4_out 33 = .ok (.astore 5, 2) := by decide +kernel
theorem dX4_out_35 : decode cX4_out 35 = .ok (.iload_n 2, 1) := by decide +kernel
theorem dX4_out_36 : decode cX4_out 36 = .ok (.istore 6, 2) := by decide +kernel
theorem dX4_out_38 : decode cX4_out 38 = .ok (.iload 6, 2) := by decide +kernel
theorem dX4_out_40 : decode cX4_out 40 = .ok (.iload_n 3, 1) := by decide +kernel
theorem dX4_out_41 : decode cX4_out 41 = .ok (.if_icmp .gt 19, 3) := by decide +kernel
theorem dX4_out_44 : decode cX4_out 44 = .ok (.aload 5, 2) := by decide +kernel
theorem dX4_out_46 : decode cX4_out 46 = .ok (.getfield 137, 3) := by decide +kernel
theorem dX4_out_49 : decode cX4_out 49 = .ok (.iload 6, 2) := by decide +kernel
theorem dX4_out_51 : decode cX4_out 51 = .ok (.iload 4, 2) := by decide +kernel
theorem dX4_out_53 : decode cX4_out 53 = .ok (.bastore, 1) := by decide +kernel
theorem dX4_out_54 : decode cX4_out 54 = .ok (.iinc 6 1, 3) := by decide +kernel
theorem dX4_out_57 : decode cX4_out 57 = .ok (.goto (-19), 3) := by decide +kernel
theorem dX4_out_60 : decode cX4_out 60 = .ok (.aload_n 0, 1) := by decide +kernel
theorem dX4_out_61 : decode cX4_out 61 = .ok (.invokevirtual 92, 3) := by decide +kernel
theorem dX4_out_64 : decode cX4_out 64 = .ok (.ireturn, 1) := by decide +kernel
theorem dX4_reserve_0 : decode cX4_reserve 0 = .ok (.iload_n 1, 1) := by decide +kernel
theorem dX4_reserve_1 : decode cX4_reserve 1 = .ok (.invokestatic 102, 3) := by decide +kernel
theorem dX4_reserve_4 : decode cX4_reserve 4 = .ok (.ifCond .eq 13, 3) := by decide +kernel
theorem dX4_reserve_7 : decode cX4_reserve 7 = .ok (.iload_n 2, 1) := by decide +kernel
theorem dX4_reserve_8 : decode cX4_reserve 8 = .ok (.iconst 0, 1) := by decide +kernel
theorem dX4_reserve_9 : decode cX4_reserve 9 = .ok (.bipush 99, 2) := by decide +kernel
theorem dX4_reserve_11 : decode cX4_reserve 11 = .ok (.invokestatic 76, 3) := by decide +kernel
theorem dX4_reserve_14 : decode cX4_reserve 14 = .ok (.ifCond .ne 5, 3) := by decide +kernel
theorem dX4_reserve_17 : decode cX4_reserve 17 = .ok (.iconst 0, 1) := by decide +kernel
theorem dX4_reserve_18 : decode cX4_reserve 18 = .ok (.ireturn, 1) := by decide +kernel
theorem dX4_reserve_19 : decode cX4_reserve 19 = .ok (.aload_n 0, 1) := by decide +kernel
theorem dX4_reserve_20 : decode cX4_reserve 20 = .ok (.getfield 10, 3) := by decide +kernel
theorem dX4_reserve_23 : decode cX4_reserve 23 = .ok (.getfield 141, 3) := by decide +kernel
theorem dX4_reserve_26 : decode cX4_reserve 26 = .ok (.iload_n 1, 1) := by decide +kernel
theorem dX4_reserve_27 : decode cX4_reserve 27 = .ok (.iload_n 2, 1) := by decide +kernel
theorem dX4_reserve_28 : decode cX4_reserve 28 = .ok (.iastore, 1) := by decide +kernel
theorem dX4_reserve_29 : decode cX4_reserve 29 = .ok (.aload_n 0, 1) := by decide +kernel
theorem dX4_reserve_30 : decode cX4_reserve 30 = .ok (.invokevirtual 92, 3) := by decide +kernel
theorem dX4_reserve_33 : decode cX4_reserve 33 = .ok (.ireturn, 1) := by decide +kernel
theorem dX4_weights_0 : decode cX4_weights 0 = .ok (.iload_n 1, 1) := by decide +kernel
theorem dX4_weights_1 : decode cX4_weights 1 = .ok (.iconst 0, 1) := by decide +kernel
theorem dX4_weights_2 : decode cX4_weights 2 = .ok (.bipush 9, 2) := by decide +kernel
theorem dX4_weights_4 : decode cX4_weights 4 = .ok (.invokestatic 76, 3) := by decide +kernel
theorem dX4_weights_7 : decode cX4_weights 7 = .ok (.ifCond .eq 23, 3) := by decide +kernel
theorem dX4_weights_10 : decode cX4_weights 10 = .ok (.iload_n 2, 1) := by decide +kernel
theorem dX4_weights_11 : decode cX4_weights 11 = .ok (.iconst 0, 1) := by decide +kernel
theorem dX4_weights_12 : decode cX4_weights 12 = .ok (.bipush 9, 2) := by decide +kernel
theorem dX4_weights_14 : decode cX4_weights 14 = .ok (.invokestatic 76, 3) := by decide +kernel
theorem dX4_weights_17 : decode cX4_weights 17 = .ok (.ifCond .eq 13, 3) := by decide +kernel
theorem dX4_weights_20 : decode cX4_weights 20 = .ok (.iload_n 3, 1) := by decide +kernel
theorem dX4_weights_21 : decode cX4_weights 21 = .ok (.iconst 0, 1) := by decide +kernel
theorem dX4_weights_22 : decode cX4_weights 22 = .ok (.bipush 9, 2) := by decide +kernel
theorem dX4_weights_24 : decode cX4_weights 24 = .ok (.invokestatic 76, 3) := by decide +kernel
theorem dX4_weights_27 : decode cX4_weights 27 = .ok (.ifCond .ne 5, 3) := by decide +kernel
theorem dX4_weights_30 : decode cX4_weights 30 = .ok (.iconst 0, 1) := by decide +kernel
theorem dX4_weights_31 : decode cX4_weights 31 = .ok (.ireturn, 1) := by decide +kernel
theorem dX4_weights_32 : decode cX4_weights 32 = .ok (.iload_n 1, 1) := by decide +kernel
theorem dX4_weights_33 : decode cX4_weights 33 = .ok (.iload_n 2, 1) := by decide +kernel
theorem dX4_weights_34 : decode cX4_weights 34 = .ok (.iadd, 1) := by decide +kernel
theorem dX4_weights_35 : decode cX4_weights 35 = .ok (.iload_n 3, 1) := by decide +kernel
theorem dX4_weights_36 : decode cX4_weights 36 = .ok (.iadd, 1) := by decide +kernel
theorem dX4_weights_37 : decode cX4_weights 37 = .ok (.ifCond .ne 5, 3) := by decide +kernel
theorem dX4_weights_40 : decode cX4_weights 40 = .ok (.iconst 0, 1) := by decide +kernel
theorem dX4_weights_41 : decode cX4_weights 41 = .ok (.ireturn, 1) := by decide +kernel
theorem dX4_weights_42 : decode cX4_weights 42 = .ok (.aload_n 0, 1) := by decide +kernel
theorem dX4_weights_43 : decode cX4_weights 43 = .ok (.getfield 46, 3) := by decide +kernel
theorem dX4_weights_46 : decode cX4_weights 46 = .ok (.iconst 0, 1) := by decide +kernel
theorem dX4_weights_47 : decode cX4_weights 47 = .ok (.iload_n 1, 1) := by decide +kernel
theorem dX4_weights_48 : decode cX4_weights 48 = .ok (.iastore, 1) := by decide +kernel
theorem dX4_weights_49 : decode cX4_weights 49 = .ok (.aload_n 0, 1) := by decide +kernel
theorem dX4_weights_50 : decode cX4_weights 50 = .ok (.getfield 46, 3) := by decide +kernel
theorem dX4_weights_53 : decode cX4_weights 53 = .ok (.iconst 1, 1) := by decide +kernel
theorem dX4_weights_54 : decode cX4_weights 54 = .ok (.iload_n 2, 1) := by decide +kernel
theorem dX4_weights_55 : decode cX4_weights 55 = .ok (.iastore, 1) := by decide +kernel
theorem dX4_weights_56 : decode cX4_weights 56 = .ok (.aload_n 0, 1) := by decide +kernel
theorem dX4_weights_57 : decode cX4_weights 57 = .ok (.getfield 46, 3) := by decide +kernel
theorem dX4_weights_60 : decode cX4_weights 60 = .ok (.iconst 2, 1) := by decide +kernel
theorem dX4_weights_61 : decode cX4_weights 61 = .ok (.iload_n 3, 1) := by decide +kernel
theorem dX4_weights_62 : decode cX4_weights 62 = .ok (.iastore, 1) := by decide +kernel
theorem dX4_weights_63 : decode cX4_weights 63 = .ok (.aload_n 0, 1) := by decide +kernel
theorem dX4_weights_64 : decode cX4_weights 64 = .ok (.invokevirtual 92, 3) := by decide +kernel
theorem dX4_weights_67 : decode cX4_weights 67 = .ok (.ireturn, 1) := by decide +kernel
theorem dX4_price_0 : decode cX4_price 0 = .ok (.iload_n 1, 1) := by decide +kernel
theorem dX4_price_1 : decode cX4_price 1 = .ok (.invokestatic 144, 3) := by decide +kernel
theorem dX4_price_4 : decode cX4_price 4 = .ok (.ifCond .eq 22, 3) := by decide +kernel
theorem dX4_price_7 : decode cX4_price 7 = .ok (.iload_n 2, 1) := by decide +kernel
theorem dX4_price_8 : decode cX4_price 8 = .ok (.invokestatic 102, 3) := by decide +kernel
theorem dX4_price_11 : decode cX4_price 11 = .ok (.ifCond .eq 15, 3) := by decide +kernel
theorem dX4_price_14 : decode cX4_price 14 = .ok (.iload_n 3, 1) := by decide +kernel
theorem dX4_price_15 : decode cX4_price 15 = .ok (.bipush (-99), 2) := by decide +kernel
theorem dX4_price_17 : decode cX4_price 17 = .ok (.sipush 999, 3) := by decide +kernel
theorem dX4_price_20 : decode cX4_price 20 = .ok (.invokestatic 76, 3) := by decide +kernel
theorem dX4_price_23 : decode cX4_price 23 = .ok (.ifCond .ne 5, 3) := by decide +kernel
theorem dX4_price_26 : decode cX4_price 26 = .ok (.iconst 0, 1) := by decide +kernel
theorem dX4_price_27 : decode cX4_price 27 = .ok (.ireturn, 1) := by decide +kernel
theorem dX4_price_28 : decode cX4_price 28 = .ok (.aload_n 0, 1) := by decide +kernel
theorem dX4_price_29 : decode cX4_price 29 = .ok (.getfield 37, 3) := by decide +kernel
theorem dX4_price_32 : decode cX4_price 32 = .ok (.iload_n 1, 1) := by decide +kernel
theorem dX4_price_33 : decode cX4_price 33 = .ok (.aaload, 1) := by decide +kernel
theorem dX4_price_34 : decode cX4_price 34 = .ok (.getfield 147, 3) := by decide +kernel
theorem dX4_price_37 : decode cX4_price 37 = .ok (.iload_n 2, 1) := by decide +kernel
theorem dX4_price_38 : decode cX4_price 38 = .ok (.iload_n 3, 1) := by decide +kernel
theorem dX4_price_39 : decode cX4_price 39 = .ok (.iastore, 1) := by decide +kernel
theorem dX4_price_40 : decode cX4_price 40 = .ok (.aload_n 0, 1) := by decide +kernel
theorem dX4_price_41 : decode cX4_price 41 = .ok (.invokevirtual 92, 3) := by decide +kernel
theorem dX4_price_44 : decode cX4_price 44 = .ok (.ireturn, 1) := by decide +kernel
theorem dX4_reveal_0 : decode cX4_reveal 0 = .ok (.iload_n 1, 1) := by decide +kernel
theorem dX4_reveal_1 : decode cX4_reveal 1 = .ok (.iconst 0, 1) := by decide +kernel
theorem dX4_reveal_2 : decode cX4_reveal 2 = .ok (.bipush 24, 2) := by decide +kernel
theorem dX4_reveal_4 : decode cX4_reveal 4 = .ok (.invokestatic 76, 3) := by decide +kernel
theorem dX4_reveal_7 : decode cX4_reveal 7 = .ok (.ifCond .ne 5, 3) := by decide +kernel
theorem dX4_reveal_10 : decode cX4_reveal 10 = .ok (.iconst 0, 1) := by decide +kernel
theorem dX4_reveal_11 : decode cX4_reveal 11 = .ok (.ireturn, 1) := by decide +kernel
theorem dX4_reveal_12 : decode cX4_reveal 12 = .ok (.aload_n 0, 1) := by decide +kernel
theorem dX4_reveal_13 : decode cX4_reveal 13 = .ok (.iload_n 1, 1) := by decide +kernel
theorem dX4_reveal_14 : decode cX4_reveal 14 = .ok (.putfield 56, 3) := by decide +kernel
theorem dX4_reveal_17 : decode cX4_reveal 17 = .ok (.aload_n 0, 1) := by decide +kernel
theorem dX4_reveal_18 : decode cX4_reveal 18 = .ok (.invokevirtual 92, 3) := by decide +kernel
theorem dX4_reveal_21 : decode cX4_reveal 21 = .ok (.ireturn, 1) := by decide +kernel
theorem dX4_end_0 : decode cX4_end 0 = .ok (.iload_n 1, 1) := by decide +kernel
theorem dX4_end_1 : decode cX4_end 1 = .ok (.iconst 0, 1) := by decide +kernel
theorem dX4_end_2 : decode cX4_end 2 = .ok (.sipush 999, 3) := by decide +kernel
theorem dX4_end_5 : decode cX4_end 5 = .ok (.invokestatic 76, 3) := by decide +kernel
theorem dX4_end_8 : decode cX4_end 8 = .ok (.ifCond .ne 5, 3) := by decide +kernel
theorem dX4_end_11 : decode cX4_end 11 = .ok (.iconst 0, 1) := by decide +kernel
theorem dX4_end_12 : decode cX4_end 12 = .ok (.ireturn, 1) := by decide +kernel
theorem dX4_end_13 : decode cX4_end 13 = .ok (.aload_n 0, 1) := by decide +kernel
theorem dX4_end_14 : decode cX4_end 14 = .ok (.iload_n 1, 1) := by decide +kernel
theorem dX4_end_15 : decode cX4_end 15 = .ok (.putfield 60, 3) := by decide +kernel
theorem dX4_end_18 : decode cX4_end 18 = .ok (.aload_n 0, 1) := by decide +kernel
theorem dX4_end_19 : decode cX4_end 19 = .ok (.invokevirtual 92, 3) := by decide +kernel
theorem dX4_end_22 : decode cX4_end 22 = .ok (.ireturn, 1) := by decide +kernel
theorem dX4_legal_0 : decode cX4_legal 0 = .ok (.iload_n 1, 1) := by decide +kernel
theorem dX4_legal_1 : decode cX4_legal 1 = .ok (.invokestatic 150, 3) := by decide +kernel
theorem dX4_legal_4 : decode cX4_legal 4 = .ok (.ifCond .eq 19, 3) := by decide +kernel
theorem dX4_legal_7 : decode cX4_legal 7 = .ok (.iload_n 2, 1) := by decide +kernel
theorem dX4_legal_8 : decode cX4_legal 8 = .ok (.invokestatic 150, 3) := by decide +kernel
theorem dX4_legal_11 : decode cX4_legal 11 = .ok (.ifCond .eq 12, 3) := by decide +kernel
theorem dX4_legal_14 : decode cX4_legal 14 = .ok (.aload_n 0, 1) := by decide +kernel
theorem dX4_legal_15 : decode cX4_legal 15 = .ok (.getfield 63, 3) := by decide +kernel
theorem dX4_legal_18 : decode cX4_legal 18 = .ok (.bipush 24, 2) := by decide +kernel
theorem dX4_legal_20 : decode cX4_legal 20 = .ok (.if_icmp .lt 5, 3) := by decide +kernel
theorem dX4_legal_23 : decode cX4_legal 23 = .ok (.iconst (-1), 1) := by decide +kernel
theorem dX4_legal_24 : decode cX4_legal 24 = .ok (.ireturn, 1) := by decide +kernel
theorem dX4_legal_25 : decode cX4_legal 25 = .ok (.aload_n 0, 1) := by decide +kernel
theorem dX4_legal_26 : decode cX4_legal 26 = .ok (.iload_n 1, 1) := by decide +kernel
theorem dX4_legal_27 : decode cX4_legal 27 = .ok (.iconst 3, 1) := by decide +kernel
theorem dX4_legal_28 : decode cX4_legal 28 = .ok (.imul, 1) := by decide +kernel
theorem dX4_legal_29 : decode cX4_legal 29 = .ok (.iload_n 2, 1) := by decide +kernel
theorem dX4_legal_30 : decode cX4_legal 30 = .ok (.iadd, 1) := by decide +kernel
theorem dX4_legal_31 : decode cX4_legal 31 = .ok (.invokevirtual 153, 3) := by decide +kernel
theorem dX4_legal_34 : decode cX4_legal 34 = .ok (.ifCond .eq 7, 3) := by decide +kernel
theorem dX4_legal_37 : decode cX4_legal 37 = .ok (.iconst 1, 1) := by decide +kernel
theorem dX4_legal_38 : decode cX4_legal 38 = .ok (.goto 4, 3) := by decide +kernel
theorem dX4_legal_41 : decode cX4_legal 41 = .ok (.iconst 0, 1) := by decide +kernel
theorem dX4_legal_42 : decode cX4_legal 42 = .ok (.ireturn, 1) := by decide +kernel
theorem dX4_worth_0 : decode cX4_worth 0 = .ok (.aload_n 0, 1) := by decide +kernel
theorem dX4_worth_1 : decode cX4_worth 1 = .ok (.aload_n 0, 1) := by decide +kernel
theorem dX4_worth_2 : decode cX4_worth 2 = .ok (.getfield 10, 3) := by decide +kernel
theorem dX4_worth_5 : decode cX4_worth 5 = .ok (.getfield 86, 3) := by decide +kernel
theorem dX4_worth_8 : decode cX4_worth 8 = .ok (.invokevirtual 156, 3) := by decide +kernel
theorem dX4_worth_11 : decode cX4_worth 11 = .ok (.ireturn, 1) := by decide +kernel
theorem dX4_mode_0 : decode cX4_mode 0 = .ok (.iload_n 1, 1) := by decide +kernel
theorem dX4_mode_1 : decode cX4_mode 1 = .ok (.invokestatic 144, 3) := by decide +kernel
theorem dX4_mode_4 : decode cX4_mode 4 = .ok (.ifCond .eq 19, 3) := by decide +kernel
theorem dX4_mode_7 : decode cX4_mode 7 = .ok (.iload_n 2, 1) := by decide +kernel
theorem dX4_mode_8 : decode cX4_mode 8 = .ok (.invokestatic 112, 3) := by decide +kernel
theorem dX4_mode_11 : decode cX4_mode 11 = .ok (.ifCond .eq 12, 3) := by decide +kernel
theorem dX4_mode_14 : decode cX4_mode 14 = .ok (.aload_n 0, 1) := by decide +kernel
theorem dX4_mode_15 : decode cX4_mode 15 = .ok (.getfield 63, 3) := by decide +kernel
theorem dX4_mode_18 : decode cX4_mode 18 = .ok (.bipush 24, 2) := by decide +kernel
theorem dX4_mode_20 : decode cX4_mode 20 = .ok (.if_icmp .lt 5, 3) := by decide +kernel
theorem dX4_mode_23 : decode cX4_mode 23 = .ok (.iconst (-1), 1) := by decide +kernel
theorem dX4_mode_24 : decode cX4_mode 24 = .ok (.ireturn, 1) := by decide +kernel
theorem dX4_mode_25 : decode cX4_mode 25 = .ok (.aload_n 0, 1) := by decide +kernel
theorem dX4_mode_26 : decode cX4_mode 26 = .ok (.iload_n 1, 1) := by decide +kernel
theorem dX4_mode_27 : decode cX4_mode 27 = .ok (.invokevirtual 160, 3) := by decide +kernel
theorem dX4_mode_30 : decode cX4_mode 30 = .ok (.istore_n 3, 1) := by decide +kernel
theorem dX4_mode_31 : decode cX4_mode 31 = .ok (.iload_n 3, 1) := by decide +kernel
theorem dX4_mode_32 : decode cX4_mode 32 = .ok (.iconst (-1), 1) := by decide +kernel
theorem dX4_mode_33 : decode cX4_mode 33 = .ok (.if_icmp .ne 5, 3) := by decide +kernel
theorem dX4_mode_36 : decode cX4_mode 36 = .ok (.iconst (-1), 1) := by decide +kernel
theorem dX4_mode_37 : decode cX4_mode 37 = .ok (.ireturn, 1) := by decide +kernel
theorem dX4_mode_38 : decode cX4_mode 38 = .ok (.iload_n 2, 1) := by decide +kernel
theorem dX4_mode_39 : decode cX4_mode 39 = .ok (.ifCond .ne 9, 3) := by decide +kernel
theorem dX4_mode_42 : decode cX4_mode 42 = .ok (.iload_n 3, 1) := by decide +kernel
theorem dX4_mode_43 : decode cX4_mode 43 = .ok (.iconst 3, 1) := by decide +kernel
theorem dX4_mode_44 : decode cX4_mode 44 = .ok (.idiv, 1) := by decide +kernel
theorem dX4_mode_45 : decode cX4_mode 45 = .ok (.goto 6, 3) := by decide +kernel
theorem dX4_mode_48 : decode cX4_mode 48 = .ok (.iload_n 3, 1) := by decide +kernel
theorem dX4_mode_49 : decode cX4_mode 49 = .ok (.iconst 3, 1) := by decide +kernel
theorem dX4_mode_50 : decode cX4_mode 50 = .ok (.irem, 1) := by decide +kernel
theorem dX4_mode_51 : decode cX4_mode 51 = .ok (.ireturn, 1) := by decide +kernel
theorem dX4_water_0 : decode cX4_water 0 = .ok (.iload_n 1, 1) := by decide +kernel
theorem dX4_water_1 : decode cX4_water 1 = .ok (.iconst 0, 1) := by decide +kernel
theorem dX4_water_2 : decode cX4_water 2 = .ok (.aload_n 0, 1) := by decide +kernel
theorem dX4_water_3 : decode cX4_water 3 = .ok (.getfield 10, 3) := by decide +kernel
theorem dX4_water_6 : decode cX4_water 6 = .ok (.getfield 80, 3) := by decide +kernel
theorem dX4_water_9 : decode cX4_water 9 = .ok (.iconst 1, 1) := by decide +kernel
theorem dX4_water_10 : decode cX4_water 10 = .ok (.isub, 1) := by decide +kernel
theorem dX4_water_11 : decode cX4_water 11 = .ok (.invokestatic 76, 3) := by decide +kernel
theorem dX4_water_14 : decode cX4_water 14 = .ok (.ifCond .ne 6, 3) := by decide +kernel
theorem dX4_water_17 : decode cX4_water 17 = .ok (.ldc 163, 2) := by decide +kernel
theorem dX4_water_19 : decode cX4_water 19 = .ok (.ireturn, 1) := by decide +kernel
theorem dX4_water_20 : decode cX4_water 20 = .ok (.aload_n 0, 1) := by decide +kernel
theorem dX4_water_21 : decode cX4_water 21 = .ok (.iload_n 1, 1) := by decide +kernel
theorem dX4_water_22 : decode cX4_water 22 = .ok (.invokevirtual 156, 3) := by decide +kernel
theorem dX4_water_25 : decode cX4_water 25 = .ok (.istore_n 2, 1) := by decide +kernel
theorem dX4_water_26 : decode cX4_water 26 = .ok (.aload_n 0, 1) := by decide +kernel
theorem dX4_water_27 : decode cX4_water 27 = .ok (.iload_n 1, 1) := by decide +kernel
theorem dX4_water_28 : decode cX4_water 28 = .ok (.iconst 1, 1) := by decide +kernel
theorem dX4_water_29 : decode cX4_water 29 = .ok (.iadd, 1) := by decide +kernel
theorem dX4_water_30 : decode cX4_water 30 = .ok (.invokevirtual 156, 3) := by decide +kernel
theorem dX4_water_33 : decode cX4_water 33 = .ok (.istore_n 3, 1) := by decide +kernel
theorem dX4_water_34 : decode cX4_water 34 = .ok (.iload_n 2, 1) := by decide +kernel
theorem dX4_water_35 : decode cX4_water 35 = .ok (.ldc 163, 2) := by decide +kernel
theorem dX4_water_37 : decode cX4_water 37 = .ok (.if_icmp .eq 9, 3) := by decide +kernel
theorem dX4_water_40 : decode cX4_water 40 = .ok (.iload_n 3, 1) := by decide +kernel
theorem dX4_water_41 : decode cX4_water 41 = .ok (.ldc 163, 2) := by decide +kernel
theorem dX4_water_43 : decode cX4_water 43 = .ok (.if_icmp .ne 8, 3) := by decide +kernel
theorem dX4_water_46 : decode cX4_water 46 = .ok (.ldc 163, 2) := by decide +kernel
theorem dX4_water_48 : decode cX4_water 48 = .ok (.goto 6, 3) := by decide +kernel
theorem dX4_water_51 : decode cX4_water 51 = .ok (.iload_n 3, 1) := by decide +kernel
theorem dX4_water_52 : decode cX4_water 52 = .ok (.iload_n 2, 1) := by decide +kernel
theorem dX4_water_53 : decode cX4_water 53 = .ok (.isub, 1) := by decide +kernel
theorem dX4_water_54 : decode cX4_water 54 = .ok (.ireturn, 1) := by decide +kernel
theorem dX4_done_0 : decode cX4_done 0 = .ok (.iload_n 1, 1) := by decide +kernel
theorem dX4_done_1 : decode cX4_done 1 = .ok (.invokestatic 150, 3) := by decide +kernel
theorem dX4_done_4 : decode cX4_done 4 = .ok (.ifCond .eq 26, 3) := by decide +kernel
theorem dX4_done_7 : decode cX4_done 7 = .ok (.iload_n 2, 1) := by decide +kernel
theorem dX4_done_8 : decode cX4_done 8 = .ok (.invokestatic 150, 3) := by decide +kernel
theorem dX4_done_11 : decode cX4_done 11 = .ok (.ifCond .eq 19, 3) := by decide +kernel
theorem dX4_done_14 : decode cX4_done 14 = .ok (.iload_n 3, 1) := by decide +kernel
theorem dX4_done_15 : decode cX4_done 15 = .ok (.invokestatic 144, 3) := by decide +kernel
theorem dX4_done_18 : decode cX4_done 18 = .ok (.ifCond .eq 12, 3) := by decide +kernel
theorem dX4_done_21 : decode cX4_done 21 = .ok (.aload_n 0, 1) := by decide +kernel
theorem dX4_done_22 : decode cX4_done 22 = .ok (.getfield 63, 3) := by decide +kernel
theorem dX4_done_25 : decode cX4_done 25 = .ok (.bipush 24, 2) := by decide +kernel
theorem dX4_done_27 : decode cX4_done 27 = .ok (.if_icmp .lt 13, 3) := by decide +kernel
theorem dX4_done_30 : decode cX4_done 30 = .ok (.new 164, 3) := by decide +kernel
theorem dX4_done_33 : decode cX4_done 33 = .ok (.dup, 1) := by decide +kernel
theorem dX4_done_34 : decode cX4_done 34 = .ok (.ldc 166, 2) := by decide +kernel
theorem dX4_done_36 : decode cX4_done 36 = .ok (.invokespecial 168, 3) := by decide +kernel
theorem dX4_done_39 : decode cX4_done 39 = .ok (.athrow, 1) := by decide +kernel
theorem dX4_done_40 : decode cX4_done 40 = .ok (.iload_n 1, 1) := by decide +kernel
theorem dX4_done_41 : decode cX4_done 41 = .ok (.iconst 3, 1) := by decide +kernel
theorem dX4_done_42 : decode cX4_done 42 = .ok (.imul, 1) := by decide +kernel
theorem dX4_done_43 : decode cX4_done 43 = .ok (.iload_n 2, 1) := by decide +kernel
theorem dX4_done_44 : decode cX4_done 44 = .ok (.iadd, 1) := by decide +kernel
theorem dX4_done_45 : decode cX4_done 45 = .ok (.istore 4, 2) := by decide +kernel
theorem dX4_done_47 : decode cX4_done 47 = .ok (.aload_n 0, 1) := by decide +kernel
theorem dX4_done_48 : decode cX4_done 48 = .ok (.iload 4, 2) := by decide +kernel
theorem dX4_done_50 : decode cX4_done 50 = .ok (.invokevirtual 153, 3) := by decide +kernel
theorem dX4_done_53 : decode cX4_done 53 = .ok (.ifCond .ne 13, 3) := by decide +kernel
theorem dX4_done_56 : decode cX4_done 56 = .ok (.new 164, 3) := by decide +kernel
theorem dX4_done_59 : decode cX4_done 59 = .ok (.dup, 1) := by decide +kernel
theorem dX4_done_60 : decode cX4_done 60 = .ok (.ldc 171, 2) := by decide +kernel
theorem dX4_done_62 : decode cX4_done 62 = .ok (.invokespecial 168, 3) := by decide +kernel
theorem dX4_done_65 : decode cX4_done 65 = .ok (.athrow, 1) := by decide +kernel
theorem dX4_done_66 : decode cX4_done 66 = .ok (.aload_n 0, 1) := by decide +kernel
theorem dX4_done_67 : decode cX4_done 67 = .ok (.iload 4, 2) := by decide +kernel
theorem dX4_done_69 : decode cX4_done 69 = .ok (.iload_n 3, 1) := by decide +kernel
theorem dX4_done_70 : decode cX4_done 70 = .ok (.invokevirtual 173, 3) := by decide +kernel
theorem dX4_done_73 : decode cX4_done 73 = .ok (.ireturn, 1) := by decide +kernel
theorem dX4_runs_0 : decode cX4_runs 0 = .ok (.iload_n 1, 1) := by decide +kernel
theorem dX4_runs_1 : decode cX4_runs 1 = .ok (.iconst 0, 1) := by decide +kernel
theorem dX4_runs_2 : decode cX4_runs 2 = .ok (.bipush 24, 2) := by decide +kernel
theorem dX4_runs_4 : decode cX4_runs 4 = .ok (.invokestatic 76, 3) := by decide +kernel
theorem dX4_runs_7 : decode cX4_runs 7 = .ok (.ifCond .eq 10, 3) := by decide +kernel
theorem dX4_runs_10 : decode cX4_runs 10 = .ok (.iload_n 2, 1) := by decide +kernel
theorem dX4_runs_11 : decode cX4_runs 11 = .ok (.invokestatic 144, 3) := by decide +kernel
theorem dX4_runs_14 : decode cX4_runs 14 = .ok (.ifCond .ne 5, 3) := by decide +kernel
theorem dX4_runs_17 : decode cX4_runs 17 = .ok (.iconst (-1), 1) := by decide +kernel
theorem dX4_runs_18 : decode cX4_runs 18 = .ok (.ireturn, 1) := by decide +kernel
theorem dX4_runs_19 : decode cX4_runs 19 = .ok (.iconst 0, 1) := by decide +kernel
theorem dX4_runs_20 : decode cX4_runs 20 = .ok (.istore_n 3, 1) := by decide +kernel
theorem dX4_runs_21 : decode cX4_runs 21 = .ok (.iload_n 3, 1) := by decide +kernel
theorem dX4_runs_22 : decode cX4_runs 22 = .ok (.iload_n 1, 1) := by decide +kernel
theorem dX4_runs_23 : decode cX4_runs 23 = .ok (.if_icmp .ge 42, 3) := by decide +kernel
theorem dX4_runs_26 : decode cX4_runs 26 = .ok (.aload_n 0, 1) := by decide +kernel
theorem dX4_runs_27 : decode cX4_runs 27 = .ok (.getfield 63, 3) := by decide +kernel
theorem dX4_runs_30 : decode cX4_runs 30 = .ok (.bipush 24, 2) := by decide +kernel
theorem dX4_runs_32 : decode cX4_runs 32 = .ok (.if_icmp .ge 33, 3) := by decide +kernel
theorem dX4_runs_35 : decode cX4_runs 35 = .ok (.aload_n 0, 1) := by decide +kernel
theorem dX4_runs_36 : decode cX4_runs 36 = .ok (.iload_n 2, 1) := by decide +kernel
theorem dX4_runs_37 : decode cX4_runs 37 = .ok (.invokevirtual 160, 3) := by decide +kernel
theorem dX4_runs_40 : decode cX4_runs 40 = .ok (.istore 4, 2) := by decide +kernel
theorem dX4_runs_42 : decode cX4_runs 42 = .ok (.iload 4, 2) := by decide +kernel
theorem dX4_runs_44 : decode cX4_runs 44 = .ok (.iconst (-1), 1) := by decide +kernel
theorem dX4_runs_45 : decode cX4_runs 45 = .ok (.if_icmp .ne 6, 3) := by decide +kernel
theorem dX4_runs_48 : decode cX4_runs 48 = .ok (.goto 17, 3) := by decide +kernel
theorem dX4_runs_51 : decode cX4_runs 51 = .ok (.aload_n 0, 1) := by decide +kernel
theorem dX4_runs_52 : decode cX4_runs 52 = .ok (.iload 4, 2) := by decide +kernel
theorem dX4_runs_54 : decode cX4_runs 54 = .ok (.iload_n 2, 1) := by decide +kernel
theorem dX4_runs_55 : decode cX4_runs 55 = .ok (.invokevirtual 173, 3) := by decide +kernel
theorem dX4_runs_58 : decode cX4_runs 58 = .ok (.pop, 1) := by decide +kernel
theorem dX4_runs_59 : decode cX4_runs 59 = .ok (.iinc 3 1, 3) := by decide +kernel
theorem dX4_runs_62 : decode cX4_runs 62 = .ok (.goto (-41), 3) := by decide +kernel
theorem dX4_runs_65 : decode cX4_runs 65 = .ok (.iload_n 3, 1) := by decide +kernel
theorem dX4_runs_66 : decode cX4_runs 66 = .ok (.ireturn, 1) := by decide +kernel
theorem dX4_count_0 : decode cX4_count 0 = .ok (.iload_n 1, 1) := by decide +kernel
theorem dX4_count_1 : decode cX4_count 1 = .ok (.tableswitch 114 0 8 #[51, 56, 64, 72, 80, 88, 93, 101, 109], 51) := by decide +kernel
theorem dX4_count_52 : decode cX4_count 52 = .ok (.aload_n 0, 1) := by decide +kernel
theorem dX4_count_53 : decode cX4_count 53 = .ok (.getfield 63, 3) := by decide +kernel
theorem dX4_count_56 : decode cX4_count 56 = .ok (.ireturn, 1) := by decide +kernel
theorem dX4_count_57 : decode cX4_count 57 = .ok (.aload_n 0, 1) := by decide +kernel
theorem dX4_count_58 : decode cX4_count 58 = .ok (.getfield 10, 3) := by decide +kernel
theorem dX4_count_61 : decode cX4_count 61 = .ok (.getfield 86, 3) := by decide +kernel
theorem dX4_count_64 : decode cX4_count 64 = .ok (.ireturn, 1) := by decide +kernel
theorem dX4_count_65 : decode cX4_count 65 = .ok (.aload_n 0, 1) := by decide +kernel
theorem dX4_count_66 : decode cX4_count 66 = .ok (.getfield 10, 3) := by decide +kernel
theorem dX4_count_69 : decode cX4_count 69 = .ok (.getfield 89, 3) := by decide +kernel
theorem dX4_count_72 : decode cX4_count 72 = .ok (.ireturn, 1) := by decide +kernel
theorem dX4_count_73 : decode cX4_count 73 = .ok (.aload_n 0, 1) := by decide +kernel
theorem dX4_count_74 : decode cX4_count 74 = .ok (.getfield 19, 3) := by decide +kernel
theorem dX4_count_77 : decode cX4_count 77 = .ok (.getfield 177, 3) := by decide +kernel
theorem dX4_count_80 : decode cX4_count 80 = .ok (.ireturn, 1) := by decide +kernel
theorem dX4_count_81 : decode cX4_count 81 = .ok (.aload_n 0, 1) := by decide +kernel
theorem dX4_count_82 : decode cX4_count 82 = .ok (.getfield 23, 3) := by decide +kernel
theorem dX4_count_85 : decode cX4_count 85 = .ok (.getfield 177, 3) := by decide +kernel
theorem dX4_count_88 : decode cX4_count 88 = .ok (.ireturn, 1) := by decide +kernel
theorem dX4_count_89 : decode cX4_count 89 = .ok (.aload_n 0, 1) := by decide +kernel
theorem dX4_count_90 : decode cX4_count 90 = .ok (.getfield 66, 3) := by decide +kernel
theorem dX4_count_93 : decode cX4_count 93 = .ok (.ireturn, 1) := by decide +kernel
theorem dX4_count_94 : decode cX4_count 94 = .ok (.aload_n 0, 1) := by decide +kernel
theorem dX4_count_95 : decode cX4_count 95 = .ok (.getfield 19, 3) := by decide +kernel
theorem dX4_count_98 : decode cX4_count 98 = .ok (.getfield 180, 3) := by decide +kernel
theorem dX4_count_101 : decode cX4_count 101 = .ok (.ireturn, 1) := by decide +kernel
theorem dX4_count_102 : decode cX4_count 102 = .ok (.aload_n 0, 1) := by decide +kernel
theorem dX4_count_103 : decode cX4_count 103 = .ok (.getfield 23, 3) := by decide +kernel
theorem dX4_count_106 : decode cX4_count 106 = .ok (.getfield 180, 3) := by decide +kernel
theorem dX4_count_109 : decode cX4_count 109 = .ok (.ireturn, 1) := by decide +kernel
theorem dX4_count_110 : decode cX4_count 110 = .ok (.aload_n 0, 1) := by decide +kernel
theorem dX4_count_111 : decode cX4_count 111 = .ok (.getfield 56, 3) := by decide +kernel
theorem dX4_count_114 : decode cX4_count 114 = .ok (.ireturn, 1) := by decide +kernel
theorem dX4_count_115 : decode cX4_count 115 = .ok (.iconst (-1), 1) := by decide +kernel
theorem dX4_count_116 : decode cX4_count 116 = .ok (.ireturn, 1) := by decide +kernel
theorem dX4_within_0 : decode cX4_within 0 = .ok (.iload_n 0, 1) := by decide +kernel
theorem dX4_within_1 : decode cX4_within 1 = .ok (.iload_n 1, 1) := by decide +kernel
theorem dX4_within_2 : decode cX4_within 2 = .ok (.if_icmp .lt 12, 3) := by decide +kernel
theorem dX4_within_5 : decode cX4_within 5 = .ok (.iload_n 0, 1) := by decide +kernel
theorem dX4_within_6 : decode cX4_within 6 = .ok (.iload_n 2, 1) := by decide +kernel
theorem dX4_within_7 : decode cX4_within 7 = .ok (.if_icmp .gt 7, 3) := by decide +kernel
theorem dX4_within_10 : decode cX4_within 10 = .ok (.iconst 1, 1) := by decide +kernel
theorem dX4_within_11 : decode cX4_within 11 = .ok (.goto 4, 3) := by decide +kernel
theorem dX4_within_14 : decode cX4_within 14 = .ok (.iconst 0, 1) := by decide +kernel
theorem dX4_within_15 : decode cX4_within 15 = .ok (.ireturn, 1) := by decide +kernel
theorem dX4_isHour_0 : decode cX4_isHour 0 = .ok (.iload_n 0, 1) := by decide +kernel
theorem dX4_isHour_1 : decode cX4_isHour 1 = .ok (.iconst 0, 1) := by decide +kernel
theorem dX4_isHour_2 : decode cX4_isHour 2 = .ok (.bipush 23, 2) := by decide +kernel
theorem dX4_isHour_4 : decode cX4_isHour 4 = .ok (.invokestatic 76, 3) := by decide +kernel
theorem dX4_isHour_7 : decode cX4_isHour 7 = .ok (.ireturn, 1) := by decide +kernel
theorem dX4_isWorld_0 : decode cX4_isWorld 0 = .ok (.iload_n 0, 1) := by decide +kernel
theorem dX4_isWorld_1 : decode cX4_isWorld 1 = .ok (.iconst 0, 1) := by decide +kernel
theorem dX4_isWorld_2 : decode cX4_isWorld 2 = .ok (.iconst 2, 1) := by decide +kernel
theorem dX4_isWorld_3 : decode cX4_isWorld 3 = .ok (.invokestatic 76, 3) := by decide +kernel
theorem dX4_isWorld_6 : decode cX4_isWorld 6 = .ok (.ireturn, 1) := by decide +kernel
theorem dX4_isMachine_0 : decode cX4_isMachine 0 = .ok (.iload_n 0, 1) := by decide +kernel
theorem dX4_isMachine_1 : decode cX4_isMachine 1 = .ok (.iconst 0, 1) := by decide +kernel
theorem dX4_isMachine_2 : decode cX4_isMachine 2 = .ok (.iconst 1, 1) := by decide +kernel
theorem dX4_isMachine_3 : decode cX4_isMachine 3 = .ok (.invokestatic 76, 3) := by decide +kernel
theorem dX4_isMachine_6 : decode cX4_isMachine 6 = .ok (.ireturn, 1) := by decide +kernel
theorem dX4_isMode_0 : decode cX4_isMode 0 = .ok (.iload_n 0, 1) := by decide +kernel
theorem dX4_isMode_1 : decode cX4_isMode 1 = .ok (.iconst 0, 1) := by decide +kernel
theorem dX4_isMode_2 : decode cX4_isMode 2 = .ok (.iconst 2, 1) := by decide +kernel
theorem dX4_isMode_3 : decode cX4_isMode 3 = .ok (.invokestatic 76, 3) := by decide +kernel
theorem dX4_isMode_6 : decode cX4_isMode 6 = .ok (.ireturn, 1) := by decide +kernel
theorem dX4_isOfMachine_0 : decode cX4_isOfMachine 0 = .ok (.iload_n 0, 1) := by decide +kernel
theorem dX4_isOfMachine_1 : decode cX4_isOfMachine 1 = .ok (.iconst 0, 1) := by decide +kernel
theorem dX4_isOfMachine_2 : decode cX4_isOfMachine 2 = .ok (.bipush 99, 2) := by decide +kernel
theorem dX4_isOfMachine_4 : decode cX4_isOfMachine 4 = .ok (.invokestatic 76, 3) := by decide +kernel
theorem dX4_isOfMachine_7 : decode cX4_isOfMachine 7 = .ok (.ireturn, 1) := by decide +kernel
theorem dX4_machineOf_0 : decode cX4_machineOf 0 = .ok (.iload_n 1, 1) := by decide +kernel
theorem dX4_machineOf_1 : decode cX4_machineOf 1 = .ok (.ifCond .ne 10, 3) := by decide +kernel
theorem dX4_machineOf_4 : decode cX4_machineOf 4 = .ok (.aload_n 0, 1) := by decide +kernel
theorem dX4_machineOf_5 : decode cX4_machineOf 5 = .ok (.getfield 19, 3) := by decide +kernel
theorem dX4_machineOf_8 : decode cX4_machineOf 8 = .ok (.goto 7, 3) := by decide +kernel
theorem dX4_machineOf_11 : decode cX4_machineOf 11 = .ok (.aload_n 0, 1) := by decide +kernel
theorem dX4_machineOf_12 : decode cX4_machineOf 12 = .ok (.getfield 23, 3) := by decide +kernel
theorem dX4_machineOf_15 : decode cX4_machineOf 15 = .ok (.areturn, 1) := by decide +kernel
theorem dX4_changed_0 : decode cX4_changed 0 = .ok (.aload_n 0, 1) := by decide +kernel
theorem dX4_changed_1 : decode cX4_changed 1 = .ok (.getfield 50, 3) := by decide +kernel
theorem dX4_changed_4 : decode cX4_changed 4 = .ok (.ldc 69, 2) := by decide +kernel
theorem dX4_changed_6 : decode cX4_changed 6 = .ok (.invokestatic 70, 3) := by decide +kernel
theorem dX4_changed_9 : decode cX4_changed 9 = .ok (.aload_n 0, 1) := by decide +kernel
theorem dX4_changed_10 : decode cX4_changed 10 = .ok (.getfield 53, 3) := by decide +kernel
theorem dX4_changed_13 : decode cX4_changed 13 = .ok (.ldc 69, 2) := by decide +kernel
theorem dX4_changed_15 : decode cX4_changed 15 = .ok (.invokestatic 70, 3) := by decide +kernel
theorem dX4_changed_18 : decode cX4_changed 18 = .ok (.iconst 1, 1) := by decide +kernel
theorem dX4_changed_19 : decode cX4_changed 19 = .ok (.ireturn, 1) := by decide +kernel
theorem dX4_modesNow_0 : decode cX4_modesNow 0 = .ok (.aload_n 0, 1) := by decide +kernel
theorem dX4_modesNow_1 : decode cX4_modesNow 1 = .ok (.getfield 19, 3) := by decide +kernel
theorem dX4_modesNow_4 : decode cX4_modesNow 4 = .ok (.getfield 177, 3) := by decide +kernel
theorem dX4_modesNow_7 : decode cX4_modesNow 7 = .ok (.iconst 3, 1) := by decide +kernel
theorem dX4_modesNow_8 : decode cX4_modesNow 8 = .ok (.imul, 1) := by decide +kernel
theorem dX4_modesNow_9 : decode cX4_modesNow 9 = .ok (.aload_n 0, 1) := by decide +kernel
theorem dX4_modesNow_10 : decode cX4_modesNow 10 = .ok (.getfield 23, 3) := by decide +kernel
theorem dX4_modesNow_13 : decode cX4_modesNow 13 = .ok (.getfield 177, 3) := by decide +kernel
theorem dX4_modesNow_16 : decode cX4_modesNow 16 = .ok (.iadd, 1) := by decide +kernel
theorem dX4_modesNow_17 : decode cX4_modesNow 17 = .ok (.ireturn, 1) := by decide +kernel
theorem dX4_isLegalNow_0 : decode cX4_isLegalNow 0 = .ok (.aload_n 0, 1) := by decide +kernel
theorem dX4_isLegalNow_1 : decode cX4_isLegalNow 1 = .ok (.getfield 31, 3) := by decide +kernel
theorem dX4_isLegalNow_4 : decode cX4_isLegalNow 4 = .ok (.aload_n 0, 1) := by decide +kernel
theorem dX4_isLegalNow_5 : decode cX4_isLegalNow 5 = .ok (.getfield 63, 3) := by decide +kernel
theorem dX4_isLegalNow_8 : decode cX4_isLegalNow 8 = .ok (.aload_n 0, 1) := by decide +kernel
theorem dX4_isLegalNow_9 : decode cX4_isLegalNow 9 = .ok (.getfield 10, 3) := by decide +kernel
theorem dX4_isLegalNow_12 : decode cX4_isLegalNow 12 = .ok (.getfield 86, 3) := by decide +kernel
theorem dX4_isLegalNow_15 : decode cX4_isLegalNow 15 = .ok (.aload_n 0, 1) := by decide +kernel
theorem dX4_isLegalNow_16 : decode cX4_isLegalNow 16 = .ok (.getfield 10, 3) := by decide +kernel
theorem dX4_isLegalNow_19 : decode cX4_isLegalNow 19 = .ok (.getfield 89, 3) := by decide +kernel
theorem dX4_isLegalNow_22 : decode cX4_isLegalNow 22 = .ok (.iadd, 1) := by decide +kernel
theorem dX4_isLegalNow_23 : decode cX4_isLegalNow 23 = .ok (.invokevirtual 183, 3) := by decide +kernel
theorem dX4_isLegalNow_26 : decode cX4_isLegalNow 26 = .ok (.aload_n 0, 1) := by decide +kernel
theorem dX4_isLegalNow_27 : decode cX4_isLegalNow 27 = .ok (.getfield 31, 3) := by decide +kernel
theorem dX4_isLegalNow_30 : decode cX4_isLegalNow 30 = .ok (.aload_n 0, 1) := by decide +kernel
theorem dX4_isLegalNow_31 : decode cX4_isLegalNow 31 = .ok (.invokevirtual 187, 3) := by decide +kernel
theorem dX4_isLegalNow_34 : decode cX4_isLegalNow 34 = .ok (.iload_n 1, 1) := by decide +kernel
theorem dX4_isLegalNow_35 : decode cX4_isLegalNow 35 = .ok (.invokevirtual 191, 3) := by decide +kernel
theorem dX4_isLegalNow_38 : decode cX4_isLegalNow 38 = .ok (.iconst (-1), 1) := by decide +kernel
theorem dX4_isLegalNow_39 : decode cX4_isLegalNow 39 = .ok (.if_icmp .eq 7, 3) := by decide +kernel
theorem dX4_isLegalNow_42 : decode cX4_isLegalNow 42 = .ok (.iconst 1, 1) := by decide +kernel
theorem dX4_isLegalNow_43 : decode cX4_isLegalNow 43 = .ok (.goto 4, 3) := by decide +kernel
theorem dX4_isLegalNow_46 : decode cX4_isLegalNow 46 = .ok (.iconst 0, 1) := by decide +kernel
theorem dX4_isLegalNow_47 : decode cX4_isLegalNow 47 = .ok (.istore_n 2, 1) := by decide +kernel
theorem dX4_isLegalNow_48 : decode cX4_isLegalNow 48 = .ok (.iload_n 2, 1) := by decide +kernel
theorem dX4_isLegalNow_49 : decode cX4_isLegalNow 49 = .ok (.ifCond .eq 33, 3) := by decide +kernel
theorem dX4_isLegalNow_52 : decode cX4_isLegalNow 52 = .ok (.aload_n 0, 1) := by decide +kernel
theorem dX4_isLegalNow_53 : decode cX4_isLegalNow 53 = .ok (.getfield 31, 3) := by decide +kernel
theorem dX4_isLegalNow_56 : decode cX4_isLegalNow 56 = .ok (.aload_n 0, 1) := by decide +kernel
theorem dX4_isLegalNow_57 : decode cX4_isLegalNow 57 = .ok (.getfield 63, 3) := by decide +kernel
theorem dX4_isLegalNow_60 : decode cX4_isLegalNow 60 = .ok (.bipush 9, 2) := by decide +kernel
theorem dX4_isLegalNow_62 : decode cX4_isLegalNow 62 = .ok (.imul, 1) := by decide +kernel
theorem dX4_isLegalNow_63 : decode cX4_isLegalNow 63 = .ok (.iload_n 1, 1) := by decide +kernel
theorem dX4_isLegalNow_64 : decode cX4_isLegalNow 64 = .ok (.iadd, 1) := by decide +kernel
theorem dX4_isLegalNow_65 : decode cX4_isLegalNow 65 = .ok (.aload_n 0, 1) := by decide +kernel
theorem dX4_isLegalNow_66 : decode cX4_isLegalNow 66 = .ok (.getfield 10, 3) := by decide +kernel
theorem dX4_isLegalNow_69 : decode cX4_isLegalNow 69 = .ok (.getfield 86, 3) := by decide +kernel
theorem dX4_isLegalNow_72 : decode cX4_isLegalNow 72 = .ok (.invokevirtual 193, 3) := by decide +kernel
theorem dX4_isLegalNow_75 : decode cX4_isLegalNow 75 = .ok (.ifCond .eq 7, 3) := by decide +kernel
theorem dX4_isLegalNow_78 : decode cX4_isLegalNow 78 = .ok (.iconst 1, 1) := by decide +kernel
theorem dX4_isLegalNow_79 : decode cX4_isLegalNow 79 = .ok (.goto 4, 3) := by decide +kernel
theorem dX4_isLegalNow_82 : decode cX4_isLegalNow 82 = .ok (.iconst 0, 1) := by decide +kernel
theorem dX4_isLegalNow_83 : decode cX4_isLegalNow 83 = .ok (.ireturn, 1) := by decide +kernel
theorem dX4_carryOut_0 : decode cX4_carryOut 0 = .ok (.aload_n 0, 1) := by decide +kernel
theorem dX4_carryOut_1 : decode cX4_carryOut 1 = .ok (.getfield 31, 3) := by decide +kernel
theorem dX4_carryOut_4 : decode cX4_carryOut 4 = .ok (.aload_n 0, 1) := by decide +kernel
theorem dX4_carryOut_5 : decode cX4_carryOut 5 = .ok (.getfield 63, 3) := by decide +kernel
theorem dX4_carryOut_8 : decode cX4_carryOut 8 = .ok (.aload_n 0, 1) := by decide +kernel
theorem dX4_carryOut_9 : decode cX4_carryOut 9 = .ok (.getfield 10, 3) := by decide +kernel
theorem dX4_carryOut_12 : decode cX4_carryOut 12 = .ok (.getfield 86, 3) := by decide +kernel
theorem dX4_carryOut_15 : decode cX4_carryOut 15 = .ok (.aload_n 0, 1) := by decide +kernel
theorem dX4_carryOut_16 : decode cX4_carryOut 16 = .ok (.getfield 10, 3) := by decide +kernel
theorem dX4_carryOut_19 : decode cX4_carryOut 19 = .ok (.getfield 89, 3) := by decide +kernel
theorem dX4_carryOut_22 : decode cX4_carryOut 22 = .ok (.iadd, 1) := by decide +kernel
theorem dX4_carryOut_23 : decode cX4_carryOut 23 = .ok (.invokevirtual 183, 3) := by decide +kernel
end
section
theorem dX4_carryOut_26 : decode cX4_carryOut 26 = .ok (.aload_n 0, 1) := by decide +kernel
theorem dX4_carryOut_27 : decode cX4_carryOut 27 = .ok (.getfield 63, 3) := by decide +kernel
theorem dX4_carryOut_30 : decode cX4_carryOut 30 = .ok (.bipush 9, 2) := by decide +kernel
theorem dX4_carryOut_32 : decode cX4_carryOut 32 = .ok (.imul, 1) := by decide +kernel
theorem dX4_carryOut_33 : decode cX4_carryOut 33 = .ok (.iload_n 1, 1) := by decide +kernel
theorem dX4_carryOut_34 : decode cX4_carryOut 34 = .ok (.iadd, 1) := by decide +kernel
theorem dX4_carryOut_35 : decode cX4_carryOut 35 = .ok (.istore_n 3, 1) := by decide +kernel
theorem dX4_carryOut_36 : decode cX4_carryOut 36 = .ok (.aload_n 0, 1) := by decide +kernel
theorem dX4_carryOut_37 : decode cX4_carryOut 37 = .ok (.getfield 37, 3) := by decide +kernel
theorem dX4_carryOut_40 : decode cX4_carryOut 40 = .ok (.iload_n 2, 1) := by decide +kernel
theorem dX4_carryOut_41 : decode cX4_carryOut 41 = .ok (.aaload, 1) := by decide +kernel
theorem dX4_carryOut_42 : decode cX4_carryOut 42 = .ok (.getfield 147, 3) := by decide +kernel
theorem dX4_carryOut_45 : decode cX4_carryOut 45 = .ok (.aload_n 0, 1) := by decide +kernel
theorem dX4_carryOut_46 : decode cX4_carryOut 46 = .ok (.getfield 63, 3) := by decide +kernel
theorem dX4_carryOut_49 : decode cX4_carryOut 49 = .ok (.iaload, 1) := by decide +kernel
theorem dX4_carryOut_50 : decode cX4_carryOut 50 = .ok (.aload_n 0, 1) := by decide +kernel
theorem dX4_carryOut_51 : decode cX4_carryOut 51 = .ok (.getfield 31, 3) := by decide +kernel
theorem dX4_carryOut_54 : decode cX4_carryOut 54 = .ok (.getfield 197, 3) := by decide +kernel
theorem dX4_carryOut_57 : decode cX4_carryOut 57 = .ok (.iload_n 3, 1) := by decide +kernel
theorem dX4_carryOut_58 : decode cX4_carryOut 58 = .ok (.iaload, 1) := by decide +kernel
theorem dX4_carryOut_59 : decode cX4_carryOut 59 = .ok (.imul, 1) := by decide +kernel
theorem dX4_carryOut_60 : decode cX4_carryOut 60 = .ok (.aload_n 0, 1) := by decide +kernel
theorem dX4_carryOut_61 : decode cX4_carryOut 61 = .ok (.getfield 31, 3) := by decide +kernel
theorem dX4_carryOut_64 : decode cX4_carryOut 64 = .ok (.aload_n 0, 1) := by decide +kernel
theorem dX4_carryOut_65 : decode cX4_carryOut 65 = .ok (.invokevirtual 187, 3) := by decide +kernel
theorem dX4_carryOut_68 : decode cX4_carryOut 68 = .ok (.iload_n 1, 1) := by decide +kernel
theorem dX4_carryOut_69 : decode cX4_carryOut 69 = .ok (.invokevirtual 191, 3) := by decide +kernel
theorem dX4_carryOut_72 : decode cX4_carryOut 72 = .ok (.isub, 1) := by decide +kernel
theorem dX4_carryOut_73 : decode cX4_carryOut 73 = .ok (.istore 4, 2) := by decide +kernel
theorem dX4_carryOut_75 : decode cX4_carryOut 75 = .ok (.aload_n 0, 1) := by decide +kernel
theorem dX4_carryOut_76 : decode cX4_carryOut 76 = .ok (.getfield 10, 3) := by decide +kernel
theorem dX4_carryOut_79 : decode cX4_carryOut 79 = .ok (.dup, 1) := by decide +kernel
theorem dX4_carryOut_80 : decode cX4_carryOut 80 = .ok (.getfield 86, 3) := by decide +kernel
theorem dX4_carryOut_83 : decode cX4_carryOut 83 = .ok (.aload_n 0, 1) := by decide +kernel
theorem dX4_carryOut_84 : decode cX4_carryOut 84 = .ok (.getfield 31, 3) := by decide +kernel
theorem dX4_carryOut_87 : decode cX4_carryOut 87 = .ok (.getfield 200, 3) := by decide +kernel
theorem dX4_carryOut_90 : decode cX4_carryOut 90 = .ok (.iload_n 3, 1) := by decide +kernel
theorem dX4_carryOut_91 : decode cX4_carryOut 91 = .ok (.iaload, 1) := by decide +kernel
theorem dX4_carryOut_92 : decode cX4_carryOut 92 = .ok (.iadd, 1) := by decide +kernel
theorem dX4_carryOut_93 : decode cX4_carryOut 93 = .ok (.putfield 86, 3) := by decide +kernel
theorem dX4_carryOut_96 : decode cX4_carryOut 96 = .ok (.aload_n 0, 1) := by decide +kernel
theorem dX4_carryOut_97 : decode cX4_carryOut 97 = .ok (.getfield 10, 3) := by decide +kernel
theorem dX4_carryOut_100 : decode cX4_carryOut 100 = .ok (.dup, 1) := by decide +kernel
theorem dX4_carryOut_101 : decode cX4_carryOut 101 = .ok (.getfield 89, 3) := by decide +kernel
theorem dX4_carryOut_104 : decode cX4_carryOut 104 = .ok (.aload_n 0, 1) := by decide +kernel
theorem dX4_carryOut_105 : decode cX4_carryOut 105 = .ok (.getfield 31, 3) := by decide +kernel
theorem dX4_carryOut_108 : decode cX4_carryOut 108 = .ok (.getfield 203, 3) := by decide +kernel
theorem dX4_carryOut_111 : decode cX4_carryOut 111 = .ok (.iload_n 3, 1) := by decide +kernel
theorem dX4_carryOut_112 : decode cX4_carryOut 112 = .ok (.iaload, 1) := by decide +kernel
theorem dX4_carryOut_113 : decode cX4_carryOut 113 = .ok (.iadd, 1) := by decide +kernel
theorem dX4_carryOut_114 : decode cX4_carryOut 114 = .ok (.putfield 89, 3) := by decide +kernel
theorem dX4_carryOut_117 : decode cX4_carryOut 117 = .ok (.aload_n 0, 1) := by decide +kernel
theorem dX4_carryOut_118 : decode cX4_carryOut 118 = .ok (.getfield 19, 3) := by decide +kernel
theorem dX4_carryOut_121 : decode cX4_carryOut 121 = .ok (.iload_n 1, 1) := by decide +kernel
theorem dX4_carryOut_122 : decode cX4_carryOut 122 = .ok (.iconst 3, 1) := by decide +kernel
theorem dX4_carryOut_123 : decode cX4_carryOut 123 = .ok (.idiv, 1) := by decide +kernel
theorem dX4_carryOut_124 : decode cX4_carryOut 124 = .ok (.invokevirtual 206, 3) := by decide +kernel
theorem dX4_carryOut_127 : decode cX4_carryOut 127 = .ok (.aload_n 0, 1) := by decide +kernel
theorem dX4_carryOut_128 : decode cX4_carryOut 128 = .ok (.getfield 23, 3) := by decide +kernel
theorem dX4_carryOut_131 : decode cX4_carryOut 131 = .ok (.iload_n 1, 1) := by decide +kernel
theorem dX4_carryOut_132 : decode cX4_carryOut 132 = .ok (.iconst 3, 1) := by decide +kernel
theorem dX4_carryOut_133 : decode cX4_carryOut 133 = .ok (.irem, 1) := by decide +kernel
theorem dX4_carryOut_134 : decode cX4_carryOut 134 = .ok (.invokevirtual 206, 3) := by decide +kernel
theorem dX4_carryOut_137 : decode cX4_carryOut 137 = .ok (.aload_n 0, 1) := by decide +kernel
theorem dX4_carryOut_138 : decode cX4_carryOut 138 = .ok (.dup, 1) := by decide +kernel
theorem dX4_carryOut_139 : decode cX4_carryOut 139 = .ok (.getfield 66, 3) := by decide +kernel
theorem dX4_carryOut_142 : decode cX4_carryOut 142 = .ok (.iload 4, 2) := by decide +kernel
theorem dX4_carryOut_144 : decode cX4_carryOut 144 = .ok (.iadd, 1) := by decide +kernel
theorem dX4_carryOut_145 : decode cX4_carryOut 145 = .ok (.putfield 66, 3) := by decide +kernel
theorem dX4_carryOut_148 : decode cX4_carryOut 148 = .ok (.aload_n 0, 1) := by decide +kernel
theorem dX4_carryOut_149 : decode cX4_carryOut 149 = .ok (.dup, 1) := by decide +kernel
theorem dX4_carryOut_150 : decode cX4_carryOut 150 = .ok (.getfield 63, 3) := by decide +kernel
theorem dX4_carryOut_153 : decode cX4_carryOut 153 = .ok (.iconst 1, 1) := by decide +kernel
theorem dX4_carryOut_154 : decode cX4_carryOut 154 = .ok (.iadd, 1) := by decide +kernel
theorem dX4_carryOut_155 : decode cX4_carryOut 155 = .ok (.putfield 63, 3) := by decide +kernel
theorem dX4_carryOut_158 : decode cX4_carryOut 158 = .ok (.aload_n 0, 1) := by decide +kernel
theorem dX4_carryOut_159 : decode cX4_carryOut 159 = .ok (.invokevirtual 92, 3) := by decide +kernel
theorem dX4_carryOut_162 : decode cX4_carryOut 162 = .ok (.pop, 1) := by decide +kernel
theorem dX4_carryOut_163 : decode cX4_carryOut 163 = .ok (.iload 4, 2) := by decide +kernel
theorem dX4_carryOut_165 : decode cX4_carryOut 165 = .ok (.ireturn, 1) := by decide +kernel
theorem dX4_worthWith_0 : decode cX4_worthWith 0 = .ok (.aload_n 0, 1) := by decide +kernel
theorem dX4_worthWith_1 : decode cX4_worthWith 1 = .ok (.getfield 50, 3) := by decide +kernel
theorem dX4_worthWith_4 : decode cX4_worthWith 4 = .ok (.iload_n 1, 1) := by decide +kernel
theorem dX4_worthWith_5 : decode cX4_worthWith 5 = .ok (.iaload, 1) := by decide +kernel
theorem dX4_worthWith_6 : decode cX4_worthWith 6 = .ok (.ldc 69, 2) := by decide +kernel
theorem dX4_worthWith_8 : decode cX4_worthWith 8 = .ok (.if_icmp .ne 31, 3) := by decide +kernel
theorem dX4_worthWith_11 : decode cX4_worthWith 11 = .ok (.aload_n 0, 1) := by decide +kernel
theorem dX4_worthWith_12 : decode cX4_worthWith 12 = .ok (.iload_n 1, 1) := by decide +kernel
theorem dX4_worthWith_13 : decode cX4_worthWith 13 = .ok (.invokevirtual 210, 3) := by decide +kernel
theorem dX4_worthWith_16 : decode cX4_worthWith 16 = .ok (.aload_n 0, 1) := by decide +kernel
theorem dX4_worthWith_17 : decode cX4_worthWith 17 = .ok (.getfield 50, 3) := by decide +kernel
theorem dX4_worthWith_20 : decode cX4_worthWith 20 = .ok (.iload_n 1, 1) := by decide +kernel
theorem dX4_worthWith_21 : decode cX4_worthWith 21 = .ok (.aload_n 0, 1) := by decide +kernel
theorem dX4_worthWith_22 : decode cX4_worthWith 22 = .ok (.getfield 42, 3) := by decide +kernel
theorem dX4_worthWith_25 : decode cX4_worthWith 25 = .ok (.getfield 213, 3) := by decide +kernel
theorem dX4_worthWith_28 : decode cX4_worthWith 28 = .ok (.iload_n 1, 1) := by decide +kernel
theorem dX4_worthWith_29 : decode cX4_worthWith 29 = .ok (.bipush 9, 2) := by decide +kernel
theorem dX4_worthWith_31 : decode cX4_worthWith 31 = .ok (.imul, 1) := by decide +kernel
theorem dX4_worthWith_32 : decode cX4_worthWith 32 = .ok (.aload_n 0, 1) := by decide +kernel
theorem dX4_worthWith_33 : decode cX4_worthWith 33 = .ok (.invokevirtual 187, 3) := by decide +kernel
theorem dX4_worthWith_36 : decode cX4_worthWith 36 = .ok (.iadd, 1) := by decide +kernel
theorem dX4_worthWith_37 : decode cX4_worthWith 37 = .ok (.iaload, 1) := by decide +kernel
theorem dX4_worthWith_38 : decode cX4_worthWith 38 = .ok (.iastore, 1) := by decide +kernel
theorem dX4_worthWith_39 : decode cX4_worthWith 39 = .ok (.aload_n 0, 1) := by decide +kernel
theorem dX4_worthWith_40 : decode cX4_worthWith 40 = .ok (.getfield 50, 3) := by decide +kernel
theorem dX4_worthWith_43 : decode cX4_worthWith 43 = .ok (.iload_n 1, 1) := by decide +kernel
theorem dX4_worthWith_44 : decode cX4_worthWith 44 = .ok (.iaload, 1) := by decide +kernel
theorem dX4_worthWith_45 : decode cX4_worthWith 45 = .ok (.ireturn, 1) := by decide +kernel
theorem dX4_bestDoing_0 : decode cX4_bestDoing 0 = .ok (.aload_n 0, 1) := by decide +kernel
theorem dX4_bestDoing_1 : decode cX4_bestDoing 1 = .ok (.getfield 63, 3) := by decide +kernel
theorem dX4_bestDoing_4 : decode cX4_bestDoing 4 = .ok (.aload_n 0, 1) := by decide +kernel
theorem dX4_bestDoing_5 : decode cX4_bestDoing 5 = .ok (.getfield 56, 3) := by decide +kernel
theorem dX4_bestDoing_8 : decode cX4_bestDoing 8 = .ok (.if_icmp .ge 7, 3) := by decide +kernel
theorem dX4_bestDoing_11 : decode cX4_bestDoing 11 = .ok (.iconst 1, 1) := by decide +kernel
theorem dX4_bestDoing_12 : decode cX4_bestDoing 12 = .ok (.goto 4, 3) := by decide +kernel
theorem dX4_bestDoing_15 : decode cX4_bestDoing 15 = .ok (.iconst 0, 1) := by decide +kernel
theorem dX4_bestDoing_16 : decode cX4_bestDoing 16 = .ok (.istore_n 2, 1) := by decide +kernel
theorem dX4_bestDoing_17 : decode cX4_bestDoing 17 = .ok (.iload_n 2, 1) := by decide +kernel
theorem dX4_bestDoing_18 : decode cX4_bestDoing 18 = .ok (.ifCond .eq 7, 3) := by decide +kernel
theorem dX4_bestDoing_21 : decode cX4_bestDoing 21 = .ok (.iconst 0, 1) := by decide +kernel
theorem dX4_bestDoing_22 : decode cX4_bestDoing 22 = .ok (.goto 4, 3) := by decide +kernel
theorem dX4_bestDoing_25 : decode cX4_bestDoing 25 = .ok (.iload_n 1, 1) := by decide +kernel
theorem dX4_bestDoing_26 : decode cX4_bestDoing 26 = .ok (.istore_n 3, 1) := by decide +kernel
theorem dX4_bestDoing_27 : decode cX4_bestDoing 27 = .ok (.aload_n 0, 1) := by decide +kernel
theorem dX4_bestDoing_28 : decode cX4_bestDoing 28 = .ok (.getfield 53, 3) := by decide +kernel
theorem dX4_bestDoing_31 : decode cX4_bestDoing 31 = .ok (.iload_n 3, 1) := by decide +kernel
theorem dX4_bestDoing_32 : decode cX4_bestDoing 32 = .ok (.iaload, 1) := by decide +kernel
theorem dX4_bestDoing_33 : decode cX4_bestDoing 33 = .ok (.ldc 69, 2) := by decide +kernel
theorem dX4_bestDoing_35 : decode cX4_bestDoing 35 = .ok (.if_icmp .ne 98, 3) := by decide +kernel
theorem dX4_bestDoing_38 : decode cX4_bestDoing 38 = .ok (.iload_n 2, 1) := by decide +kernel
theorem dX4_bestDoing_39 : decode cX4_bestDoing 39 = .ok (.ifCond .eq 17, 3) := by decide +kernel
theorem dX4_bestDoing_42 : decode cX4_bestDoing 42 = .ok (.aload_n 0, 1) := by decide +kernel
theorem dX4_bestDoing_43 : decode cX4_bestDoing 43 = .ok (.aload_n 0, 1) := by decide +kernel
theorem dX4_bestDoing_44 : decode cX4_bestDoing 44 = .ok (.getfield 10, 3) := by decide +kernel
theorem dX4_bestDoing_47 : decode cX4_bestDoing 47 = .ok (.getfield 86, 3) := by decide +kernel
theorem dX4_bestDoing_50 : decode cX4_bestDoing 50 = .ok (.invokevirtual 210, 3) := by decide +kernel
theorem dX4_bestDoing_53 : decode cX4_bestDoing 53 = .ok (.goto 34, 3) := by decide +kernel
theorem dX4_bestDoing_56 : decode cX4_bestDoing 56 = .ok (.aload_n 0, 1) := by decide +kernel
theorem dX4_bestDoing_57 : decode cX4_bestDoing 57 = .ok (.getfield 31, 3) := by decide +kernel
theorem dX4_bestDoing_60 : decode cX4_bestDoing 60 = .ok (.aload_n 0, 1) := by decide +kernel
theorem dX4_bestDoing_61 : decode cX4_bestDoing 61 = .ok (.getfield 63, 3) := by decide +kernel
theorem dX4_bestDoing_64 : decode cX4_bestDoing 64 = .ok (.aload_n 0, 1) := by decide +kernel
theorem dX4_bestDoing_65 : decode cX4_bestDoing 65 = .ok (.getfield 10, 3) := by decide +kernel
theorem dX4_bestDoing_68 : decode cX4_bestDoing 68 = .ok (.getfield 86, 3) := by decide +kernel
theorem dX4_bestDoing_71 : decode cX4_bestDoing 71 = .ok (.aload_n 0, 1) := by decide +kernel
theorem dX4_bestDoing_72 : decode cX4_bestDoing 72 = .ok (.getfield 10, 3) := by decide +kernel
theorem dX4_bestDoing_75 : decode cX4_bestDoing 75 = .ok (.getfield 89, 3) := by decide +kernel
theorem dX4_bestDoing_78 : decode cX4_bestDoing 78 = .ok (.iadd, 1) := by decide +kernel
theorem dX4_bestDoing_79 : decode cX4_bestDoing 79 = .ok (.invokevirtual 216, 3) := by decide +kernel
theorem dX4_bestDoing_82 : decode cX4_bestDoing 82 = .ok (.aload_n 0, 1) := by decide +kernel
theorem dX4_bestDoing_83 : decode cX4_bestDoing 83 = .ok (.iload_n 1, 1) := by decide +kernel
theorem dX4_bestDoing_84 : decode cX4_bestDoing 84 = .ok (.invokevirtual 219, 3) := by decide +kernel
theorem dX4_bestDoing_87 : decode cX4_bestDoing 87 = .ok (.iload_n 2, 1) := by decide +kernel
theorem dX4_bestDoing_88 : decode cX4_bestDoing 88 = .ok (.ifCond .eq 10, 3) := by decide +kernel
theorem dX4_bestDoing_91 : decode cX4_bestDoing 91 = .ok (.aload_n 0, 1) := by decide +kernel
theorem dX4_bestDoing_92 : decode cX4_bestDoing 92 = .ok (.getfield 42, 3) := by decide +kernel
theorem dX4_bestDoing_95 : decode cX4_bestDoing 95 = .ok (.goto 9, 3) := by decide +kernel
theorem dX4_bestDoing_98 : decode cX4_bestDoing 98 = .ok (.aload_n 0, 1) := by decide +kernel
theorem dX4_bestDoing_99 : decode cX4_bestDoing 99 = .ok (.getfield 37, 3) := by decide +kernel
theorem dX4_bestDoing_102 : decode cX4_bestDoing 102 = .ok (.iload_n 1, 1) := by decide +kernel
theorem dX4_bestDoing_103 : decode cX4_bestDoing 103 = .ok (.aaload, 1) := by decide +kernel
theorem dX4_bestDoing_104 : decode cX4_bestDoing 104 = .ok (.astore 4, 2) := by decide +kernel
theorem dX4_bestDoing_106 : decode cX4_bestDoing 106 = .ok (.aload_n 0, 1) := by decide +kernel
theorem dX4_bestDoing_107 : decode cX4_bestDoing 107 = .ok (.getfield 53, 3) := by decide +kernel
theorem dX4_bestDoing_110 : decode cX4_bestDoing 110 = .ok (.iload_n 3, 1) := by decide +kernel
theorem dX4_bestDoing_111 : decode cX4_bestDoing 111 = .ok (.aload 4, 2) := by decide +kernel
theorem dX4_bestDoing_113 : decode cX4_bestDoing 113 = .ok (.getfield 222, 3) := by decide +kernel
theorem dX4_bestDoing_116 : decode cX4_bestDoing 116 = .ok (.aload_n 0, 1) := by decide +kernel
theorem dX4_bestDoing_117 : decode cX4_bestDoing 117 = .ok (.getfield 10, 3) := by decide +kernel
theorem dX4_bestDoing_120 : decode cX4_bestDoing 120 = .ok (.getfield 86, 3) := by decide +kernel
theorem dX4_bestDoing_123 : decode cX4_bestDoing 123 = .ok (.bipush 9, 2) := by decide +kernel
theorem dX4_bestDoing_125 : decode cX4_bestDoing 125 = .ok (.imul, 1) := by decide +kernel
theorem dX4_bestDoing_126 : decode cX4_bestDoing 126 = .ok (.aload_n 0, 1) := by decide +kernel
theorem dX4_bestDoing_127 : decode cX4_bestDoing 127 = .ok (.invokevirtual 187, 3) := by decide +kernel
theorem dX4_bestDoing_130 : decode cX4_bestDoing 130 = .ok (.iadd, 1) := by decide +kernel
theorem dX4_bestDoing_131 : decode cX4_bestDoing 131 = .ok (.iaload, 1) := by decide +kernel
theorem dX4_bestDoing_132 : decode cX4_bestDoing 132 = .ok (.iastore, 1) := by decide +kernel
theorem dX4_bestDoing_133 : decode cX4_bestDoing 133 = .ok (.aload_n 0, 1) := by decide +kernel
theorem dX4_bestDoing_134 : decode cX4_bestDoing 134 = .ok (.getfield 53, 3) := by decide +kernel
theorem dX4_bestDoing_137 : decode cX4_bestDoing 137 = .ok (.iload_n 3, 1) := by decide +kernel
theorem dX4_bestDoing_138 : decode cX4_bestDoing 138 = .ok (.iaload, 1) := by decide +kernel
theorem dX4_bestDoing_139 : decode cX4_bestDoing 139 = .ok (.ireturn, 1) := by decide +kernel
theorem dX4_planAll_0 : decode cX4_planAll 0 = .ok (.aload_n 0, 1) := by decide +kernel
theorem dX4_planAll_1 : decode cX4_planAll 1 = .ok (.getfield 31, 3) := by decide +kernel
theorem dX4_planAll_4 : decode cX4_planAll 4 = .ok (.aload_n 0, 1) := by decide +kernel
theorem dX4_planAll_5 : decode cX4_planAll 5 = .ok (.getfield 63, 3) := by decide +kernel
theorem dX4_planAll_8 : decode cX4_planAll 8 = .ok (.iload_n 1, 1) := by decide +kernel
theorem dX4_planAll_9 : decode cX4_planAll 9 = .ok (.aload_n 0, 1) := by decide +kernel
theorem dX4_planAll_10 : decode cX4_planAll 10 = .ok (.getfield 10, 3) := by decide +kernel
theorem dX4_planAll_13 : decode cX4_planAll 13 = .ok (.getfield 89, 3) := by decide +kernel
theorem dX4_planAll_16 : decode cX4_planAll 16 = .ok (.iadd, 1) := by decide +kernel
theorem dX4_planAll_17 : decode cX4_planAll 17 = .ok (.invokevirtual 216, 3) := by decide +kernel
theorem dX4_planAll_20 : decode cX4_planAll 20 = .ok (.iconst 0, 1) := by decide +kernel
theorem dX4_planAll_21 : decode cX4_planAll 21 = .ok (.istore_n 2, 1) := by decide +kernel
theorem dX4_planAll_22 : decode cX4_planAll 22 = .ok (.iload_n 2, 1) := by decide +kernel
theorem dX4_planAll_23 : decode cX4_planAll 23 = .ok (.iconst 3, 1) := by decide +kernel
theorem dX4_planAll_24 : decode cX4_planAll 24 = .ok (.if_icmp .ge 23, 3) := by decide +kernel
theorem dX4_planAll_27 : decode cX4_planAll 27 = .ok (.aload_n 0, 1) := by decide +kernel
theorem dX4_planAll_28 : decode cX4_planAll 28 = .ok (.getfield 46, 3) := by decide +kernel
theorem dX4_planAll_31 : decode cX4_planAll 31 = .ok (.iload_n 2, 1) := by decide +kernel
theorem dX4_planAll_32 : decode cX4_planAll 32 = .ok (.iaload, 1) := by decide +kernel
theorem dX4_planAll_33 : decode cX4_planAll 33 = .ok (.ifCond .le 8, 3) := by decide +kernel
theorem dX4_planAll_36 : decode cX4_planAll 36 = .ok (.aload_n 0, 1) := by decide +kernel
theorem dX4_planAll_37 : decode cX4_planAll 37 = .ok (.iload_n 2, 1) := by decide +kernel
theorem dX4_planAll_38 : decode cX4_planAll 38 = .ok (.invokevirtual 219, 3) := by decide +kernel
theorem dX4_planAll_41 : decode cX4_planAll 41 = .ok (.iinc 2 1, 3) := by decide +kernel
theorem dX4_planAll_44 : decode cX4_planAll 44 = .ok (.goto (-22), 3) := by decide +kernel
theorem dX4_planAll_47 : decode cX4_planAll 47 = .ok (.aload_n 0, 1) := by decide +kernel
theorem dX4_planAll_48 : decode cX4_planAll 48 = .ok (.invokevirtual 225, 3) := by decide +kernel
theorem dX4_planAll_51 : decode cX4_planAll 51 = .ok (.aload_n 0, 1) := by decide +kernel
theorem dX4_planAll_52 : decode cX4_planAll 52 = .ok (.getfield 42, 3) := by decide +kernel
theorem dX4_planAll_55 : decode cX4_planAll 55 = .ok (.aload_n 0, 1) := by decide +kernel
theorem dX4_planAll_56 : decode cX4_planAll 56 = .ok (.getfield 31, 3) := by decide +kernel
theorem dX4_planAll_59 : decode cX4_planAll 59 = .ok (.aload_n 0, 1) := by decide +kernel
theorem dX4_planAll_60 : decode cX4_planAll 60 = .ok (.getfield 63, 3) := by decide +kernel
theorem dX4_planAll_63 : decode cX4_planAll 63 = .ok (.aload_n 0, 1) := by decide +kernel
theorem dX4_planAll_64 : decode cX4_planAll 64 = .ok (.getfield 56, 3) := by decide +kernel
theorem dX4_planAll_67 : decode cX4_planAll 67 = .ok (.invokevirtual 228, 3) := by decide +kernel
theorem dX4_planAll_70 : decode cX4_planAll 70 = .ok (.return_, 1) := by decide +kernel
theorem dX4_planWorld_0 : decode cX4_planWorld 0 = .ok (.aload_n 0, 1) := by decide +kernel
theorem dX4_planWorld_1 : decode cX4_planWorld 1 = .ok (.getfield 37, 3) := by decide +kernel
theorem dX4_planWorld_4 : decode cX4_planWorld 4 = .ok (.iload_n 1, 1) := by decide +kernel
theorem dX4_planWorld_5 : decode cX4_planWorld 5 = .ok (.aaload, 1) := by decide +kernel
theorem dX4_planWorld_6 : decode cX4_planWorld 6 = .ok (.aload_n 0, 1) := by decide +kernel
theorem dX4_planWorld_7 : decode cX4_planWorld 7 = .ok (.getfield 60, 3) := by decide +kernel
theorem dX4_planWorld_10 : decode cX4_planWorld 10 = .ok (.invokevirtual 232, 3) := by decide +kernel
theorem dX4_planWorld_13 : decode cX4_planWorld 13 = .ok (.aload_n 0, 1) := by decide +kernel
theorem dX4_planWorld_14 : decode cX4_planWorld 14 = .ok (.getfield 37, 3) := by decide +kernel
theorem dX4_planWorld_17 : decode cX4_planWorld 17 = .ok (.iload_n 1, 1) := by decide +kernel
theorem dX4_planWorld_18 : decode cX4_planWorld 18 = .ok (.aaload, 1) := by decide +kernel
theorem dX4_planWorld_19 : decode cX4_planWorld 19 = .ok (.aload_n 0, 1) := by decide +kernel
theorem dX4_planWorld_20 : decode cX4_planWorld 20 = .ok (.getfield 31, 3) := by decide +kernel
theorem dX4_planWorld_23 : decode cX4_planWorld 23 = .ok (.aload_n 0, 1) := by decide +kernel
theorem dX4_planWorld_24 : decode cX4_planWorld 24 = .ok (.getfield 63, 3) := by decide +kernel
theorem dX4_planWorld_27 : decode cX4_planWorld 27 = .ok (.aload_n 0, 1) := by decide +kernel
theorem dX4_planWorld_28 : decode cX4_planWorld 28 = .ok (.getfield 56, 3) := by decide +kernel
theorem dX4_planWorld_31 : decode cX4_planWorld 31 = .ok (.invokestatic 235, 3) := by decide +kernel
theorem dX4_planWorld_34 : decode cX4_planWorld 34 = .ok (.bipush 24, 2) := by decide +kernel
theorem dX4_planWorld_36 : decode cX4_planWorld 36 = .ok (.invokevirtual 228, 3) := by decide +kernel
theorem dX4_planWorld_39 : decode cX4_planWorld 39 = .ok (.return_, 1) := by decide +kernel
theorem dX4_mixWorlds_0 : decode cX4_mixWorlds 0 = .ok (.aload_n 0, 1) := by decide +kernel
theorem dX4_mixWorlds_1 : decode cX4_mixWorlds 1 = .ok (.getfield 42, 3) := by decide +kernel
theorem dX4_mixWorlds_4 : decode cX4_mixWorlds 4 = .ok (.iconst 0, 1) := by decide +kernel
theorem dX4_mixWorlds_5 : decode cX4_mixWorlds 5 = .ok (.putfield 240, 3) := by decide +kernel
theorem dX4_mixWorlds_8 : decode cX4_mixWorlds 8 = .ok (.aload_n 0, 1) := by decide +kernel
theorem dX4_mixWorlds_9 : decode cX4_mixWorlds 9 = .ok (.getfield 42, 3) := by decide +kernel
theorem dX4_mixWorlds_12 : decode cX4_mixWorlds 12 = .ok (.getfield 147, 3) := by decide +kernel
theorem dX4_mixWorlds_15 : decode cX4_mixWorlds 15 = .ok (.iconst 0, 1) := by decide +kernel
theorem dX4_mixWorlds_16 : decode cX4_mixWorlds 16 = .ok (.invokestatic 70, 3) := by decide +kernel
theorem dX4_mixWorlds_19 : decode cX4_mixWorlds 19 = .ok (.aload_n 0, 1) := by decide +kernel
theorem dX4_mixWorlds_20 : decode cX4_mixWorlds 20 = .ok (.getfield 42, 3) := by decide +kernel
theorem dX4_mixWorlds_23 : decode cX4_mixWorlds 23 = .ok (.getfield 213, 3) := by decide +kernel
theorem dX4_mixWorlds_26 : decode cX4_mixWorlds 26 = .ok (.iconst 0, 1) := by decide +kernel
theorem dX4_mixWorlds_27 : decode cX4_mixWorlds 27 = .ok (.invokestatic 70, 3) := by decide +kernel
theorem dX4_mixWorlds_30 : decode cX4_mixWorlds 30 = .ok (.iconst 0, 1) := by decide +kernel
theorem dX4_mixWorlds_31 : decode cX4_mixWorlds 31 = .ok (.istore_n 1, 1) := by decide +kernel
theorem dX4_mixWorlds_32 : decode cX4_mixWorlds 32 = .ok (.iload_n 1, 1) := by decide +kernel
theorem dX4_mixWorlds_33 : decode cX4_mixWorlds 33 = .ok (.iconst 3, 1) := by decide +kernel
theorem dX4_mixWorlds_34 : decode cX4_mixWorlds 34 = .ok (.if_icmp .ge 37, 3) := by decide +kernel
theorem dX4_mixWorlds_37 : decode cX4_mixWorlds 37 = .ok (.aload_n 0, 1) := by decide +kernel
theorem dX4_mixWorlds_38 : decode cX4_mixWorlds 38 = .ok (.getfield 46, 3) := by decide +kernel
theorem dX4_mixWorlds_41 : decode cX4_mixWorlds 41 = .ok (.iload_n 1, 1) := by decide +kernel
theorem dX4_mixWorlds_42 : decode cX4_mixWorlds 42 = .ok (.iaload, 1) := by decide +kernel
theorem dX4_mixWorlds_43 : decode cX4_mixWorlds 43 = .ok (.ifCond .le 22, 3) := by decide +kernel
theorem dX4_mixWorlds_46 : decode cX4_mixWorlds 46 = .ok (.aload_n 0, 1) := by decide +kernel
theorem dX4_mixWorlds_47 : decode cX4_mixWorlds 47 = .ok (.getfield 42, 3) := by decide +kernel
theorem dX4_mixWorlds_50 : decode cX4_mixWorlds 50 = .ok (.aload_n 0, 1) := by decide +kernel
theorem dX4_mixWorlds_51 : decode cX4_mixWorlds 51 = .ok (.getfield 37, 3) := by decide +kernel
theorem dX4_mixWorlds_54 : decode cX4_mixWorlds 54 = .ok (.iload_n 1, 1) := by decide +kernel
theorem dX4_mixWorlds_55 : decode cX4_mixWorlds 55 = .ok (.aaload, 1) := by decide +kernel
theorem dX4_mixWorlds_56 : decode cX4_mixWorlds 56 = .ok (.aload_n 0, 1) := by decide +kernel
theorem dX4_mixWorlds_57 : decode cX4_mixWorlds 57 = .ok (.getfield 46, 3) := by decide +kernel
theorem dX4_mixWorlds_60 : decode cX4_mixWorlds 60 = .ok (.iload_n 1, 1) := by decide +kernel
theorem dX4_mixWorlds_61 : decode cX4_mixWorlds 61 = .ok (.iaload, 1) := by decide +kernel
theorem dX4_mixWorlds_62 : decode cX4_mixWorlds 62 = .ok (.invokevirtual 243, 3) := by decide +kernel
theorem dX4_mixWorlds_65 : decode cX4_mixWorlds 65 = .ok (.iinc 1 1, 3) := by decide +kernel
theorem dX4_mixWorlds_68 : decode cX4_mixWorlds 68 = .ok (.goto (-36), 3) := by decide +kernel
theorem dX4_mixWorlds_71 : decode cX4_mixWorlds 71 = .ok (.return_, 1) := by decide +kernel
end
section
theorem dX5_init_0 : decode cX5_init 0 = .ok (.aload_n 0, 1) := by decide +kernel
theorem dX5_init_1 : decode cX5_init 1 = .ok (.invokespecial 1, 3) := by decide +kernel
theorem dX5_init_4 : decode cX5_init 4 = .ok (.aload_n 0, 1) := by decide +kernel
theorem dX5_init_5 : decode cX5_init 5 = .ok (.bipush 40, 2) := by decide +kernel
theorem dX5_init_7 : decode cX5_init 7 = .ok (.putfield 7, 3) := by decide +kernel
theorem dX5_init_10 : decode cX5_init 10 = .ok (.aload_n 0, 1) := by decide +kernel
theorem dX5_init_11 : decode cX5_init 11 = .ok (.bipush 40, 2) := by decide +kernel
theorem dX5_init_13 : decode cX5_init 13 = .ok (.putfield 13, 3) := by decide +kernel
theorem dX5_init_16 : decode cX5_init 16 = .ok (.aload_n 0, 1) := by decide +kernel
theorem dX5_init_17 : decode cX5_init 17 = .ok (.bipush 20, 2) := by decide +kernel
theorem dX5_init_19 : decode cX5_init 19 = .ok (.putfield 16, 3) := by decide +kernel
theorem dX5_init_22 : decode cX5_init 22 = .ok (.aload_n 0, 1) := by decide +kernel
theorem dX5_init_23 : decode cX5_init 23 = .ok (.bipush 20, 2) := by decide +kernel
theorem dX5_init_25 : decode cX5_init 25 = .ok (.putfield 19, 3) := by decide +kernel
theorem dX5_init_28 : decode cX5_init 28 = .ok (.aload_n 0, 1) := by decide +kernel
theorem dX5_init_29 : decode cX5_init 29 = .ok (.bipush 40, 2) := by decide +kernel
theorem dX5_init_31 : decode cX5_init 31 = .ok (.putfield 22, 3) := by decide +kernel
theorem dX5_init_34 : decode cX5_init 34 = .ok (.aload_n 0, 1) := by decide +kernel
theorem dX5_init_35 : decode cX5_init 35 = .ok (.bipush 40, 2) := by decide +kernel
theorem dX5_init_37 : decode cX5_init 37 = .ok (.putfield 25, 3) := by decide +kernel
theorem dX5_init_40 : decode cX5_init 40 = .ok (.aload_n 0, 1) := by decide +kernel
theorem dX5_init_41 : decode cX5_init 41 = .ok (.bipush 24, 2) := by decide +kernel
theorem dX5_init_43 : decode cX5_init 43 = .ok (.newarray .int, 2) := by decide +kernel
theorem dX5_init_45 : decode cX5_init 45 = .ok (.putfield 28, 3) := by decide +kernel
theorem dX5_init_48 : decode cX5_init 48 = .ok (.aload_n 0, 1) := by decide +kernel
theorem dX5_init_49 : decode cX5_init 49 = .ok (.bipush 24, 2) := by decide +kernel
theorem dX5_init_51 : decode cX5_init 51 = .ok (.newarray .int, 2) := by decide +kernel
theorem dX5_init_53 : decode cX5_init 53 = .ok (.putfield 32, 3) := by decide +kernel
theorem dX5_init_56 : decode cX5_init 56 = .ok (.aload_n 0, 1) := by decide +kernel
theorem dX5_init_57 : decode cX5_init 57 = .ok (.bipush 24, 2) := by decide +kernel
theorem dX5_init_59 : decode cX5_init 59 = .ok (.newarray .int, 2) := by decide +kernel
theorem dX5_init_61 : decode cX5_init 61 = .ok (.putfield 35, 3) := by decide +kernel
theorem dX5_init_64 : decode cX5_init 64 = .ok (.aload_n 0, 1) := by decide +kernel
theorem dX5_init_65 : decode cX5_init 65 = .ok (.iconst 2, 1) := by decide +kernel
theorem dX5_init_66 : decode cX5_init 66 = .ok (.newarray .int, 2) := by decide +kernel
theorem dX5_init_68 : decode cX5_init 68 = .ok (.putfield 38, 3) := by decide +kernel
theorem dX5_init_71 : decode cX5_init 71 = .ok (.aload_n 0, 1) := by decide +kernel
theorem dX5_init_72 : decode cX5_init 72 = .ok (.iconst 2, 1) := by decide +kernel
theorem dX5_init_73 : decode cX5_init 73 = .ok (.newarray .int, 2) := by decide +kernel
theorem dX5_init_75 : decode cX5_init 75 = .ok (.putfield 41, 3) := by decide +kernel
theorem dX5_init_78 : decode cX5_init 78 = .ok (.aload_n 0, 1) := by decide +kernel
theorem dX5_init_79 : decode cX5_init 79 = .ok (.iconst 2, 1) := by decide +kernel
theorem dX5_init_80 : decode cX5_init 80 = .ok (.newarray .int, 2) := by decide +kernel
theorem dX5_init_82 : decode cX5_init 82 = .ok (.putfield 44, 3) := by decide +kernel
theorem dX5_init_85 : decode cX5_init 85 = .ok (.aload_n 0, 1) := by decide +kernel
theorem dX5_init_86 : decode cX5_init 86 = .ok (.iconst 2, 1) := by decide +kernel
theorem dX5_init_87 : decode cX5_init 87 = .ok (.newarray .int, 2) := by decide +kernel
theorem dX5_init_89 : decode cX5_init 89 = .ok (.putfield 47, 3) := by decide +kernel
theorem dX5_init_92 : decode cX5_init 92 = .ok (.aload_n 0, 1) := by decide +kernel
theorem dX5_init_93 : decode cX5_init 93 = .ok (.iconst 2, 1) := by decide +kernel
theorem dX5_init_94 : decode cX5_init 94 = .ok (.newarray .int, 2) := by decide +kernel
theorem dX5_init_96 : decode cX5_init 96 = .ok (.putfield 50, 3) := by decide +kernel
theorem dX5_init_99 : decode cX5_init 99 = .ok (.aload_n 0, 1) := by decide +kernel
theorem dX5_init_100 : decode cX5_init 100 = .ok (.bipush 48, 2) := by decide +kernel
theorem dX5_init_102 : decode cX5_init 102 = .ok (.newarray .boolean, 2) := by decide +kernel
theorem dX5_init_104 : decode cX5_init 104 = .ok (.putfield 53, 3) := by decide +kernel
theorem dX5_init_107 : decode cX5_init 107 = .ok (.aload_n 0, 1) := by decide +kernel
theorem dX5_init_108 : decode cX5_init 108 = .ok (.iconst 3, 1) := by decide +kernel
theorem dX5_init_109 : decode cX5_init 109 = .ok (.newarray .int, 2) := by decide +kernel
theorem dX5_init_111 : decode cX5_init 111 = .ok (.putfield 57, 3) := by decide +kernel
theorem dX5_init_114 : decode cX5_init 114 = .ok (.aload_n 0, 1) := by decide +kernel
theorem dX5_init_115 : decode cX5_init 115 = .ok (.bipush 72, 2) := by decide +kernel
theorem dX5_init_117 : decode cX5_init 117 = .ok (.newarray .int, 2) := by decide +kernel
theorem dX5_init_119 : decode cX5_init 119 = .ok (.putfield 60, 3) := by decide +kernel
theorem dX5_init_122 : decode cX5_init 122 = .ok (.aload_n 0, 1) := by decide +kernel
theorem dX5_init_123 : decode cX5_init 123 = .ok (.iconst 2, 1) := by decide +kernel
theorem dX5_init_124 : decode cX5_init 124 = .ok (.newarray .int, 2) := by decide +kernel
theorem dX5_init_126 : decode cX5_init 126 = .ok (.putfield 63, 3) := by decide +kernel
theorem dX5_init_129 : decode cX5_init 129 = .ok (.aload_n 0, 1) := by decide +kernel
theorem dX5_init_130 : decode cX5_init 130 = .ok (.iconst 2, 1) := by decide +kernel
theorem dX5_init_131 : decode cX5_init 131 = .ok (.newarray .int, 2) := by decide +kernel
theorem dX5_init_133 : decode cX5_init 133 = .ok (.putfield 66, 3) := by decide +kernel
theorem dX5_init_136 : decode cX5_init 136 = .ok (.aload_n 0, 1) := by decide +kernel
theorem dX5_init_137 : decode cX5_init 137 = .ok (.sipush 27675, 3) := by decide +kernel
theorem dX5_init_140 : decode cX5_init 140 = .ok (.newarray .int, 2) := by decide +kernel
theorem dX5_init_142 : decode cX5_init 142 = .ok (.putfield 69, 3) := by decide +kernel
theorem dX5_init_145 : decode cX5_init 145 = .ok (.aload_n 0, 1) := by decide +kernel
theorem dX5_init_146 : decode cX5_init 146 = .ok (.sipush 9225, 3) := by decide +kernel
theorem dX5_init_149 : decode cX5_init 149 = .ok (.newarray .int, 2) := by decide +kernel
theorem dX5_init_151 : decode cX5_init 151 = .ok (.putfield 72, 3) := by decide +kernel
theorem dX5_init_154 : decode cX5_init 154 = .ok (.iconst 0, 1) := by decide +kernel
theorem dX5_init_155 : decode cX5_init 155 = .ok (.istore_n 1, 1) := by decide +kernel
theorem dX5_init_156 : decode cX5_init 156 = .ok (.iload_n 1, 1) := by decide +kernel
theorem dX5_init_157 : decode cX5_init 157 = .ok (.iconst 2, 1) := by decide +kernel
theorem dX5_init_158 : decode cX5_init 158 = .ok (.if_icmp .ge 46, 3) := by decide +kernel
theorem dX5_init_161 : decode cX5_init 161 = .ok (.aload_n 0, 1) := by decide +kernel
theorem dX5_init_162 : decode cX5_init 162 = .ok (.getfield 38, 3) := by decide +kernel
theorem dX5_init_165 : decode cX5_init 165 = .ok (.iload_n 1, 1) := by decide +kernel
theorem dX5_init_166 : decode cX5_init 166 = .ok (.iconst 3, 1) := by decide +kernel
theorem dX5_init_167 : decode cX5_init 167 = .ok (.iastore, 1) := by decide +kernel
theorem dX5_init_168 : decode cX5_init 168 = .ok (.aload_n 0, 1) := by decide +kernel
theorem dX5_init_169 : decode cX5_init 169 = .ok (.getfield 41, 3) := by decide +kernel
theorem dX5_init_172 : decode cX5_init 172 = .ok (.iload_n 1, 1) := by decide +kernel
theorem dX5_init_173 : decode cX5_init 173 = .ok (.bipush 10, 2) := by decide +kernel
theorem dX5_init_175 : decode cX5_init 175 = .ok (.iastore, 1) := by decide +kernel
theorem dX5_init_176 : decode cX5_init 176 = .ok (.aload_n 0, 1) := by decide +kernel
theorem dX5_init_177 : decode cX5_init 177 = .ok (.getfield 44, 3) := by decide +kernel
theorem dX5_init_180 : decode cX5_init 180 = .ok (.iload_n 1, 1) := by decide +kernel
theorem dX5_init_181 : decode cX5_init 181 = .ok (.iconst 2, 1) := by decide +kernel
theorem dX5_init_182 : decode cX5_init 182 = .ok (.iastore, 1) := by decide +kernel
theorem dX5_init_183 : decode cX5_init 183 = .ok (.aload_n 0, 1) := by decide +kernel
theorem dX5_init_184 : decode cX5_init 184 = .ok (.getfield 47, 3) := by decide +kernel
theorem dX5_init_187 : decode cX5_init 187 = .ok (.iload_n 1, 1) := by decide +kernel
theorem dX5_init_188 : decode cX5_init 188 = .ok (.bipush 10, 2) := by decide +kernel
theorem dX5_init_190 : decode cX5_init 190 = .ok (.iastore, 1) := by decide +kernel
theorem dX5_init_191 : decode cX5_init 191 = .ok (.aload_n 0, 1) := by decide +kernel
theorem dX5_init_192 : decode cX5_init 192 = .ok (.getfield 50, 3) := by decide +kernel
theorem dX5_init_195 : decode cX5_init 195 = .ok (.iload_n 1, 1) := by decide +kernel
theorem dX5_init_196 : decode cX5_init 196 = .ok (.iconst 5, 1) := by decide +kernel
theorem dX5_init_197 : decode cX5_init 197 = .ok (.iastore, 1) := by decide +kernel
theorem dX5_init_198 : decode cX5_init 198 = .ok (.iinc 1 1, 3) := by decide +kernel
theorem dX5_init_201 : decode cX5_init 201 = .ok (.goto (-45), 3) := by decide +kernel
theorem dX5_init_204 : decode cX5_init 204 = .ok (.aload_n 0, 1) := by decide +kernel
theorem dX5_init_205 : decode cX5_init 205 = .ok (.getfield 57, 3) := by decide +kernel
theorem dX5_init_208 : decode cX5_init 208 = .ok (.iconst 0, 1) := by decide +kernel
theorem dX5_init_209 : decode cX5_init 209 = .ok (.iconst 1, 1) := by decide +kernel
theorem dX5_init_210 : decode cX5_init 210 = .ok (.iastore, 1) := by decide +kernel
theorem dX5_init_211 : decode cX5_init 211 = .ok (.iconst 0, 1) := by decide +kernel
theorem dX5_init_212 : decode cX5_init 212 = .ok (.istore_n 1, 1) := by decide +kernel
theorem dX5_init_213 : decode cX5_init 213 = .ok (.iload_n 1, 1) := by decide +kernel
theorem dX5_init_214 : decode cX5_init 214 = .ok (.bipush 72, 2) := by decide +kernel
theorem dX5_init_216 : decode cX5_init 216 = .ok (.if_icmp .ge 17, 3) := by decide +kernel
theorem dX5_init_219 : decode cX5_init 219 = .ok (.aload_n 0, 1) := by decide +kernel
theorem dX5_init_220 : decode cX5_init 220 = .ok (.getfield 60, 3) := by decide +kernel
theorem dX5_init_223 : decode cX5_init 223 = .ok (.iload_n 1, 1) := by decide +kernel
theorem dX5_init_224 : decode cX5_init 224 = .ok (.bipush 10, 2) := by decide +kernel
theorem dX5_init_226 : decode cX5_init 226 = .ok (.iastore, 1) := by decide +kernel
theorem dX5_init_227 : decode cX5_init 227 = .ok (.iinc 1 1, 3) := by decide +kernel
theorem dX5_init_230 : decode cX5_init 230 = .ok (.goto (-17), 3) := by decide +kernel
theorem dX5_init_233 : decode cX5_init 233 = .ok (.return_, 1) := by decide +kernel
theorem dX5_thrown_0 : decode cX5_thrown 0 = .ok (.aload_n 0, 1) := by decide +kernel
theorem dX5_thrown_1 : decode cX5_thrown 1 = .ok (.getfield 75, 3) := by decide +kernel
theorem dX5_thrown_4 : decode cX5_thrown 4 = .ok (.ireturn, 1) := by decide +kernel
theorem dX5_within_0 : decode cX5_within 0 = .ok (.iload_n 0, 1) := by decide +kernel
theorem dX5_within_1 : decode cX5_within 1 = .ok (.iload_n 1, 1) := by decide +kernel
theorem dX5_within_2 : decode cX5_within 2 = .ok (.if_icmp .lt 12, 3) := by decide +kernel
theorem dX5_within_5 : decode cX5_within 5 = .ok (.iload_n 0, 1) := by decide +kernel
theorem dX5_within_6 : decode cX5_within 6 = .ok (.iload_n 2, 1) := by decide +kernel
theorem dX5_within_7 : decode cX5_within 7 = .ok (.if_icmp .gt 7, 3) := by decide +kernel
theorem dX5_within_10 : decode cX5_within 10 = .ok (.iconst 1, 1) := by decide +kernel
theorem dX5_within_11 : decode cX5_within 11 = .ok (.goto 4, 3) := by decide +kernel
theorem dX5_within_14 : decode cX5_within 14 = .ok (.iconst 0, 1) := by decide +kernel
theorem dX5_within_15 : decode cX5_within 15 = .ok (.ireturn, 1) := by decide +kernel
theorem dX5_lakes_0 : decode cX5_lakes 0 = .ok (.aload_n 0, 1) := by decide +kernel
theorem dX5_lakes_1 : decode cX5_lakes 1 = .ok (.iconst 0, 1) := by decide +kernel
theorem dX5_lakes_2 : decode cX5_lakes 2 = .ok (.putfield 75, 3) := by decide +kernel
theorem dX5_lakes_5 : decode cX5_lakes 5 = .ok (.aload_n 0, 1) := by decide +kernel
theorem dX5_lakes_6 : decode cX5_lakes 6 = .ok (.getfield 78, 3) := by decide +kernel
theorem dX5_lakes_9 : decode cX5_lakes 9 = .ok (.ifCond .gt 42, 3) := by decide +kernel
theorem dX5_lakes_12 : decode cX5_lakes 12 = .ok (.iload_n 1, 1) := by decide +kernel
theorem dX5_lakes_13 : decode cX5_lakes 13 = .ok (.iconst 1, 1) := by decide +kernel
theorem dX5_lakes_14 : decode cX5_lakes 14 = .ok (.bipush 40, 2) := by decide +kernel
theorem dX5_lakes_16 : decode cX5_lakes 16 = .ok (.invokestatic 81, 3) := by decide +kernel
theorem dX5_lakes_19 : decode cX5_lakes 19 = .ok (.ifCond .eq 32, 3) := by decide +kernel
theorem dX5_lakes_22 : decode cX5_lakes 22 = .ok (.iload_n 2, 1) := by decide +kernel
theorem dX5_lakes_23 : decode cX5_lakes 23 = .ok (.iconst 1, 1) := by decide +kernel
theorem dX5_lakes_24 : decode cX5_lakes 24 = .ok (.bipush 40, 2) := by decide +kernel
theorem dX5_lakes_26 : decode cX5_lakes 26 = .ok (.invokestatic 81, 3) := by decide +kernel
theorem dX5_lakes_29 : decode cX5_lakes 29 = .ok (.ifCond .eq 22, 3) := by decide +kernel
theorem dX5_lakes_32 : decode cX5_lakes 32 = .ok (.iload_n 3, 1) := by decide +kernel
theorem dX5_lakes_33 : decode cX5_lakes 33 = .ok (.iconst 0, 1) := by decide +kernel
theorem dX5_lakes_34 : decode cX5_lakes 34 = .ok (.iload_n 1, 1) := by decide +kernel
theorem dX5_lakes_35 : decode cX5_lakes 35 = .ok (.invokestatic 81, 3) := by decide +kernel
theorem dX5_lakes_38 : decode cX5_lakes 38 = .ok (.ifCond .eq 13, 3) := by decide +kernel
theorem dX5_lakes_41 : decode cX5_lakes 41 = .ok (.iload 4, 2) := by decide +kernel
theorem dX5_lakes_43 : decode cX5_lakes 43 = .ok (.iconst 0, 1) := by decide +kernel
theorem dX5_lakes_44 : decode cX5_lakes 44 = .ok (.iload_n 2, 1) := by decide +kernel
theorem dX5_lakes_45 : decode cX5_lakes 45 = .ok (.invokestatic 81, 3) := by decide +kernel
theorem dX5_lakes_48 : decode cX5_lakes 48 = .ok (.ifCond .ne 5, 3) := by decide +kernel
theorem dX5_lakes_51 : decode cX5_lakes 51 = .ok (.iconst 0, 1) := by decide +kernel
theorem dX5_lakes_52 : decode cX5_lakes 52 = .ok (.ireturn, 1) := by decide +kernel
theorem dX5_lakes_53 : decode cX5_lakes 53 = .ok (.aload_n 0, 1) := by decide +kernel
theorem dX5_lakes_54 : decode cX5_lakes 54 = .ok (.iload_n 1, 1) := by decide +kernel
theorem dX5_lakes_55 : decode cX5_lakes 55 = .ok (.putfield 7, 3) := by decide +kernel
theorem dX5_lakes_58 : decode cX5_lakes 58 = .ok (.aload_n 0, 1) := by decide +kernel
theorem dX5_lakes_59 : decode cX5_lakes 59 = .ok (.iload_n 2, 1) := by decide +kernel
theorem dX5_lakes_60 : decode cX5_lakes 60 = .ok (.putfield 13, 3) := by decide +kernel
theorem dX5_lakes_63 : decode cX5_lakes 63 = .ok (.aload_n 0, 1) := by decide +kernel
theorem dX5_lakes_64 : decode cX5_lakes 64 = .ok (.iload_n 3, 1) := by decide +kernel
theorem dX5_lakes_65 : decode cX5_lakes 65 = .ok (.putfield 16, 3) := by decide +kernel
theorem dX5_lakes_68 : decode cX5_lakes 68 = .ok (.aload_n 0, 1) := by decide +kernel
theorem dX5_lakes_69 : decode cX5_lakes 69 = .ok (.iload 4, 2) := by decide +kernel
theorem dX5_lakes_71 : decode cX5_lakes 71 = .ok (.putfield 19, 3) := by decide +kernel
theorem dX5_lakes_74 : decode cX5_lakes 74 = .ok (.iconst 1, 1) := by decide +kernel
theorem dX5_lakes_75 : decode cX5_lakes 75 = .ok (.ireturn, 1) := by decide +kernel
theorem dX5_speeds_0 : decode cX5_speeds 0 = .ok (.aload_n 0, 1) := by decide +kernel
theorem dX5_speeds_1 : decode cX5_speeds 1 = .ok (.iconst 0, 1) := by decide +kernel
theorem dX5_speeds_2 : decode cX5_speeds 2 = .ok (.putfield 75, 3) := by decide +kernel
theorem dX5_speeds_5 : decode cX5_speeds 5 = .ok (.iload_n 1, 1) := by decide +kernel
theorem dX5_speeds_6 : decode cX5_speeds 6 = .ok (.iconst 1, 1) := by decide +kernel
theorem dX5_speeds_7 : decode cX5_speeds 7 = .ok (.bipush 40, 2) := by decide +kernel
theorem dX5_speeds_9 : decode cX5_speeds 9 = .ok (.invokestatic 81, 3) := by decide +kernel
theorem dX5_speeds_12 : decode cX5_speeds 12 = .ok (.ifCond .eq 13, 3) := by decide +kernel
theorem dX5_speeds_15 : decode cX5_speeds 15 = .ok (.iload_n 2, 1) := by decide +kernel
theorem dX5_speeds_16 : decode cX5_speeds 16 = .ok (.iconst 1, 1) := by decide +kernel
theorem dX5_speeds_17 : decode cX5_speeds 17 = .ok (.bipush 40, 2) := by decide +kernel
theorem dX5_speeds_19 : decode cX5_speeds 19 = .ok (.invokestatic 81, 3) := by decide +kernel
theorem dX5_speeds_22 : decode cX5_speeds 22 = .ok (.ifCond .ne 5, 3) := by decide +kernel
theorem dX5_speeds_25 : decode cX5_speeds 25 = .ok (.iconst 0, 1) := by decide +kernel
theorem dX5_speeds_26 : decode cX5_speeds 26 = .ok (.ireturn, 1) := by decide +kernel
theorem dX5_speeds_27 : decode cX5_speeds 27 = .ok (.aload_n 0, 1) := by decide +kernel
theorem dX5_speeds_28 : decode cX5_speeds 28 = .ok (.iload_n 1, 1) := by decide +kernel
theorem dX5_speeds_29 : decode cX5_speeds 29 = .ok (.putfield 22, 3) := by decide +kernel
theorem dX5_speeds_32 : decode cX5_speeds 32 = .ok (.aload_n 0, 1) := by decide +kernel
theorem dX5_speeds_33 : decode cX5_speeds 33 = .ok (.iload_n 2, 1) := by decide +kernel
theorem dX5_speeds_34 : decode cX5_speeds 34 = .ok (.putfield 25, 3) := by decide +kernel
theorem dX5_speeds_37 : decode cX5_speeds 37 = .ok (.iconst 1, 1) := by decide +kernel
theorem dX5_speeds_38 : decode cX5_speeds 38 = .ok (.ireturn, 1) := by decide +kernel
theorem dX5_isHour_0 : decode cX5_isHour 0 = .ok (.iload_n 0, 1) := by decide +kernel
theorem dX5_isHour_1 : decode cX5_isHour 1 = .ok (.iconst 0, 1) := by decide +kernel
theorem dX5_isHour_2 : decode cX5_isHour 2 = .ok (.bipush 23, 2) := by decide +kernel
theorem dX5_isHour_4 : decode cX5_isHour 4 = .ok (.invokestatic 81, 3) := by decide +kernel
theorem dX5_isHour_7 : decode cX5_isHour 7 = .ok (.ireturn, 1) := by decide +kernel
theorem dX5_flows_0 : decode cX5_flows 0 = .ok (.aload_n 0, 1) := by decide +kernel
theorem dX5_flows_1 : decode cX5_flows 1 = .ok (.iconst 0, 1) := by decide +kernel
theorem dX5_flows_2 : decode cX5_flows 2 = .ok (.putfield 75, 3) := by decide +kernel
theorem dX5_flows_5 : decode cX5_flows 5 = .ok (.iload_n 1, 1) := by decide +kernel
theorem dX5_flows_6 : decode cX5_flows 6 = .ok (.invokestatic 85, 3) := by decide +kernel
theorem dX5_flows_9 : decode cX5_flows 9 = .ok (.ifCond .eq 23, 3) := by decide +kernel
theorem dX5_flows_12 : decode cX5_flows 12 = .ok (.iload_n 2, 1) := by decide +kernel
theorem dX5_flows_13 : decode cX5_flows 13 = .ok (.iconst 0, 1) := by decide +kernel
theorem dX5_flows_14 : decode cX5_flows 14 = .ok (.bipush 9, 2) := by decide +kernel
theorem dX5_flows_16 : decode cX5_flows 16 = .ok (.invokestatic 81, 3) := by decide +kernel
theorem dX5_flows_19 : decode cX5_flows 19 = .ok (.ifCond .eq 13, 3) := by decide +kernel
theorem dX5_flows_22 : decode cX5_flows 22 = .ok (.iload_n 3, 1) := by decide +kernel
theorem dX5_flows_23 : decode cX5_flows 23 = .ok (.iconst 0, 1) := by decide +kernel
theorem dX5_flows_24 : decode cX5_flows 24 = .ok (.bipush 9, 2) := by decide +kernel
theorem dX5_flows_26 : decode cX5_flows 26 = .ok (.invokestatic 81, 3) := by decide +kernel
theorem dX5_flows_29 : decode cX5_flows 29 = .ok (.ifCond .ne 5, 3) := by decide +kernel
theorem dX5_flows_32 : decode cX5_flows 32 = .ok (.iconst 0, 1) := by decide +kernel
theorem dX5_flows_33 : decode cX5_flows 33 = .ok (.ireturn, 1) := by decide +kernel
theorem dX5_flows_34 : decode cX5_flows 34 = .ok (.aload_n 0, 1) := by decide +kernel
theorem dX5_flows_35 : decode cX5_flows 35 = .ok (.getfield 28, 3) := by decide +kernel
theorem dX5_flows_38 : decode cX5_flows 38 = .ok (.iload_n 1, 1) := by decide +kernel
theorem dX5_flows_39 : decode cX5_flows 39 = .ok (.iload_n 2, 1) := by decide +kernel
theorem dX5_flows_40 : decode cX5_flows 40 = .ok (.iastore, 1) := by decide +kernel
theorem dX5_flows_41 : decode cX5_flows 41 = .ok (.aload_n 0, 1) := by decide +kernel
theorem dX5_flows_42 : decode cX5_flows 42 = .ok (.getfield 32, 3) := by decide +kernel
theorem dX5_flows_45 : decode cX5_flows 45 = .ok (.iload_n 1, 1) := by decide +kernel
theorem dX5_flows_46 : decode cX5_flows 46 = .ok (.iload_n 3, 1) := by decide +kernel
theorem dX5_flows_47 : decode cX5_flows 47 = .ok (.iastore, 1) := by decide +kernel
theorem dX5_flows_48 : decode cX5_flows 48 = .ok (.iconst 1, 1) := by decide +kernel
theorem dX5_flows_49 : decode cX5_flows 49 = .ok (.ireturn, 1) := by decide +kernel
theorem dX5_machine_0 : decode cX5_machine 0 = .ok (.aload_n 0, 1) := by decide +kernel
theorem dX5_machine_1 : decode cX5_machine 1 = .ok (.iconst 0, 1) := by decide +kernel
theorem dX5_machine_2 : decode cX5_machine 2 = .ok (.putfield 75, 3) := by decide +kernel
theorem dX5_machine_5 : decode cX5_machine 5 = .ok (.iload_n 1, 1) := by decide +kernel
theorem dX5_machine_6 : decode cX5_machine 6 = .ok (.iconst 0, 1) := by decide +kernel
theorem dX5_machine_7 : decode cX5_machine 7 = .ok (.iconst 1, 1) := by decide +kernel
theorem dX5_machine_8 : decode cX5_machine 8 = .ok (.invokestatic 81, 3) := by decide +kernel
theorem dX5_machine_11 : decode cX5_machine 11 = .ok (.ifCond .eq 56, 3) := by decide +kernel
theorem dX5_machine_14 : decode cX5_machine 14 = .ok (.iload_n 2, 1) := by decide +kernel
theorem dX5_machine_15 : decode cX5_machine 15 = .ok (.iconst 0, 1) := by decide +kernel
theorem dX5_machine_16 : decode cX5_machine 16 = .ok (.bipush 99, 2) := by decide +kernel
theorem dX5_machine_18 : decode cX5_machine 18 = .ok (.invokestatic 81, 3) := by decide +kernel
theorem dX5_machine_21 : decode cX5_machine 21 = .ok (.ifCond .eq 46, 3) := by decide +kernel
theorem dX5_machine_24 : decode cX5_machine 24 = .ok (.iload_n 3, 1) := by decide +kernel
theorem dX5_machine_25 : decode cX5_machine 25 = .ok (.iconst 0, 1) := by decide +kernel
theorem dX5_machine_26 : decode cX5_machine 26 = .ok (.bipush 99, 2) := by decide +kernel
theorem dX5_machine_28 : decode cX5_machine 28 = .ok (.invokestatic 81, 3) := by decide +kernel
theorem dX5_machine_31 : decode cX5_machine 31 = .ok (.ifCond .eq 36, 3) := by decide +kernel
theorem dX5_machine_34 : decode cX5_machine 34 = .ok (.iload 4, 2) := by decide +kernel
theorem dX5_machine_36 : decode cX5_machine 36 = .ok (.iconst 0, 1) := by decide +kernel
theorem dX5_machine_37 : decode cX5_machine 37 = .ok (.bipush 99, 2) := by decide +kernel
theorem dX5_machine_39 : decode cX5_machine 39 = .ok (.invokestatic 81, 3) := by decide +kernel
theorem dX5_machine_42 : decode cX5_machine 42 = .ok (.ifCond .eq 25, 3) := by decide +kernel
theorem dX5_machine_45 : decode cX5_machine 45 = .ok (.iload 5, 2) := by decide +kernel
theorem dX5_machine_47 : decode cX5_machine 47 = .ok (.iconst 0, 1) := by decide +kernel
theorem dX5_machine_48 : decode cX5_machine 48 = .ok (.bipush 99, 2) := by decide +kernel
theorem dX5_machine_50 : decode cX5_machine 50 = .ok (.invokestatic 81, 3) := by decide +kernel
theorem dX5_machine_53 : decode cX5_machine 53 = .ok (.ifCond .eq 14, 3) := by decide +kernel
theorem dX5_machine_56 : decode cX5_machine 56 = .ok (.iload 6, 2) := by decide +kernel
theorem dX5_machine_58 : decode cX5_machine 58 = .ok (.iconst 0, 1) := by decide +kernel
theorem dX5_machine_59 : decode cX5_machine 59 = .ok (.bipush 99, 2) := by decide +kernel
theorem dX5_machine_61 : decode cX5_machine 61 = .ok (.invokestatic 81, 3) := by decide +kernel
theorem dX5_machine_64 : decode cX5_machine 64 = .ok (.ifCond .ne 5, 3) := by decide +kernel
theorem dX5_machine_67 : decode cX5_machine 67 = .ok (.iconst 0, 1) := by decide +kernel
theorem dX5_machine_68 : decode cX5_machine 68 = .ok (.ireturn, 1) := by decide +kernel
theorem dX5_machine_69 : decode cX5_machine 69 = .ok (.aload_n 0, 1) := by decide +kernel
theorem dX5_machine_70 : decode cX5_machine 70 = .ok (.getfield 38, 3) := by decide +kernel
theorem dX5_machine_73 : decode cX5_machine 73 = .ok (.iload_n 1, 1) := by decide +kernel
theorem dX5_machine_74 : decode cX5_machine 74 = .ok (.iload_n 2, 1) := by decide +kernel
theorem dX5_machine_75 : decode cX5_machine 75 = .ok (.iastore, 1) := by decide +kernel
theorem dX5_machine_76 : decode cX5_machine 76 = .ok (.aload_n 0, 1) := by decide +kernel
theorem dX5_machine_77 : decode cX5_machine 77 = .ok (.getfield 41, 3) := by decide +kernel
theorem dX5_machine_80 : decode cX5_machine 80 = .ok (.iload_n 1, 1) := by decide +kernel
theorem dX5_machine_81 : decode cX5_machine 81 = .ok (.iload_n 3, 1) := by decide +kernel
theorem dX5_machine_82 : decode cX5_machine 82 = .ok (.iastore, 1) := by decide +kernel
theorem dX5_machine_83 : decode cX5_machine 83 = .ok (.aload_n 0, 1) := by decide +kernel
theorem dX5_machine_84 : decode cX5_machine 84 = .ok (.getfield 44, 3) := by decide +kernel
theorem dX5_machine_87 : decode cX5_machine 87 = .ok (.iload_n 1, 1) := by decide +kernel
theorem dX5_machine_88 : decode cX5_machine 88 = .ok (.iload 4, 2) := by decide +kernel
theorem dX5_machine_90 : decode cX5_machine 90 = .ok (.iastore, 1) := by decide +kernel
theorem dX5_machine_91 : decode cX5_machine 91 = .ok (.aload_n 0, 1) := by decide +kernel
theorem dX5_machine_92 : decode cX5_machine 92 = .ok (.getfield 47, 3) := by decide +kernel
theorem dX5_machine_95 : decode cX5_machine 95 = .ok (.iload_n 1, 1) := by decide +kernel
theorem dX5_machine_96 : decode cX5_machine 96 = .ok (.iload 5, 2) := by decide +kernel
theorem dX5_machine_98 : decode cX5_machine 98 = .ok (.iastore, 1) := by decide +kernel
theorem dX5_machine_99 : decode cX5_machine 99 = .ok (.aload_n 0, 1) := by decide +kernel
theorem dX5_machine_100 : decode cX5_machine 100 = .ok (.getfield 50, 3) := by decide +kernel
theorem dX5_machine_103 : decode cX5_machine 103 = .ok (.iload_n 1, 1) := by decide +kernel
theorem dX5_machine_104 : decode cX5_machine 104 = .ok (.iload 6, 2) := by decide +kernel
theorem dX5_machine_106 : decode cX5_machine 106 = .ok (.iastore, 1) := by decide +kernel
theorem dX5_machine_107 : decode cX5_machine 107 = .ok (.iconst 1, 1) := by decide +kernel
theorem dX5_machine_108 : decode cX5_machine 108 = .ok (.ireturn, 1) := by decide +kernel
theorem dX5_out_0 : decode cX5_out 0 = .ok (.aload_n 0, 1) := by decide +kernel
theorem dX5_out_1 : decode cX5_out 1 = .ok (.iconst 0, 1) := by decide +kernel
theorem dX5_out_2 : decode cX5_out 2 = .ok (.putfield 75, 3) := by decide +kernel
theorem dX5_out_5 : decode cX5_out 5 = .ok (.iload_n 1, 1) := by decide +kernel
theorem dX5_out_6 : decode cX5_out 6 = .ok (.iconst 0, 1) := by decide +kernel
theorem dX5_out_7 : decode cX5_out 7 = .ok (.iconst 1, 1) := by decide +kernel
theorem dX5_out_8 : decode cX5_out 8 = .ok (.invokestatic 81, 3) := by decide +kernel
theorem dX5_out_11 : decode cX5_out 11 = .ok (.ifCond .eq 22, 3) := by decide +kernel
theorem dX5_out_14 : decode cX5_out 14 = .ok (.iload_n 2, 1) := by decide +kernel
theorem dX5_out_15 : decode cX5_out 15 = .ok (.invokestatic 85, 3) := by decide +kernel
theorem dX5_out_18 : decode cX5_out 18 = .ok (.ifCond .eq 15, 3) := by decide +kernel
theorem dX5_out_21 : decode cX5_out 21 = .ok (.iload_n 3, 1) := by decide +kernel
theorem dX5_out_22 : decode cX5_out 22 = .ok (.invokestatic 85, 3) := by decide +kernel
theorem dX5_out_25 : decode cX5_out 25 = .ok (.ifCond .eq 8, 3) := by decide +kernel
theorem dX5_out_28 : decode cX5_out 28 = .ok (.iload_n 2, 1) := by decide +kernel
theorem dX5_out_29 : decode cX5_out 29 = .ok (.iload_n 3, 1) := by decide +kernel
theorem dX5_out_30 : decode cX5_out 30 = .ok (.if_icmp .le 5, 3) := by decide +kernel
theorem dX5_out_33 : decode cX5_out 33 = .ok (.iconst 0, 1) := by decide +kernel
theorem dX5_out_34 : decode cX5_out 34 = .ok (.ireturn, 1) := by decide +kernel
theorem dX5_out_35 : decode cX5_out 35 = .ok (.iload_n 2, 1) := by decide +kernel
theorem dX5_out_36 : decode cX5_out 36 = .ok (.istore 5, 2) := by decide +kernel
theorem dX5_out_38 : decode cX5_out 38 = .ok (.iload 5, 2) := by decide +kernel
theorem dX5_out_40 : decode cX5_out 40 = .ok (.iload_n 3, 1) := by decide +kernel
theorem dX5_out_41 : decode cX5_out 41 = .ok (.if_icmp .gt 23, 3) := by decide +kernel
theorem dX5_out_44 : decode cX5_out 44 = .ok (.aload_n 0, 1) := by decide +kernel
theorem dX5_out_45 : decode cX5_out 45 = .ok (.getfield 53, 3) := by decide +kernel
theorem dX5_out_48 : decode cX5_out 48 = .ok (.bipush 24, 2) := by decide +kernel
theorem dX5_out_50 : decode cX5_out 50 = .ok (.iload_n 1, 1) := by decide +kernel
theorem dX5_out_51 : decode cX5_out 51 = .ok (.imul, 1) := by decide +kernel
theorem dX5_out_52 : decode cX5_out 52 = .ok (.iload 5, 2) := by decide +kernel
theorem dX5_out_54 : decode cX5_out 54 = .ok (.iadd, 1) := by decide +kernel
theorem dX5_out_55 : decode cX5_out 55 = .ok (.iload 4, 2) := by decide +kernel
theorem dX5_out_57 : decode cX5_out 57 = .ok (.bastore, 1) := by decide +kernel
theorem dX5_out_58 : decode cX5_out 58 = .ok (.iinc 5 1, 3) := by decide +kernel
theorem dX5_out_61 : decode cX5_out 61 = .ok (.goto (-23), 3) := by decide +kernel
theorem dX5_out_64 : decode cX5_out 64 = .ok (.iconst 1, 1) := by decide +kernel
theorem dX5_out_65 : decode cX5_out 65 = .ok (.ireturn, 1) := by decide +kernel
theorem dX5_reserve_0 : decode cX5_reserve 0 = .ok (.aload_n 0, 1) := by decide +kernel
theorem dX5_reserve_1 : decode cX5_reserve 1 = .ok (.iconst 0, 1) := by decide +kernel
theorem dX5_reserve_2 : decode cX5_reserve 2 = .ok (.putfield 75, 3) := by decide +kernel
theorem dX5_reserve_5 : decode cX5_reserve 5 = .ok (.iload_n 1, 1) := by decide +kernel
theorem dX5_reserve_6 : decode cX5_reserve 6 = .ok (.invokestatic 85, 3) := by decide +kernel
theorem dX5_reserve_9 : decode cX5_reserve 9 = .ok (.ifCond .eq 13, 3) := by decide +kernel
theorem dX5_reserve_12 : decode cX5_reserve 12 = .ok (.iload_n 2, 1) := by decide +kernel
theorem dX5_reserve_13 : decode cX5_reserve 13 = .ok (.iconst 0, 1) := by decide +kernel
theorem dX5_reserve_14 : decode cX5_reserve 14 = .ok (.bipush 99, 2) := by decide +kernel
theorem dX5_reserve_16 : decode cX5_reserve 16 = .ok (.invokestatic 81, 3) := by decide +kernel
theorem dX5_reserve_19 : decode cX5_reserve 19 = .ok (.ifCond .ne 5, 3) := by decide +kernel
theorem dX5_reserve_22 : decode cX5_reserve 22 = .ok (.iconst 0, 1) := by decide +kernel
theorem dX5_reserve_23 : decode cX5_reserve 23 = .ok (.ireturn, 1) := by decide +kernel
theorem dX5_reserve_24 : decode cX5_reserve 24 = .ok (.aload_n 0, 1) := by decide +kernel
theorem dX5_reserve_25 : decode cX5_reserve 25 = .ok (.getfield 35, 3) := by decide +kernel
theorem dX5_reserve_28 : decode cX5_reserve 28 = .ok (.iload_n 1, 1) := by decide +kernel
theorem dX5_reserve_29 : decode cX5_reserve 29 = .ok (.iload_n 2, 1) := by decide +kernel
theorem dX5_reserve_30 : decode cX5_reserve 30 = .ok (.iastore, 1) := by decide +kernel
theorem dX5_reserve_31 : decode cX5_reserve 31 = .ok (.iconst 1, 1) := by decide +kernel
theorem dX5_reserve_32 : decode cX5_reserve 32 = .ok (.ireturn, 1) := by decide +kernel
theorem dX5_weights_0 : decode cX5_weights 0 = .ok (.aload_n 0, 1) := by decide +kernel
theorem dX5_weights_1 : decode cX5_weights 1 = .ok (.iconst 0, 1) := by decide +kernel
theorem dX5_weights_2 : decode cX5_weights 2 = .ok (.putfield 75, 3) := by decide +kernel
theorem dX5_weights_5 : decode cX5_weights 5 = .ok (.iload_n 1, 1) := by decide +kernel
theorem dX5_weights_6 : decode cX5_weights 6 = .ok (.iconst 0, 1) := by decide +kernel
theorem dX5_weights_7 : decode cX5_weights 7 = .ok (.bipush 9, 2) := by decide +kernel
theorem dX5_weights_9 : decode cX5_weights 9 = .ok (.invokestatic 81, 3) := by decide +kernel
theorem dX5_weights_12 : decode cX5_weights 12 = .ok (.ifCond .eq 31, 3) := by decide +kernel
theorem dX5_weights_15 : decode cX5_weights 15 = .ok (.iload_n 2, 1) := by decide +kernel
theorem dX5_weights_16 : decode cX5_weights 16 = .ok (.iconst 0, 1) := by decide +kernel
theorem dX5_weights_17 : decode cX5_weights 17 = .ok (.bipush 9, 2) := by decide +kernel
theorem dX5_weights_19 : decode cX5_weights 19 = .ok (.invokestatic 81, 3) := by decide +kernel
theorem dX5_weights_22 : decode cX5_weights 22 = .ok (.ifCond .eq 21, 3) := by decide +kernel
theorem dX5_weights_25 : decode cX5_weights 25 = .ok (.iload_n 3, 1) := by decide +kernel
theorem dX5_weights_26 : decode cX5_weights 26 = .ok (.iconst 0, 1) := by decide +kernel
theorem dX5_weights_27 : decode cX5_weights 27 = .ok (.bipush 9, 2) := by decide +kernel
theorem dX5_weights_29 : decode cX5_weights 29 = .ok (.invokestatic 81, 3) := by decide +kernel
theorem dX5_weights_32 : decode cX5_weights 32 = .ok (.ifCond .eq 11, 3) := by decide +kernel
theorem dX5_weights_35 : decode cX5_weights 35 = .ok (.iload_n 1, 1) := by decide +kernel
theorem dX5_weights_36 : decode cX5_weights 36 = .ok (.iload_n 2, 1) := by decide +kernel
theorem dX5_weights_37 : decode cX5_weights 37 = .ok (.iadd, 1) := by decide +kernel
theorem dX5_weights_38 : decode cX5_weights 38 = .ok (.iload_n 3, 1) := by decide +kernel
theorem dX5_weights_39 : decode cX5_weights 39 = .ok (.iadd, 1) := by decide +kernel
theorem dX5_weights_40 : decode cX5_weights 40 = .ok (.ifCond .ne 5, 3) := by decide +kernel
theorem dX5_weights_43 : decode cX5_weights 43 = .ok (.iconst 0, 1) := by decide +kernel
theorem dX5_weights_44 : decode cX5_weights 44 = .ok (.ireturn, 1) := by decide +kernel
theorem dX5_weights_45 : decode cX5_weights 45 = .ok (.aload_n 0, 1) := by decide +kernel
theorem dX5_weights_46 : decode cX5_weights 46 = .ok (.getfield 57, 3) := by decide +kernel
theorem dX5_weights_49 : decode cX5_weights 49 = .ok (.iconst 0, 1) := by decide +kernel
theorem dX5_weights_50 : decode cX5_weights 50 = .ok (.iload_n 1, 1) := by decide +kernel
theorem dX5_weights_51 : decode cX5_weights 51 = .ok (.iastore, 1) := by decide +kernel
theorem dX5_weights_52 : decode cX5_weights 52 = .ok (.aload_n 0, 1) := by decide +kernel
theorem dX5_weights_53 : decode cX5_weights 53 = .ok (.getfield 57, 3) := by decide +kernel
theorem dX5_weights_56 : decode cX5_weights 56 = .ok (.iconst 1, 1) := by decide +kernel
theorem dX5_weights_57 : decode cX5_weights 57 = .ok (.iload_n 2, 1) := by decide +kernel
theorem dX5_weights_58 : decode cX5_weights 58 = .ok (.iastore, 1) := by decide +kernel
theorem dX5_weights_59 : decode cX5_weights 59 = .ok (.aload_n 0, 1) := by decide +kernel
theorem dX5_weights_60 : decode cX5_weights 60 = .ok (.getfield 57, 3) := by decide +kernel
theorem dX5_weights_63 : decode cX5_weights 63 = .ok (.iconst 2, 1) := by decide +kernel
theorem dX5_weights_64 : decode cX5_weights 64 = .ok (.iload_n 3, 1) := by decide +kernel
theorem dX5_weights_65 : decode cX5_weights 65 = .ok (.iastore, 1) := by decide +kernel
theorem dX5_weights_66 : decode cX5_weights 66 = .ok (.iconst 1, 1) := by decide +kernel
theorem dX5_weights_67 : decode cX5_weights 67 = .ok (.ireturn, 1) := by decide +kernel
theorem dX5_isWorld_0 : decode cX5_isWorld 0 = .ok (.iload_n 0, 1) := by decide +kernel
theorem dX5_isWorld_1 : decode cX5_isWorld 1 = .ok (.iconst 0, 1) := by decide +kernel
theorem dX5_isWorld_2 : decode cX5_isWorld 2 = .ok (.iconst 2, 1) := by decide +kernel
theorem dX5_isWorld_3 : decode cX5_isWorld 3 = .ok (.invokestatic 81, 3) := by decide +kernel
theorem dX5_isWorld_6 : decode cX5_isWorld 6 = .ok (.ireturn, 1) := by decide +kernel
theorem dX5_price_0 : decode cX5_price 0 = .ok (.aload_n 0, 1) := by decide +kernel
theorem dX5_price_1 : decode cX5_price 1 = .ok (.iconst 0, 1) := by decide +kernel
theorem dX5_price_2 : decode cX5_price 2 = .ok (.putfield 75, 3) := by decide +kernel
theorem dX5_price_5 : decode cX5_price 5 = .ok (.iload_n 1, 1) := by decide +kernel
theorem dX5_price_6 : decode cX5_price 6 = .ok (.invokestatic 89, 3) := by decide +kernel
theorem dX5_price_9 : decode cX5_price 9 = .ok (.ifCond .eq 22, 3) := by decide +kernel
theorem dX5_price_12 : decode cX5_price 12 = .ok (.iload_n 2, 1) := by decide +kernel
theorem dX5_price_13 : decode cX5_price 13 = .ok (.invokestatic 85, 3) := by decide +kernel
theorem dX5_price_16 : decode cX5_price 16 = .ok (.ifCond .eq 15, 3) := by decide +kernel
theorem dX5_price_19 : decode cX5_price 19 = .ok (.iload_n 3, 1) := by decide +kernel
theorem dX5_price_20 : decode cX5_price 20 = .ok (.bipush (-99), 2) := by decide +kernel
theorem dX5_price_22 : decode cX5_price 22 = .ok (.sipush 999, 3) := by decide +kernel
theorem dX5_price_25 : decode cX5_price 25 = .ok (.invokestatic 81, 3) := by decide +kernel
theorem dX5_price_28 : decode cX5_price 28 = .ok (.ifCond .ne 5, 3) := by decide +kernel
theorem dX5_price_31 : decode cX5_price 31 = .ok (.iconst 0, 1) := by decide +kernel
theorem dX5_price_32 : decode cX5_price 32 = .ok (.ireturn, 1) := by decide +kernel
theorem dX5_price_33 : decode cX5_price 33 = .ok (.aload_n 0, 1) := by decide +kernel
theorem dX5_price_34 : decode cX5_price 34 = .ok (.getfield 60, 3) := by decide +kernel
theorem dX5_price_37 : decode cX5_price 37 = .ok (.bipush 24, 2) := by decide +kernel
theorem dX5_price_39 : decode cX5_price 39 = .ok (.iload_n 1, 1) := by decide +kernel
theorem dX5_price_40 : decode cX5_price 40 = .ok (.imul, 1) := by decide +kernel
theorem dX5_price_41 : decode cX5_price 41 = .ok (.iload_n 2, 1) := by decide +kernel
theorem dX5_price_42 : decode cX5_price 42 = .ok (.iadd, 1) := by decide +kernel
theorem dX5_price_43 : decode cX5_price 43 = .ok (.iload_n 3, 1) := by decide +kernel
theorem dX5_price_44 : decode cX5_price 44 = .ok (.iastore, 1) := by decide +kernel
theorem dX5_price_45 : decode cX5_price 45 = .ok (.iconst 1, 1) := by decide +kernel
theorem dX5_price_46 : decode cX5_price 46 = .ok (.ireturn, 1) := by decide +kernel
theorem dX5_reveal_0 : decode cX5_reveal 0 = .ok (.aload_n 0, 1) := by decide +kernel
theorem dX5_reveal_1 : decode cX5_reveal 1 = .ok (.iconst 0, 1) := by decide +kernel
theorem dX5_reveal_2 : decode cX5_reveal 2 = .ok (.putfield 75, 3) := by decide +kernel
theorem dX5_reveal_5 : decode cX5_reveal 5 = .ok (.iload_n 1, 1) := by decide +kernel
theorem dX5_reveal_6 : decode cX5_reveal 6 = .ok (.iconst 0, 1) := by decide +kernel
theorem dX5_reveal_7 : decode cX5_reveal 7 = .ok (.bipush 24, 2) := by decide +kernel
theorem dX5_reveal_9 : decode cX5_reveal 9 = .ok (.invokestatic 81, 3) := by decide +kernel
theorem dX5_reveal_12 : decode cX5_reveal 12 = .ok (.ifCond .ne 5, 3) := by decide +kernel
theorem dX5_reveal_15 : decode cX5_reveal 15 = .ok (.iconst 0, 1) := by decide +kernel
theorem dX5_reveal_16 : decode cX5_reveal 16 = .ok (.ireturn, 1) := by decide +kernel
theorem dX5_reveal_17 : decode cX5_reveal 17 = .ok (.aload_n 0, 1) := by decide +kernel
theorem dX5_reveal_18 : decode cX5_reveal 18 = .ok (.iload_n 1, 1) := by decide +kernel
theorem dX5_reveal_19 : decode cX5_reveal 19 = .ok (.putfield 92, 3) := by decide +kernel
theorem dX5_reveal_22 : decode cX5_reveal 22 = .ok (.iconst 1, 1) := by decide +kernel
theorem dX5_reveal_23 : decode cX5_reveal 23 = .ok (.ireturn, 1) := by decide +kernel
theorem dX5_end_0 : decode cX5_end 0 = .ok (.aload_n 0, 1) := by decide +kernel
theorem dX5_end_1 : decode cX5_end 1 = .ok (.iconst 0, 1) := by decide +kernel
theorem dX5_end_2 : decode cX5_end 2 = .ok (.putfield 75, 3) := by decide +kernel
theorem dX5_end_5 : decode cX5_end 5 = .ok (.iload_n 1, 1) := by decide +kernel
theorem dX5_end_6 : decode cX5_end 6 = .ok (.iconst 0, 1) := by decide +kernel
theorem dX5_end_7 : decode cX5_end 7 = .ok (.sipush 999, 3) := by decide +kernel
theorem dX5_end_10 : decode cX5_end 10 = .ok (.invokestatic 81, 3) := by decide +kernel
theorem dX5_end_13 : decode cX5_end 13 = .ok (.ifCond .ne 5, 3) := by decide +kernel
theorem dX5_end_16 : decode cX5_end 16 = .ok (.iconst 0, 1) := by decide +kernel
theorem dX5_end_17 : decode cX5_end 17 = .ok (.ireturn, 1) := by decide +kernel
theorem dX5_end_18 : decode cX5_end 18 = .ok (.aload_n 0, 1) := by decide +kernel
theorem dX5_end_19 : decode cX5_end 19 = .ok (.iload_n 1, 1) := by decide +kernel
theorem dX5_end_20 : decode cX5_end 20 = .ok (.putfield 95, 3) := by decide +kernel
theorem dX5_end_23 : decode cX5_end 23 = .ok (.iconst 1, 1) := by decide +kernel
theorem dX5_end_24 : decode cX5_end 24 = .ok (.ireturn, 1) := by decide +kernel
theorem dX5_loses_0 : decode cX5_loses 0 = .ok (.iload_n 1, 1) := by decide +kernel
theorem dX5_loses_1 : decode cX5_loses 1 = .ok (.iconst 1, 1) := by decide +kernel
theorem dX5_loses_2 : decode cX5_loses 2 = .ok (.if_icmp .ne 12, 3) := by decide +kernel
theorem dX5_loses_5 : decode cX5_loses 5 = .ok (.aload_n 0, 1) := by decide +kernel
theorem dX5_loses_6 : decode cX5_loses 6 = .ok (.getfield 38, 3) := by decide +kernel
theorem dX5_loses_9 : decode cX5_loses 9 = .ok (.iconst 0, 1) := by decide +kernel
theorem dX5_loses_10 : decode cX5_loses 10 = .ok (.iaload, 1) := by decide +kernel
theorem dX5_loses_11 : decode cX5_loses 11 = .ok (.goto 19, 3) := by decide +kernel
theorem dX5_loses_14 : decode cX5_loses 14 = .ok (.iload_n 1, 1) := by decide +kernel
theorem dX5_loses_15 : decode cX5_loses 15 = .ok (.iconst 2, 1) := by decide +kernel
theorem dX5_loses_16 : decode cX5_loses 16 = .ok (.if_icmp .ne 13, 3) := by decide +kernel
theorem dX5_loses_19 : decode cX5_loses 19 = .ok (.aload_n 0, 1) := by decide +kernel
theorem dX5_loses_20 : decode cX5_loses 20 = .ok (.getfield 44, 3) := by decide +kernel
theorem dX5_loses_23 : decode cX5_loses 23 = .ok (.iconst 0, 1) := by decide +kernel
theorem dX5_loses_24 : decode cX5_loses 24 = .ok (.iaload, 1) := by decide +kernel
theorem dX5_loses_25 : decode cX5_loses 25 = .ok (.ineg, 1) := by decide +kernel
theorem dX5_loses_26 : decode cX5_loses 26 = .ok (.goto 4, 3) := by decide +kernel
theorem dX5_loses_29 : decode cX5_loses 29 = .ok (.iconst 0, 1) := by decide +kernel
theorem dX5_loses_30 : decode cX5_loses 30 = .ok (.istore_n 3, 1) := by decide +kernel
theorem dX5_loses_31 : decode cX5_loses 31 = .ok (.iload_n 3, 1) := by decide +kernel
theorem dX5_loses_32 : decode cX5_loses 32 = .ok (.iload_n 2, 1) := by decide +kernel
theorem dX5_loses_33 : decode cX5_loses 33 = .ok (.iconst 1, 1) := by decide +kernel
theorem dX5_loses_34 : decode cX5_loses 34 = .ok (.if_icmp .ne 12, 3) := by decide +kernel
theorem dX5_loses_37 : decode cX5_loses 37 = .ok (.aload_n 0, 1) := by decide +kernel
theorem dX5_loses_38 : decode cX5_loses 38 = .ok (.getfield 38, 3) := by decide +kernel
theorem dX5_loses_41 : decode cX5_loses 41 = .ok (.iconst 1, 1) := by decide +kernel
theorem dX5_loses_42 : decode cX5_loses 42 = .ok (.iaload, 1) := by decide +kernel
theorem dX5_loses_43 : decode cX5_loses 43 = .ok (.goto 19, 3) := by decide +kernel
theorem dX5_loses_46 : decode cX5_loses 46 = .ok (.iload_n 2, 1) := by decide +kernel
theorem dX5_loses_47 : decode cX5_loses 47 = .ok (.iconst 2, 1) := by decide +kernel
theorem dX5_loses_48 : decode cX5_loses 48 = .ok (.if_icmp .ne 13, 3) := by decide +kernel
theorem dX5_loses_51 : decode cX5_loses 51 = .ok (.aload_n 0, 1) := by decide +kernel
theorem dX5_loses_52 : decode cX5_loses 52 = .ok (.getfield 44, 3) := by decide +kernel
theorem dX5_loses_55 : decode cX5_loses 55 = .ok (.iconst 1, 1) := by decide +kernel
theorem dX5_loses_56 : decode cX5_loses 56 = .ok (.iaload, 1) := by decide +kernel
theorem dX5_loses_57 : decode cX5_loses 57 = .ok (.ineg, 1) := by decide +kernel
theorem dX5_loses_58 : decode cX5_loses 58 = .ok (.goto 4, 3) := by decide +kernel
theorem dX5_loses_61 : decode cX5_loses 61 = .ok (.iconst 0, 1) := by decide +kernel
theorem dX5_loses_62 : decode cX5_loses 62 = .ok (.iadd, 1) := by decide +kernel
theorem dX5_loses_63 : decode cX5_loses 63 = .ok (.ireturn, 1) := by decide +kernel
theorem dX5_mayGo_0 : decode cX5_mayGo 0 = .ok (.iload 4, 2) := by decide +kernel
theorem dX5_mayGo_2 : decode cX5_mayGo 2 = .ok (.ifCond .eq 17, 3) := by decide +kernel
theorem dX5_mayGo_5 : decode cX5_mayGo 5 = .ok (.aload_n 0, 1) := by decide +kernel
theorem dX5_mayGo_6 : decode cX5_mayGo 6 = .ok (.getfield 53, 3) := by decide +kernel
theorem dX5_mayGo_9 : decode cX5_mayGo 9 = .ok (.bipush 24, 2) := by decide +kernel
theorem dX5_mayGo_11 : decode cX5_mayGo 11 = .ok (.iload_n 1, 1) := by decide +kernel
theorem dX5_mayGo_12 : decode cX5_mayGo 12 = .ok (.imul, 1) := by decide +kernel
theorem dX5_mayGo_13 : decode cX5_mayGo 13 = .ok (.iload_n 2, 1) := by decide +kernel
theorem dX5_mayGo_14 : decode cX5_mayGo 14 = .ok (.iadd, 1) := by decide +kernel
theorem dX5_mayGo_15 : decode cX5_mayGo 15 = .ok (.baload, 1) := by decide +kernel
theorem dX5_mayGo_16 : decode cX5_mayGo 16 = .ok (.ifCond .ne 22, 3) := by decide +kernel
theorem dX5_mayGo_19 : decode cX5_mayGo 19 = .ok (.iload_n 3, 1) := by decide +kernel
theorem dX5_mayGo_20 : decode cX5_mayGo 20 = .ok (.ifCond .eq 14, 3) := by decide +kernel
theorem dX5_mayGo_23 : decode cX5_mayGo 23 = .ok (.iload 4, 2) := by decide +kernel
theorem dX5_mayGo_25 : decode cX5_mayGo 25 = .ok (.ifCond .eq 9, 3) := by decide +kernel
theorem dX5_mayGo_28 : decode cX5_mayGo 28 = .ok (.iload_n 3, 1) := by decide +kernel
theorem dX5_mayGo_29 : decode cX5_mayGo 29 = .ok (.iload 4, 2) := by decide +kernel
theorem dX5_mayGo_31 : decode cX5_mayGo 31 = .ok (.if_icmp .ne 7, 3) := by decide +kernel
theorem dX5_mayGo_34 : decode cX5_mayGo 34 = .ok (.iconst 1, 1) := by decide +kernel
theorem dX5_mayGo_35 : decode cX5_mayGo 35 = .ok (.goto 4, 3) := by decide +kernel
theorem dX5_mayGo_38 : decode cX5_mayGo 38 = .ok (.iconst 0, 1) := by decide +kernel
theorem dX5_mayGo_39 : decode cX5_mayGo 39 = .ok (.ireturn, 1) := by decide +kernel
theorem dX5_isReady_0 : decode cX5_isReady 0 = .ok (.iload_n 3, 1) := by decide +kernel
theorem dX5_isReady_1 : decode cX5_isReady 1 = .ok (.ifCond .ne 21, 3) := by decide +kernel
theorem dX5_isReady_4 : decode cX5_isReady 4 = .ok (.aload_n 0, 1) := by decide +kernel
theorem dX5_isReady_5 : decode cX5_isReady 5 = .ok (.getfield 53, 3) := by decide +kernel
theorem dX5_isReady_8 : decode cX5_isReady 8 = .ok (.bipush 24, 2) := by decide +kernel
theorem dX5_isReady_10 : decode cX5_isReady 10 = .ok (.iload_n 1, 1) := by decide +kernel
theorem dX5_isReady_11 : decode cX5_isReady 11 = .ok (.imul, 1) := by decide +kernel
theorem dX5_isReady_12 : decode cX5_isReady 12 = .ok (.iload_n 2, 1) := by decide +kernel
theorem dX5_isReady_13 : decode cX5_isReady 13 = .ok (.iadd, 1) := by decide +kernel
theorem dX5_isReady_14 : decode cX5_isReady 14 = .ok (.baload, 1) := by decide +kernel
theorem dX5_isReady_15 : decode cX5_isReady 15 = .ok (.ifCond .ne 7, 3) := by decide +kernel
theorem dX5_isReady_18 : decode cX5_isReady 18 = .ok (.iconst 1, 1) := by decide +kernel
theorem dX5_isReady_19 : decode cX5_isReady 19 = .ok (.goto 4, 3) := by decide +kernel
theorem dX5_isReady_22 : decode cX5_isReady 22 = .ok (.iconst 0, 1) := by decide +kernel
theorem dX5_isReady_23 : decode cX5_isReady 23 = .ok (.ireturn, 1) := by decide +kernel
theorem dX5_isReserved_0 : decode cX5_isReserved 0 = .ok (.aload_n 0, 1) := by decide +kernel
theorem dX5_isReserved_1 : decode cX5_isReserved 1 = .ok (.iconst 0, 1) := by decide +kernel
theorem dX5_isReserved_2 : decode cX5_isReserved 2 = .ok (.iload_n 1, 1) := by decide +kernel
theorem dX5_isReserved_3 : decode cX5_isReserved 3 = .ok (.iload_n 3, 1) := by decide +kernel
theorem dX5_isReserved_4 : decode cX5_isReserved 4 = .ok (.invokevirtual 98, 3) := by decide +kernel
theorem dX5_isReserved_7 : decode cX5_isReserved 7 = .ok (.ifCond .eq 12, 3) := by decide +kernel
theorem dX5_isReserved_10 : decode cX5_isReserved 10 = .ok (.aload_n 0, 1) := by decide +kernel
theorem dX5_isReserved_11 : decode cX5_isReserved 11 = .ok (.getfield 41, 3) := by decide +kernel
theorem dX5_isReserved_14 : decode cX5_isReserved 14 = .ok (.iconst 0, 1) := by decide +kernel
theorem dX5_isReserved_15 : decode cX5_isReserved 15 = .ok (.iaload, 1) := by decide +kernel
theorem dX5_isReserved_16 : decode cX5_isReserved 16 = .ok (.goto 18, 3) := by decide +kernel
theorem dX5_isReserved_19 : decode cX5_isReserved 19 = .ok (.iload_n 3, 1) := by decide +kernel
theorem dX5_isReserved_20 : decode cX5_isReserved 20 = .ok (.iconst 2, 1) := by decide +kernel
theorem dX5_isReserved_21 : decode cX5_isReserved 21 = .ok (.if_icmp .ne 12, 3) := by decide +kernel
theorem dX5_isReserved_24 : decode cX5_isReserved 24 = .ok (.aload_n 0, 1) := by decide +kernel
theorem dX5_isReserved_25 : decode cX5_isReserved 25 = .ok (.getfield 47, 3) := by decide +kernel
theorem dX5_isReserved_28 : decode cX5_isReserved 28 = .ok (.iconst 0, 1) := by decide +kernel
theorem dX5_isReserved_29 : decode cX5_isReserved 29 = .ok (.iaload, 1) := by decide +kernel
theorem dX5_isReserved_30 : decode cX5_isReserved 30 = .ok (.goto 4, 3) := by decide +kernel
theorem dX5_isReserved_33 : decode cX5_isReserved 33 = .ok (.iconst 0, 1) := by decide +kernel
theorem dX5_isReserved_34 : decode cX5_isReserved 34 = .ok (.aload_n 0, 1) := by decide +kernel
theorem dX5_isReserved_35 : decode cX5_isReserved 35 = .ok (.iconst 1, 1) := by decide +kernel
theorem dX5_isReserved_36 : decode cX5_isReserved 36 = .ok (.iload_n 1, 1) := by decide +kernel
theorem dX5_isReserved_37 : decode cX5_isReserved 37 = .ok (.iload 4, 2) := by decide +kernel
theorem dX5_isReserved_39 : decode cX5_isReserved 39 = .ok (.invokevirtual 98, 3) := by decide +kernel
theorem dX5_isReserved_42 : decode cX5_isReserved 42 = .ok (.ifCond .eq 12, 3) := by decide +kernel
theorem dX5_isReserved_45 : decode cX5_isReserved 45 = .ok (.aload_n 0, 1) := by decide +kernel
theorem dX5_isReserved_46 : decode cX5_isReserved 46 = .ok (.getfield 41, 3) := by decide +kernel
theorem dX5_isReserved_49 : decode cX5_isReserved 49 = .ok (.iconst 1, 1) := by decide +kernel
theorem dX5_isReserved_50 : decode cX5_isReserved 50 = .ok (.iaload, 1) := by decide +kernel
theorem dX5_isReserved_51 : decode cX5_isReserved 51 = .ok (.goto 19, 3) := by decide +kernel
theorem dX5_isReserved_54 : decode cX5_isReserved 54 = .ok (.iload 4, 2) := by decide +kernel
theorem dX5_isReserved_56 : decode cX5_isReserved 56 = .ok (.iconst 2, 1) := by decide +kernel
theorem dX5_isReserved_57 : decode cX5_isReserved 57 = .ok (.if_icmp .ne 12, 3) := by decide +kernel
theorem dX5_isReserved_60 : decode cX5_isReserved 60 = .ok (.aload_n 0, 1) := by decide +kernel
theorem dX5_isReserved_61 : decode cX5_isReserved 61 = .ok (.getfield 47, 3) := by decide +kernel
theorem dX5_isReserved_64 : decode cX5_isReserved 64 = .ok (.iconst 1, 1) := by decide +kernel
theorem dX5_isReserved_65 : decode cX5_isReserved 65 = .ok (.iaload, 1) := by decide +kernel
theorem dX5_isReserved_66 : decode cX5_isReserved 66 = .ok (.goto 4, 3) := by decide +kernel
theorem dX5_isReserved_69 : decode cX5_isReserved 69 = .ok (.iconst 0, 1) := by decide +kernel
theorem dX5_isReserved_70 : decode cX5_isReserved 70 = .ok (.iadd, 1) := by decide +kernel
theorem dX5_isReserved_71 : decode cX5_isReserved 71 = .ok (.istore 5, 2) := by decide +kernel
theorem dX5_isReserved_73 : decode cX5_isReserved 73 = .ok (.aload_n 0, 1) := by decide +kernel
theorem dX5_isReserved_74 : decode cX5_isReserved 74 = .ok (.iconst 0, 1) := by decide +kernel
theorem dX5_isReserved_75 : decode cX5_isReserved 75 = .ok (.iload_n 1, 1) := by decide +kernel
theorem dX5_isReserved_76 : decode cX5_isReserved 76 = .ok (.iload_n 3, 1) := by decide +kernel
theorem dX5_isReserved_77 : decode cX5_isReserved 77 = .ok (.invokevirtual 98, 3) := by decide +kernel
theorem dX5_isReserved_80 : decode cX5_isReserved 80 = .ok (.ifCond .ne 8, 3) := by decide +kernel
theorem dX5_isReserved_83 : decode cX5_isReserved 83 = .ok (.iload_n 3, 1) := by decide +kernel
theorem dX5_isReserved_84 : decode cX5_isReserved 84 = .ok (.iconst 1, 1) := by decide +kernel
theorem dX5_isReserved_85 : decode cX5_isReserved 85 = .ok (.if_icmp .ne 12, 3) := by decide +kernel
theorem dX5_isReserved_88 : decode cX5_isReserved 88 = .ok (.aload_n 0, 1) := by decide +kernel
theorem dX5_isReserved_89 : decode cX5_isReserved 89 = .ok (.getfield 38, 3) := by decide +kernel
theorem dX5_isReserved_92 : decode cX5_isReserved 92 = .ok (.iconst 0, 1) := by decide +kernel
theorem dX5_isReserved_93 : decode cX5_isReserved 93 = .ok (.iaload, 1) := by decide +kernel
theorem dX5_isReserved_94 : decode cX5_isReserved 94 = .ok (.goto 4, 3) := by decide +kernel
theorem dX5_isReserved_97 : decode cX5_isReserved 97 = .ok (.iconst 0, 1) := by decide +kernel
theorem dX5_isReserved_98 : decode cX5_isReserved 98 = .ok (.aload_n 0, 1) := by decide +kernel
theorem dX5_isReserved_99 : decode cX5_isReserved 99 = .ok (.iconst 1, 1) := by decide +kernel
theorem dX5_isReserved_100 : decode cX5_isReserved 100 = .ok (.iload_n 1, 1) := by decide +kernel
theorem dX5_isReserved_101 : decode cX5_isReserved 101 = .ok (.iload 4, 2) := by decide +kernel
theorem dX5_isReserved_103 : decode cX5_isReserved 103 = .ok (.invokevirtual 98, 3) := by decide +kernel
theorem dX5_isReserved_106 : decode cX5_isReserved 106 = .ok (.ifCond .ne 9, 3) := by decide +kernel
theorem dX5_isReserved_109 : decode cX5_isReserved 109 = .ok (.iload 4, 2) := by decide +kernel
theorem dX5_isReserved_111 : decode cX5_isReserved 111 = .ok (.iconst 1, 1) := by decide +kernel
theorem dX5_isReserved_112 : decode cX5_isReserved 112 = .ok (.if_icmp .ne 12, 3) := by decide +kernel
theorem dX5_isReserved_115 : decode cX5_isReserved 115 = .ok (.aload_n 0, 1) := by decide +kernel
theorem dX5_isReserved_116 : decode cX5_isReserved 116 = .ok (.getfield 38, 3) := by decide +kernel
theorem dX5_isReserved_119 : decode cX5_isReserved 119 = .ok (.iconst 1, 1) := by decide +kernel
theorem dX5_isReserved_120 : decode cX5_isReserved 120 = .ok (.iaload, 1) := by decide +kernel
theorem dX5_isReserved_121 : decode cX5_isReserved 121 = .ok (.goto 4, 3) := by decide +kernel
theorem dX5_isReserved_124 : decode cX5_isReserved 124 = .ok (.iconst 0, 1) := by decide +kernel
theorem dX5_isReserved_125 : decode cX5_isReserved 125 = .ok (.iadd, 1) := by decide +kernel
theorem dX5_isReserved_126 : decode cX5_isReserved 126 = .ok (.istore 6, 2) := by decide +kernel
theorem dX5_isReserved_128 : decode cX5_isReserved 128 = .ok (.aload_n 0, 1) := by decide +kernel
theorem dX5_isReserved_129 : decode cX5_isReserved 129 = .ok (.getfield 35, 3) := by decide +kernel
theorem dX5_isReserved_132 : decode cX5_isReserved 132 = .ok (.iload_n 1, 1) := by decide +kernel
theorem dX5_isReserved_133 : decode cX5_isReserved 133 = .ok (.iaload, 1) := by decide +kernel
theorem dX5_isReserved_134 : decode cX5_isReserved 134 = .ok (.ifCond .eq 20, 3) := by decide +kernel
theorem dX5_isReserved_137 : decode cX5_isReserved 137 = .ok (.iload 5, 2) := by decide +kernel
theorem dX5_isReserved_139 : decode cX5_isReserved 139 = .ok (.aload_n 0, 1) := by decide +kernel
theorem dX5_isReserved_140 : decode cX5_isReserved 140 = .ok (.getfield 35, 3) := by decide +kernel
theorem dX5_isReserved_143 : decode cX5_isReserved 143 = .ok (.iload_n 1, 1) := by decide +kernel
theorem dX5_isReserved_144 : decode cX5_isReserved 144 = .ok (.iaload, 1) := by decide +kernel
theorem dX5_isReserved_145 : decode cX5_isReserved 145 = .ok (.if_icmp .lt 13, 3) := by decide +kernel
theorem dX5_isReserved_148 : decode cX5_isReserved 148 = .ok (.iload_n 2, 1) := by decide +kernel
theorem dX5_isReserved_149 : decode cX5_isReserved 149 = .ok (.iload 6, 2) := by decide +kernel
theorem dX5_isReserved_151 : decode cX5_isReserved 151 = .ok (.if_icmp .lt 7, 3) := by decide +kernel
theorem dX5_isReserved_154 : decode cX5_isReserved 154 = .ok (.iconst 1, 1) := by decide +kernel
theorem dX5_isReserved_155 : decode cX5_isReserved 155 = .ok (.goto 4, 3) := by decide +kernel
theorem dX5_isReserved_158 : decode cX5_isReserved 158 = .ok (.iconst 0, 1) := by decide +kernel
theorem dX5_isReserved_159 : decode cX5_isReserved 159 = .ok (.ireturn, 1) := by decide +kernel
theorem dX5_far_0 : decode cX5_far 0 = .ok (.iload_n 0, 1) := by decide +kernel
theorem dX5_far_1 : decode cX5_far 1 = .ok (.iload_n 1, 1) := by decide +kernel
theorem dX5_far_2 : decode cX5_far 2 = .ok (.if_icmp .le 9, 3) := by decide +kernel
theorem dX5_far_5 : decode cX5_far 5 = .ok (.iload_n 0, 1) := by decide +kernel
theorem dX5_far_6 : decode cX5_far 6 = .ok (.iload_n 1, 1) := by decide +kernel
theorem dX5_far_7 : decode cX5_far 7 = .ok (.isub, 1) := by decide +kernel
theorem dX5_far_8 : decode cX5_far 8 = .ok (.goto 6, 3) := by decide +kernel
theorem dX5_far_11 : decode cX5_far 11 = .ok (.iload_n 1, 1) := by decide +kernel
theorem dX5_far_12 : decode cX5_far 12 = .ok (.iload_n 0, 1) := by decide +kernel
theorem dX5_far_13 : decode cX5_far 13 = .ok (.isub, 1) := by decide +kernel
theorem dX5_far_14 : decode cX5_far 14 = .ok (.ireturn, 1) := by decide +kernel
theorem dX5_isLegal_0 : decode cX5_isLegal 0 = .ok (.aload_n 0, 1) := by decide +kernel
theorem dX5_isLegal_1 : decode cX5_isLegal 1 = .ok (.iload 6, 2) := by decide +kernel
theorem dX5_isLegal_3 : decode cX5_isLegal 3 = .ok (.iload 7, 2) := by decide +kernel
theorem dX5_isLegal_5 : decode cX5_isLegal 5 = .ok (.invokevirtual 101, 3) := by decide +kernel
theorem dX5_isLegal_8 : decode cX5_isLegal 8 = .ok (.istore 8, 2) := by decide +kernel
theorem dX5_isLegal_10 : decode cX5_isLegal 10 = .ok (.iload_n 2, 1) := by decide +kernel
theorem dX5_isLegal_11 : decode cX5_isLegal 11 = .ok (.aload_n 0, 1) := by decide +kernel
theorem dX5_isLegal_12 : decode cX5_isLegal 12 = .ok (.getfield 28, 3) := by decide +kernel
theorem dX5_isLegal_15 : decode cX5_isLegal 15 = .ok (.iload_n 1, 1) := by decide +kernel
theorem dX5_isLegal_16 : decode cX5_isLegal 16 = .ok (.iaload, 1) := by decide +kernel
theorem dX5_isLegal_17 : decode cX5_isLegal 17 = .ok (.iadd, 1) := by decide +kernel
theorem dX5_isLegal_18 : decode cX5_isLegal 18 = .ok (.iload 8, 2) := by decide +kernel
theorem dX5_isLegal_20 : decode cX5_isLegal 20 = .ok (.isub, 1) := by decide +kernel
theorem dX5_isLegal_21 : decode cX5_isLegal 21 = .ok (.istore 9, 2) := by decide +kernel
theorem dX5_isLegal_23 : decode cX5_isLegal 23 = .ok (.iload_n 3, 1) := by decide +kernel
theorem dX5_isLegal_24 : decode cX5_isLegal 24 = .ok (.iload 8, 2) := by decide +kernel
theorem dX5_isLegal_26 : decode cX5_isLegal 26 = .ok (.iadd, 1) := by decide +kernel
theorem dX5_isLegal_27 : decode cX5_isLegal 27 = .ok (.aload_n 0, 1) := by decide +kernel
theorem dX5_isLegal_28 : decode cX5_isLegal 28 = .ok (.getfield 32, 3) := by decide +kernel
theorem dX5_isLegal_31 : decode cX5_isLegal 31 = .ok (.iload_n 1, 1) := by decide +kernel
theorem dX5_isLegal_32 : decode cX5_isLegal 32 = .ok (.iaload, 1) := by decide +kernel
theorem dX5_isLegal_33 : decode cX5_isLegal 33 = .ok (.isub, 1) := by decide +kernel
theorem dX5_isLegal_34 : decode cX5_isLegal 34 = .ok (.istore 10, 2) := by decide +kernel
theorem dX5_isLegal_36 : decode cX5_isLegal 36 = .ok (.iload 9, 2) := by decide +kernel
theorem dX5_isLegal_38 : decode cX5_isLegal 38 = .ok (.iconst 0, 1) := by decide +kernel
theorem dX5_isLegal_39 : decode cX5_isLegal 39 = .ok (.aload_n 0, 1) := by decide +kernel
theorem dX5_isLegal_40 : decode cX5_isLegal 40 = .ok (.getfield 7, 3) := by decide +kernel
theorem dX5_isLegal_43 : decode cX5_isLegal 43 = .ok (.invokestatic 81, 3) := by decide +kernel
theorem dX5_isLegal_46 : decode cX5_isLegal 46 = .ok (.ifCond .eq 46, 3) := by decide +kernel
theorem dX5_isLegal_49 : decode cX5_isLegal 49 = .ok (.iload 10, 2) := by decide +kernel
theorem dX5_isLegal_51 : decode cX5_isLegal 51 = .ok (.iconst 0, 1) := by decide +kernel
theorem dX5_isLegal_52 : decode cX5_isLegal 52 = .ok (.aload_n 0, 1) := by decide +kernel
theorem dX5_isLegal_53 : decode cX5_isLegal 53 = .ok (.getfield 13, 3) := by decide +kernel
theorem dX5_isLegal_56 : decode cX5_isLegal 56 = .ok (.invokestatic 81, 3) := by decide +kernel
theorem dX5_isLegal_59 : decode cX5_isLegal 59 = .ok (.ifCond .eq 33, 3) := by decide +kernel
theorem dX5_isLegal_62 : decode cX5_isLegal 62 = .ok (.iload 9, 2) := by decide +kernel
theorem dX5_isLegal_64 : decode cX5_isLegal 64 = .ok (.iload_n 2, 1) := by decide +kernel
theorem dX5_isLegal_65 : decode cX5_isLegal 65 = .ok (.invokestatic 105, 3) := by decide +kernel
theorem dX5_isLegal_68 : decode cX5_isLegal 68 = .ok (.aload_n 0, 1) := by decide +kernel
theorem dX5_isLegal_69 : decode cX5_isLegal 69 = .ok (.getfield 22, 3) := by decide +kernel
theorem dX5_isLegal_72 : decode cX5_isLegal 72 = .ok (.if_icmp .gt 20, 3) := by decide +kernel
theorem dX5_isLegal_75 : decode cX5_isLegal 75 = .ok (.iload 10, 2) := by decide +kernel
theorem dX5_isLegal_77 : decode cX5_isLegal 77 = .ok (.iload_n 3, 1) := by decide +kernel
theorem dX5_isLegal_78 : decode cX5_isLegal 78 = .ok (.invokestatic 105, 3) := by decide +kernel
theorem dX5_isLegal_81 : decode cX5_isLegal 81 = .ok (.aload_n 0, 1) := by decide +kernel
theorem dX5_isLegal_82 : decode cX5_isLegal 82 = .ok (.getfield 25, 3) := by decide +kernel
theorem dX5_isLegal_85 : decode cX5_isLegal 85 = .ok (.if_icmp .gt 7, 3) := by decide +kernel
theorem dX5_isLegal_88 : decode cX5_isLegal 88 = .ok (.iconst 1, 1) := by decide +kernel
theorem dX5_isLegal_89 : decode cX5_isLegal 89 = .ok (.goto 4, 3) := by decide +kernel
theorem dX5_isLegal_92 : decode cX5_isLegal 92 = .ok (.iconst 0, 1) := by decide +kernel
theorem dX5_isLegal_93 : decode cX5_isLegal 93 = .ok (.istore 11, 2) := by decide +kernel
theorem dX5_isLegal_95 : decode cX5_isLegal 95 = .ok (.iload 11, 2) := by decide +kernel
theorem dX5_isLegal_97 : decode cX5_isLegal 97 = .ok (.ifCond .eq 46, 3) := by decide +kernel
end
section
theorem dX5_isLegal_100 : decode cX5_isLegal 100 = .ok (.aload_n 0, 1) := by decide +kernel
theorem dX5_isLegal_101 : decode cX5_isLegal 101 = .ok (.iconst 0, 1) := by decide +kernel
theorem dX5_isLegal_102 : decode cX5_isLegal 102 = .ok (.iload_n 1, 1) := by decide +kernel
theorem dX5_isLegal_103 : decode cX5_isLegal 103 = .ok (.iload 4, 2) := by decide +kernel
theorem dX5_isLegal_105 : decode cX5_isLegal 105 = .ok (.iload 6, 2) := by decide +kernel
theorem dX5_isLegal_107 : decode cX5_isLegal 107 = .ok (.invokevirtual 108, 3) := by decide +kernel
theorem dX5_isLegal_110 : decode cX5_isLegal 110 = .ok (.ifCond .eq 33, 3) := by decide +kernel
theorem dX5_isLegal_113 : decode cX5_isLegal 113 = .ok (.aload_n 0, 1) := by decide +kernel
theorem dX5_isLegal_114 : decode cX5_isLegal 114 = .ok (.iconst 1, 1) := by decide +kernel
theorem dX5_isLegal_115 : decode cX5_isLegal 115 = .ok (.iload_n 1, 1) := by decide +kernel
theorem dX5_isLegal_116 : decode cX5_isLegal 116 = .ok (.iload 5, 2) := by decide +kernel
theorem dX5_isLegal_118 : decode cX5_isLegal 118 = .ok (.iload 7, 2) := by decide +kernel
theorem dX5_isLegal_120 : decode cX5_isLegal 120 = .ok (.invokevirtual 108, 3) := by decide +kernel
theorem dX5_isLegal_123 : decode cX5_isLegal 123 = .ok (.ifCond .eq 20, 3) := by decide +kernel
theorem dX5_isLegal_126 : decode cX5_isLegal 126 = .ok (.aload_n 0, 1) := by decide +kernel
theorem dX5_isLegal_127 : decode cX5_isLegal 127 = .ok (.iload_n 1, 1) := by decide +kernel
theorem dX5_isLegal_128 : decode cX5_isLegal 128 = .ok (.iload_n 2, 1) := by decide +kernel
theorem dX5_isLegal_129 : decode cX5_isLegal 129 = .ok (.iload 6, 2) := by decide +kernel
theorem dX5_isLegal_131 : decode cX5_isLegal 131 = .ok (.iload 7, 2) := by decide +kernel
theorem dX5_isLegal_133 : decode cX5_isLegal 133 = .ok (.invokevirtual 112, 3) := by decide +kernel
theorem dX5_isLegal_136 : decode cX5_isLegal 136 = .ok (.ifCond .eq 7, 3) := by decide +kernel
theorem dX5_isLegal_139 : decode cX5_isLegal 139 = .ok (.iconst 1, 1) := by decide +kernel
theorem dX5_isLegal_140 : decode cX5_isLegal 140 = .ok (.goto 4, 3) := by decide +kernel
theorem dX5_isLegal_143 : decode cX5_isLegal 143 = .ok (.iconst 0, 1) := by decide +kernel
theorem dX5_isLegal_144 : decode cX5_isLegal 144 = .ok (.ireturn, 1) := by decide +kernel
theorem dX5_money_0 : decode cX5_money 0 = .ok (.iload 5, 2) := by decide +kernel
theorem dX5_money_2 : decode cX5_money 2 = .ok (.iconst 1, 1) := by decide +kernel
theorem dX5_money_3 : decode cX5_money 3 = .ok (.if_icmp .ne 12, 3) := by decide +kernel
theorem dX5_money_6 : decode cX5_money 6 = .ok (.aload_n 0, 1) := by decide +kernel
theorem dX5_money_7 : decode cX5_money 7 = .ok (.getfield 41, 3) := by decide +kernel
theorem dX5_money_10 : decode cX5_money 10 = .ok (.iconst 0, 1) := by decide +kernel
theorem dX5_money_11 : decode cX5_money 11 = .ok (.iaload, 1) := by decide +kernel
theorem dX5_money_12 : decode cX5_money 12 = .ok (.goto 20, 3) := by decide +kernel
theorem dX5_money_15 : decode cX5_money 15 = .ok (.iload 5, 2) := by decide +kernel
theorem dX5_money_17 : decode cX5_money 17 = .ok (.iconst 2, 1) := by decide +kernel
theorem dX5_money_18 : decode cX5_money 18 = .ok (.if_icmp .ne 13, 3) := by decide +kernel
theorem dX5_money_21 : decode cX5_money 21 = .ok (.aload_n 0, 1) := by decide +kernel
theorem dX5_money_22 : decode cX5_money 22 = .ok (.getfield 47, 3) := by decide +kernel
theorem dX5_money_25 : decode cX5_money 25 = .ok (.iconst 0, 1) := by decide +kernel
theorem dX5_money_26 : decode cX5_money 26 = .ok (.iaload, 1) := by decide +kernel
theorem dX5_money_27 : decode cX5_money 27 = .ok (.ineg, 1) := by decide +kernel
theorem dX5_money_28 : decode cX5_money 28 = .ok (.goto 4, 3) := by decide +kernel
theorem dX5_money_31 : decode cX5_money 31 = .ok (.iconst 0, 1) := by decide +kernel
theorem dX5_money_32 : decode cX5_money 32 = .ok (.iload 6, 2) := by decide +kernel
theorem dX5_money_34 : decode cX5_money 34 = .ok (.iconst 1, 1) := by decide +kernel
theorem dX5_money_35 : decode cX5_money 35 = .ok (.if_icmp .ne 12, 3) := by decide +kernel
theorem dX5_money_38 : decode cX5_money 38 = .ok (.aload_n 0, 1) := by decide +kernel
theorem dX5_money_39 : decode cX5_money 39 = .ok (.getfield 41, 3) := by decide +kernel
theorem dX5_money_42 : decode cX5_money 42 = .ok (.iconst 1, 1) := by decide +kernel
theorem dX5_money_43 : decode cX5_money 43 = .ok (.iaload, 1) := by decide +kernel
theorem dX5_money_44 : decode cX5_money 44 = .ok (.goto 20, 3) := by decide +kernel
theorem dX5_money_47 : decode cX5_money 47 = .ok (.iload 6, 2) := by decide +kernel
theorem dX5_money_49 : decode cX5_money 49 = .ok (.iconst 2, 1) := by decide +kernel
theorem dX5_money_50 : decode cX5_money 50 = .ok (.if_icmp .ne 13, 3) := by decide +kernel
theorem dX5_money_53 : decode cX5_money 53 = .ok (.aload_n 0, 1) := by decide +kernel
theorem dX5_money_54 : decode cX5_money 54 = .ok (.getfield 47, 3) := by decide +kernel
theorem dX5_money_57 : decode cX5_money 57 = .ok (.iconst 1, 1) := by decide +kernel
theorem dX5_money_58 : decode cX5_money 58 = .ok (.iaload, 1) := by decide +kernel
theorem dX5_money_59 : decode cX5_money 59 = .ok (.ineg, 1) := by decide +kernel
theorem dX5_money_60 : decode cX5_money 60 = .ok (.goto 4, 3) := by decide +kernel
theorem dX5_money_63 : decode cX5_money 63 = .ok (.iconst 0, 1) := by decide +kernel
theorem dX5_money_64 : decode cX5_money 64 = .ok (.iadd, 1) := by decide +kernel
theorem dX5_money_65 : decode cX5_money 65 = .ok (.istore 7, 2) := by decide +kernel
theorem dX5_money_67 : decode cX5_money 67 = .ok (.iload_n 3, 1) := by decide +kernel
theorem dX5_money_68 : decode cX5_money 68 = .ok (.ifCond .ne 17, 3) := by decide +kernel
theorem dX5_money_71 : decode cX5_money 71 = .ok (.iload 5, 2) := by decide +kernel
theorem dX5_money_73 : decode cX5_money 73 = .ok (.ifCond .eq 12, 3) := by decide +kernel
theorem dX5_money_76 : decode cX5_money 76 = .ok (.aload_n 0, 1) := by decide +kernel
theorem dX5_money_77 : decode cX5_money 77 = .ok (.getfield 50, 3) := by decide +kernel
theorem dX5_money_80 : decode cX5_money 80 = .ok (.iconst 0, 1) := by decide +kernel
theorem dX5_money_81 : decode cX5_money 81 = .ok (.iaload, 1) := by decide +kernel
theorem dX5_money_82 : decode cX5_money 82 = .ok (.goto 4, 3) := by decide +kernel
theorem dX5_money_85 : decode cX5_money 85 = .ok (.iconst 0, 1) := by decide +kernel
theorem dX5_money_86 : decode cX5_money 86 = .ok (.iload 4, 2) := by decide +kernel
theorem dX5_money_88 : decode cX5_money 88 = .ok (.ifCond .ne 17, 3) := by decide +kernel
theorem dX5_money_91 : decode cX5_money 91 = .ok (.iload 6, 2) := by decide +kernel
theorem dX5_money_93 : decode cX5_money 93 = .ok (.ifCond .eq 12, 3) := by decide +kernel
theorem dX5_money_96 : decode cX5_money 96 = .ok (.aload_n 0, 1) := by decide +kernel
theorem dX5_money_97 : decode cX5_money 97 = .ok (.getfield 50, 3) := by decide +kernel
theorem dX5_money_100 : decode cX5_money 100 = .ok (.iconst 1, 1) := by decide +kernel
theorem dX5_money_101 : decode cX5_money 101 = .ok (.iaload, 1) := by decide +kernel
theorem dX5_money_102 : decode cX5_money 102 = .ok (.goto 4, 3) := by decide +kernel
theorem dX5_money_105 : decode cX5_money 105 = .ok (.iconst 0, 1) := by decide +kernel
theorem dX5_money_106 : decode cX5_money 106 = .ok (.iadd, 1) := by decide +kernel
theorem dX5_money_107 : decode cX5_money 107 = .ok (.istore 8, 2) := by decide +kernel
theorem dX5_money_109 : decode cX5_money 109 = .ok (.aload_n 0, 1) := by decide +kernel
theorem dX5_money_110 : decode cX5_money 110 = .ok (.getfield 60, 3) := by decide +kernel
theorem dX5_money_113 : decode cX5_money 113 = .ok (.bipush 24, 2) := by decide +kernel
theorem dX5_money_115 : decode cX5_money 115 = .ok (.iload_n 1, 1) := by decide +kernel
theorem dX5_money_116 : decode cX5_money 116 = .ok (.imul, 1) := by decide +kernel
theorem dX5_money_117 : decode cX5_money 117 = .ok (.iload_n 2, 1) := by decide +kernel
theorem dX5_money_118 : decode cX5_money 118 = .ok (.iadd, 1) := by decide +kernel
theorem dX5_money_119 : decode cX5_money 119 = .ok (.iaload, 1) := by decide +kernel
theorem dX5_money_120 : decode cX5_money 120 = .ok (.iload 7, 2) := by decide +kernel
theorem dX5_money_122 : decode cX5_money 122 = .ok (.imul, 1) := by decide +kernel
theorem dX5_money_123 : decode cX5_money 123 = .ok (.iload 8, 2) := by decide +kernel
theorem dX5_money_125 : decode cX5_money 125 = .ok (.isub, 1) := by decide +kernel
theorem dX5_money_126 : decode cX5_money 126 = .ok (.ireturn, 1) := by decide +kernel
theorem dX5_laysOut_0 : decode cX5_laysOut 0 = .ok (.bipush 25, 2) := by decide +kernel
theorem dX5_laysOut_2 : decode cX5_laysOut 2 = .ok (.newarray .int, 2) := by decide +kernel
theorem dX5_laysOut_4 : decode cX5_laysOut 4 = .ok (.astore_n 2, 1) := by decide +kernel
theorem dX5_laysOut_5 : decode cX5_laysOut 5 = .ok (.aload_n 2, 1) := by decide +kernel
theorem dX5_laysOut_6 : decode cX5_laysOut 6 = .ok (.aload_n 0, 1) := by decide +kernel
theorem dX5_laysOut_7 : decode cX5_laysOut 7 = .ok (.getfield 78, 3) := by decide +kernel
theorem dX5_laysOut_10 : decode cX5_laysOut 10 = .ok (.iload_n 1, 1) := by decide +kernel
theorem dX5_laysOut_11 : decode cX5_laysOut 11 = .ok (.iastore, 1) := by decide +kernel
theorem dX5_laysOut_12 : decode cX5_laysOut 12 = .ok (.aload_n 0, 1) := by decide +kernel
theorem dX5_laysOut_13 : decode cX5_laysOut 13 = .ok (.getfield 78, 3) := by decide +kernel
theorem dX5_laysOut_16 : decode cX5_laysOut 16 = .ok (.istore_n 3, 1) := by decide +kernel
theorem dX5_laysOut_17 : decode cX5_laysOut 17 = .ok (.iload_n 3, 1) := by decide +kernel
theorem dX5_laysOut_18 : decode cX5_laysOut 18 = .ok (.bipush 24, 2) := by decide +kernel
theorem dX5_laysOut_20 : decode cX5_laysOut 20 = .ok (.if_icmp .ge 31, 3) := by decide +kernel
theorem dX5_laysOut_23 : decode cX5_laysOut 23 = .ok (.aload_n 2, 1) := by decide +kernel
theorem dX5_laysOut_24 : decode cX5_laysOut 24 = .ok (.iload_n 3, 1) := by decide +kernel
theorem dX5_laysOut_25 : decode cX5_laysOut 25 = .ok (.iconst 1, 1) := by decide +kernel
theorem dX5_laysOut_26 : decode cX5_laysOut 26 = .ok (.iadd, 1) := by decide +kernel
theorem dX5_laysOut_27 : decode cX5_laysOut 27 = .ok (.aload_n 2, 1) := by decide +kernel
theorem dX5_laysOut_28 : decode cX5_laysOut 28 = .ok (.iload_n 3, 1) := by decide +kernel
theorem dX5_laysOut_29 : decode cX5_laysOut 29 = .ok (.iaload, 1) := by decide +kernel
theorem dX5_laysOut_30 : decode cX5_laysOut 30 = .ok (.aload_n 0, 1) := by decide +kernel
theorem dX5_laysOut_31 : decode cX5_laysOut 31 = .ok (.getfield 28, 3) := by decide +kernel
theorem dX5_laysOut_34 : decode cX5_laysOut 34 = .ok (.iload_n 3, 1) := by decide +kernel
theorem dX5_laysOut_35 : decode cX5_laysOut 35 = .ok (.iaload, 1) := by decide +kernel
theorem dX5_laysOut_36 : decode cX5_laysOut 36 = .ok (.iadd, 1) := by decide +kernel
theorem dX5_laysOut_37 : decode cX5_laysOut 37 = .ok (.aload_n 0, 1) := by decide +kernel
theorem dX5_laysOut_38 : decode cX5_laysOut 38 = .ok (.getfield 32, 3) := by decide +kernel
theorem dX5_laysOut_41 : decode cX5_laysOut 41 = .ok (.iload_n 3, 1) := by decide +kernel
theorem dX5_laysOut_42 : decode cX5_laysOut 42 = .ok (.iaload, 1) := by decide +kernel
theorem dX5_laysOut_43 : decode cX5_laysOut 43 = .ok (.isub, 1) := by decide +kernel
theorem dX5_laysOut_44 : decode cX5_laysOut 44 = .ok (.iastore, 1) := by decide +kernel
theorem dX5_laysOut_45 : decode cX5_laysOut 45 = .ok (.iinc 3 1, 3) := by decide +kernel
theorem dX5_laysOut_48 : decode cX5_laysOut 48 = .ok (.goto (-31), 3) := by decide +kernel
theorem dX5_laysOut_51 : decode cX5_laysOut 51 = .ok (.bipush 24, 2) := by decide +kernel
theorem dX5_laysOut_53 : decode cX5_laysOut 53 = .ok (.istore_n 3, 1) := by decide +kernel
theorem dX5_laysOut_54 : decode cX5_laysOut 54 = .ok (.iload_n 3, 1) := by decide +kernel
theorem dX5_laysOut_55 : decode cX5_laysOut 55 = .ok (.aload_n 0, 1) := by decide +kernel
theorem dX5_laysOut_56 : decode cX5_laysOut 56 = .ok (.getfield 78, 3) := by decide +kernel
theorem dX5_laysOut_59 : decode cX5_laysOut 59 = .ok (.if_icmp .lt 140, 3) := by decide +kernel
theorem dX5_laysOut_62 : decode cX5_laysOut 62 = .ok (.iconst 0, 1) := by decide +kernel
theorem dX5_laysOut_63 : decode cX5_laysOut 63 = .ok (.istore 4, 2) := by decide +kernel
theorem dX5_laysOut_65 : decode cX5_laysOut 65 = .ok (.iload 4, 2) := by decide +kernel
theorem dX5_laysOut_67 : decode cX5_laysOut 67 = .ok (.sipush 369, 3) := by decide +kernel
theorem dX5_laysOut_70 : decode cX5_laysOut 70 = .ok (.if_icmp .ge 123, 3) := by decide +kernel
theorem dX5_laysOut_73 : decode cX5_laysOut 73 = .ok (.iconst 0, 1) := by decide +kernel
theorem dX5_laysOut_74 : decode cX5_laysOut 74 = .ok (.istore 5, 2) := by decide +kernel
theorem dX5_laysOut_76 : decode cX5_laysOut 76 = .ok (.iload 5, 2) := by decide +kernel
theorem dX5_laysOut_78 : decode cX5_laysOut 78 = .ok (.iconst 3, 1) := by decide +kernel
theorem dX5_laysOut_79 : decode cX5_laysOut 79 = .ok (.if_icmp .ge 60, 3) := by decide +kernel
theorem dX5_laysOut_82 : decode cX5_laysOut 82 = .ok (.aload_n 0, 1) := by decide +kernel
theorem dX5_laysOut_83 : decode cX5_laysOut 83 = .ok (.getfield 69, 3) := by decide +kernel
theorem dX5_laysOut_86 : decode cX5_laysOut 86 = .ok (.sipush 9225, 3) := by decide +kernel
theorem dX5_laysOut_89 : decode cX5_laysOut 89 = .ok (.iload 5, 2) := by decide +kernel
theorem dX5_laysOut_91 : decode cX5_laysOut 91 = .ok (.imul, 1) := by decide +kernel
theorem dX5_laysOut_92 : decode cX5_laysOut 92 = .ok (.sipush 369, 3) := by decide +kernel
theorem dX5_laysOut_95 : decode cX5_laysOut 95 = .ok (.iload_n 3, 1) := by decide +kernel
theorem dX5_laysOut_96 : decode cX5_laysOut 96 = .ok (.imul, 1) := by decide +kernel
theorem dX5_laysOut_97 : decode cX5_laysOut 97 = .ok (.iadd, 1) := by decide +kernel
theorem dX5_laysOut_98 : decode cX5_laysOut 98 = .ok (.iload 4, 2) := by decide +kernel
theorem dX5_laysOut_100 : decode cX5_laysOut 100 = .ok (.iadd, 1) := by decide +kernel
theorem dX5_laysOut_101 : decode cX5_laysOut 101 = .ok (.iload_n 3, 1) := by decide +kernel
theorem dX5_laysOut_102 : decode cX5_laysOut 102 = .ok (.bipush 24, 2) := by decide +kernel
theorem dX5_laysOut_104 : decode cX5_laysOut 104 = .ok (.if_icmp .ne 16, 3) := by decide +kernel
theorem dX5_laysOut_107 : decode cX5_laysOut 107 = .ok (.iload 4, 2) := by decide +kernel
theorem dX5_laysOut_109 : decode cX5_laysOut 109 = .ok (.bipush 9, 2) := by decide +kernel
theorem dX5_laysOut_111 : decode cX5_laysOut 111 = .ok (.idiv, 1) := by decide +kernel
theorem dX5_laysOut_112 : decode cX5_laysOut 112 = .ok (.aload_n 0, 1) := by decide +kernel
theorem dX5_laysOut_113 : decode cX5_laysOut 113 = .ok (.getfield 95, 3) := by decide +kernel
theorem dX5_laysOut_116 : decode cX5_laysOut 116 = .ok (.imul, 1) := by decide +kernel
theorem dX5_laysOut_117 : decode cX5_laysOut 117 = .ok (.goto 15, 3) := by decide +kernel
theorem dX5_laysOut_120 : decode cX5_laysOut 120 = .ok (.aload_n 0, 1) := by decide +kernel
theorem dX5_laysOut_121 : decode cX5_laysOut 121 = .ok (.iload 5, 2) := by decide +kernel
theorem dX5_laysOut_123 : decode cX5_laysOut 123 = .ok (.iload_n 3, 1) := by decide +kernel
theorem dX5_laysOut_124 : decode cX5_laysOut 124 = .ok (.iload 4, 2) := by decide +kernel
theorem dX5_laysOut_126 : decode cX5_laysOut 126 = .ok (.aload_n 2, 1) := by decide +kernel
theorem dX5_laysOut_127 : decode cX5_laysOut 127 = .ok (.iload_n 3, 1) := by decide +kernel
theorem dX5_laysOut_128 : decode cX5_laysOut 128 = .ok (.iaload, 1) := by decide +kernel
theorem dX5_laysOut_129 : decode cX5_laysOut 129 = .ok (.invokevirtual 115, 3) := by decide +kernel
theorem dX5_laysOut_132 : decode cX5_laysOut 132 = .ok (.iastore, 1) := by decide +kernel
theorem dX5_laysOut_133 : decode cX5_laysOut 133 = .ok (.iinc 5 1, 3) := by decide +kernel
theorem dX5_laysOut_136 : decode cX5_laysOut 136 = .ok (.goto (-60), 3) := by decide +kernel
theorem dX5_laysOut_139 : decode cX5_laysOut 139 = .ok (.aload_n 0, 1) := by decide +kernel
theorem dX5_laysOut_140 : decode cX5_laysOut 140 = .ok (.getfield 72, 3) := by decide +kernel
theorem dX5_laysOut_143 : decode cX5_laysOut 143 = .ok (.sipush 369, 3) := by decide +kernel
theorem dX5_laysOut_146 : decode cX5_laysOut 146 = .ok (.iload_n 3, 1) := by decide +kernel
theorem dX5_laysOut_147 : decode cX5_laysOut 147 = .ok (.imul, 1) := by decide +kernel
theorem dX5_laysOut_148 : decode cX5_laysOut 148 = .ok (.iload 4, 2) := by decide +kernel
theorem dX5_laysOut_150 : decode cX5_laysOut 150 = .ok (.iadd, 1) := by decide +kernel
theorem dX5_laysOut_151 : decode cX5_laysOut 151 = .ok (.iload_n 3, 1) := by decide +kernel
theorem dX5_laysOut_152 : decode cX5_laysOut 152 = .ok (.bipush 24, 2) := by decide +kernel
theorem dX5_laysOut_154 : decode cX5_laysOut 154 = .ok (.if_icmp .eq 11, 3) := by decide +kernel
theorem dX5_laysOut_157 : decode cX5_laysOut 157 = .ok (.iload_n 3, 1) := by decide +kernel
theorem dX5_laysOut_158 : decode cX5_laysOut 158 = .ok (.aload_n 0, 1) := by decide +kernel
theorem dX5_laysOut_159 : decode cX5_laysOut 159 = .ok (.getfield 92, 3) := by decide +kernel
theorem dX5_laysOut_162 : decode cX5_laysOut 162 = .ok (.if_icmp .lt 13, 3) := by decide +kernel
theorem dX5_laysOut_165 : decode cX5_laysOut 165 = .ok (.aload_n 0, 1) := by decide +kernel
theorem dX5_laysOut_166 : decode cX5_laysOut 166 = .ok (.iload_n 3, 1) := by decide +kernel
theorem dX5_laysOut_167 : decode cX5_laysOut 167 = .ok (.iload 4, 2) := by decide +kernel
theorem dX5_laysOut_169 : decode cX5_laysOut 169 = .ok (.invokevirtual 119, 3) := by decide +kernel
theorem dX5_laysOut_172 : decode cX5_laysOut 172 = .ok (.goto 14, 3) := by decide +kernel
theorem dX5_laysOut_175 : decode cX5_laysOut 175 = .ok (.aload_n 0, 1) := by decide +kernel
theorem dX5_laysOut_176 : decode cX5_laysOut 176 = .ok (.iconst (-1), 1) := by decide +kernel
theorem dX5_laysOut_177 : decode cX5_laysOut 177 = .ok (.iload_n 3, 1) := by decide +kernel
theorem dX5_laysOut_178 : decode cX5_laysOut 178 = .ok (.iload 4, 2) := by decide +kernel
theorem dX5_laysOut_180 : decode cX5_laysOut 180 = .ok (.aload_n 2, 1) := by decide +kernel
theorem dX5_laysOut_181 : decode cX5_laysOut 181 = .ok (.iload_n 3, 1) := by decide +kernel
theorem dX5_laysOut_182 : decode cX5_laysOut 182 = .ok (.iaload, 1) := by decide +kernel
theorem dX5_laysOut_183 : decode cX5_laysOut 183 = .ok (.invokevirtual 115, 3) := by decide +kernel
theorem dX5_laysOut_186 : decode cX5_laysOut 186 = .ok (.iastore, 1) := by decide +kernel
theorem dX5_laysOut_187 : decode cX5_laysOut 187 = .ok (.iinc 4 1, 3) := by decide +kernel
theorem dX5_laysOut_190 : decode cX5_laysOut 190 = .ok (.goto (-125), 3) := by decide +kernel
theorem dX5_laysOut_193 : decode cX5_laysOut 193 = .ok (.iinc 3 (-1), 3) := by decide +kernel
theorem dX5_laysOut_196 : decode cX5_laysOut 196 = .ok (.goto (-142), 3) := by decide +kernel
theorem dX5_laysOut_199 : decode cX5_laysOut 199 = .ok (.return_, 1) := by decide +kernel
theorem dX5_weighed_0 : decode cX5_weighed 0 = .ok (.iconst 0, 1) := by decide +kernel
theorem dX5_weighed_1 : decode cX5_weighed 1 = .ok (.istore_n 3, 1) := by decide +kernel
theorem dX5_weighed_2 : decode cX5_weighed 2 = .ok (.iconst 0, 1) := by decide +kernel
theorem dX5_weighed_3 : decode cX5_weighed 3 = .ok (.istore 4, 2) := by decide +kernel
theorem dX5_weighed_5 : decode cX5_weighed 5 = .ok (.iload 4, 2) := by decide +kernel
theorem dX5_weighed_7 : decode cX5_weighed 7 = .ok (.iconst 3, 1) := by decide +kernel
theorem dX5_weighed_8 : decode cX5_weighed 8 = .ok (.if_icmp .ge 53, 3) := by decide +kernel
theorem dX5_weighed_11 : decode cX5_weighed 11 = .ok (.aload_n 0, 1) := by decide +kernel
theorem dX5_weighed_12 : decode cX5_weighed 12 = .ok (.getfield 69, 3) := by decide +kernel
theorem dX5_weighed_15 : decode cX5_weighed 15 = .ok (.sipush 9225, 3) := by decide +kernel
theorem dX5_weighed_18 : decode cX5_weighed 18 = .ok (.iload 4, 2) := by decide +kernel
theorem dX5_weighed_20 : decode cX5_weighed 20 = .ok (.imul, 1) := by decide +kernel
theorem dX5_weighed_21 : decode cX5_weighed 21 = .ok (.sipush 369, 3) := by decide +kernel
theorem dX5_weighed_24 : decode cX5_weighed 24 = .ok (.iload_n 1, 1) := by decide +kernel
theorem dX5_weighed_25 : decode cX5_weighed 25 = .ok (.imul, 1) := by decide +kernel
theorem dX5_weighed_26 : decode cX5_weighed 26 = .ok (.iadd, 1) := by decide +kernel
theorem dX5_weighed_27 : decode cX5_weighed 27 = .ok (.iload_n 2, 1) := by decide +kernel
theorem dX5_weighed_28 : decode cX5_weighed 28 = .ok (.iadd, 1) := by decide +kernel
theorem dX5_weighed_29 : decode cX5_weighed 29 = .ok (.iaload, 1) := by decide +kernel
theorem dX5_weighed_30 : decode cX5_weighed 30 = .ok (.istore 5, 2) := by decide +kernel
theorem dX5_weighed_32 : decode cX5_weighed 32 = .ok (.iload 5, 2) := by decide +kernel
theorem dX5_weighed_34 : decode cX5_weighed 34 = .ok (.ldc 122, 2) := by decide +kernel
theorem dX5_weighed_36 : decode cX5_weighed 36 = .ok (.if_icmp .ne 6, 3) := by decide +kernel
theorem dX5_weighed_39 : decode cX5_weighed 39 = .ok (.ldc 122, 2) := by decide +kernel
theorem dX5_weighed_41 : decode cX5_weighed 41 = .ok (.ireturn, 1) := by decide +kernel
theorem dX5_weighed_42 : decode cX5_weighed 42 = .ok (.iload_n 3, 1) := by decide +kernel
theorem dX5_weighed_43 : decode cX5_weighed 43 = .ok (.aload_n 0, 1) := by decide +kernel
theorem dX5_weighed_44 : decode cX5_weighed 44 = .ok (.getfield 57, 3) := by decide +kernel
theorem dX5_weighed_47 : decode cX5_weighed 47 = .ok (.iload 4, 2) := by decide +kernel
theorem dX5_weighed_49 : decode cX5_weighed 49 = .ok (.iaload, 1) := by decide +kernel
theorem dX5_weighed_50 : decode cX5_weighed 50 = .ok (.iload 5, 2) := by decide +kernel
theorem dX5_weighed_52 : decode cX5_weighed 52 = .ok (.imul, 1) := by decide +kernel
theorem dX5_weighed_53 : decode cX5_weighed 53 = .ok (.iadd, 1) := by decide +kernel
theorem dX5_weighed_54 : decode cX5_weighed 54 = .ok (.istore_n 3, 1) := by decide +kernel
theorem dX5_weighed_55 : decode cX5_weighed 55 = .ok (.iinc 4 1, 3) := by decide +kernel
theorem dX5_weighed_58 : decode cX5_weighed 58 = .ok (.goto (-53), 3) := by decide +kernel
theorem dX5_weighed_61 : decode cX5_weighed 61 = .ok (.iload_n 3, 1) := by decide +kernel
theorem dX5_weighed_62 : decode cX5_weighed 62 = .ok (.ireturn, 1) := by decide +kernel
theorem dX5_brings_0 : decode cX5_brings 0 = .ok (.iload_n 3, 1) := by decide +kernel
theorem dX5_brings_1 : decode cX5_brings 1 = .ok (.bipush 9, 2) := by decide +kernel
theorem dX5_brings_3 : decode cX5_brings 3 = .ok (.idiv, 1) := by decide +kernel
theorem dX5_brings_4 : decode cX5_brings 4 = .ok (.istore 7, 2) := by decide +kernel
theorem dX5_brings_6 : decode cX5_brings 6 = .ok (.iload_n 3, 1) := by decide +kernel
theorem dX5_brings_7 : decode cX5_brings 7 = .ok (.iconst 3, 1) := by decide +kernel
theorem dX5_brings_8 : decode cX5_brings 8 = .ok (.idiv, 1) := by decide +kernel
theorem dX5_brings_9 : decode cX5_brings 9 = .ok (.iconst 3, 1) := by decide +kernel
theorem dX5_brings_10 : decode cX5_brings 10 = .ok (.irem, 1) := by decide +kernel
theorem dX5_brings_11 : decode cX5_brings 11 = .ok (.istore 8, 2) := by decide +kernel
theorem dX5_brings_13 : decode cX5_brings 13 = .ok (.iload_n 3, 1) := by decide +kernel
theorem dX5_brings_14 : decode cX5_brings 14 = .ok (.iconst 3, 1) := by decide +kernel
theorem dX5_brings_15 : decode cX5_brings 15 = .ok (.irem, 1) := by decide +kernel
theorem dX5_brings_16 : decode cX5_brings 16 = .ok (.istore 9, 2) := by decide +kernel
theorem dX5_brings_18 : decode cX5_brings 18 = .ok (.aload_n 0, 1) := by decide +kernel
theorem dX5_brings_19 : decode cX5_brings 19 = .ok (.iload_n 2, 1) := by decide +kernel
theorem dX5_brings_20 : decode cX5_brings 20 = .ok (.iload 7, 2) := by decide +kernel
theorem dX5_brings_22 : decode cX5_brings 22 = .ok (.iload 4, 2) := by decide +kernel
theorem dX5_brings_24 : decode cX5_brings 24 = .ok (.iload 7, 2) := by decide +kernel
theorem dX5_brings_26 : decode cX5_brings 26 = .ok (.isub, 1) := by decide +kernel
theorem dX5_brings_27 : decode cX5_brings 27 = .ok (.iload 8, 2) := by decide +kernel
theorem dX5_brings_29 : decode cX5_brings 29 = .ok (.iload 9, 2) := by decide +kernel
theorem dX5_brings_31 : decode cX5_brings 31 = .ok (.iload 5, 2) := by decide +kernel
theorem dX5_brings_33 : decode cX5_brings 33 = .ok (.iload 6, 2) := by decide +kernel
theorem dX5_brings_35 : decode cX5_brings 35 = .ok (.invokevirtual 123, 3) := by decide +kernel
theorem dX5_brings_38 : decode cX5_brings 38 = .ok (.ifCond .ne 6, 3) := by decide +kernel
theorem dX5_brings_41 : decode cX5_brings 41 = .ok (.ldc 122, 2) := by decide +kernel
theorem dX5_brings_43 : decode cX5_brings 43 = .ok (.ireturn, 1) := by decide +kernel
theorem dX5_brings_44 : decode cX5_brings 44 = .ok (.bipush 9, 2) := by decide +kernel
theorem dX5_brings_46 : decode cX5_brings 46 = .ok (.iload 7, 2) := by decide +kernel
theorem dX5_brings_48 : decode cX5_brings 48 = .ok (.aload_n 0, 1) := by decide +kernel
theorem dX5_brings_49 : decode cX5_brings 49 = .ok (.getfield 28, 3) := by decide +kernel
theorem dX5_brings_52 : decode cX5_brings 52 = .ok (.iload_n 2, 1) := by decide +kernel
theorem dX5_brings_53 : decode cX5_brings 53 = .ok (.iaload, 1) := by decide +kernel
theorem dX5_brings_54 : decode cX5_brings 54 = .ok (.iadd, 1) := by decide +kernel
theorem dX5_brings_55 : decode cX5_brings 55 = .ok (.aload_n 0, 1) := by decide +kernel
theorem dX5_brings_56 : decode cX5_brings 56 = .ok (.iload 5, 2) := by decide +kernel
theorem dX5_brings_58 : decode cX5_brings 58 = .ok (.iload 6, 2) := by decide +kernel
theorem dX5_brings_60 : decode cX5_brings 60 = .ok (.invokevirtual 101, 3) := by decide +kernel
theorem dX5_brings_63 : decode cX5_brings 63 = .ok (.isub, 1) := by decide +kernel
theorem dX5_brings_64 : decode cX5_brings 64 = .ok (.imul, 1) := by decide +kernel
theorem dX5_brings_65 : decode cX5_brings 65 = .ok (.iconst 3, 1) := by decide +kernel
theorem dX5_brings_66 : decode cX5_brings 66 = .ok (.iload 5, 2) := by decide +kernel
theorem dX5_brings_68 : decode cX5_brings 68 = .ok (.imul, 1) := by decide +kernel
theorem dX5_brings_69 : decode cX5_brings 69 = .ok (.iadd, 1) := by decide +kernel
theorem dX5_brings_70 : decode cX5_brings 70 = .ok (.iload 6, 2) := by decide +kernel
theorem dX5_brings_72 : decode cX5_brings 72 = .ok (.iadd, 1) := by decide +kernel
theorem dX5_brings_73 : decode cX5_brings 73 = .ok (.istore 10, 2) := by decide +kernel
theorem dX5_brings_75 : decode cX5_brings 75 = .ok (.iload_n 1, 1) := by decide +kernel
theorem dX5_brings_76 : decode cX5_brings 76 = .ok (.ifCond .lt 56, 3) := by decide +kernel
theorem dX5_brings_79 : decode cX5_brings 79 = .ok (.aload_n 0, 1) := by decide +kernel
theorem dX5_brings_80 : decode cX5_brings 80 = .ok (.getfield 69, 3) := by decide +kernel
theorem dX5_brings_83 : decode cX5_brings 83 = .ok (.sipush 9225, 3) := by decide +kernel
theorem dX5_brings_86 : decode cX5_brings 86 = .ok (.iload_n 1, 1) := by decide +kernel
theorem dX5_brings_87 : decode cX5_brings 87 = .ok (.imul, 1) := by decide +kernel
theorem dX5_brings_88 : decode cX5_brings 88 = .ok (.sipush 369, 3) := by decide +kernel
theorem dX5_brings_91 : decode cX5_brings 91 = .ok (.iload_n 2, 1) := by decide +kernel
theorem dX5_brings_92 : decode cX5_brings 92 = .ok (.iconst 1, 1) := by decide +kernel
theorem dX5_brings_93 : decode cX5_brings 93 = .ok (.iadd, 1) := by decide +kernel
theorem dX5_brings_94 : decode cX5_brings 94 = .ok (.imul, 1) := by decide +kernel
theorem dX5_brings_95 : decode cX5_brings 95 = .ok (.iadd, 1) := by decide +kernel
theorem dX5_brings_96 : decode cX5_brings 96 = .ok (.iload 10, 2) := by decide +kernel
theorem dX5_brings_98 : decode cX5_brings 98 = .ok (.iadd, 1) := by decide +kernel
theorem dX5_brings_99 : decode cX5_brings 99 = .ok (.iaload, 1) := by decide +kernel
theorem dX5_brings_100 : decode cX5_brings 100 = .ok (.istore 11, 2) := by decide +kernel
theorem dX5_brings_102 : decode cX5_brings 102 = .ok (.iload 11, 2) := by decide +kernel
theorem dX5_brings_104 : decode cX5_brings 104 = .ok (.ldc 122, 2) := by decide +kernel
theorem dX5_brings_106 : decode cX5_brings 106 = .ok (.if_icmp .ne 8, 3) := by decide +kernel
theorem dX5_brings_109 : decode cX5_brings 109 = .ok (.ldc 122, 2) := by decide +kernel
theorem dX5_brings_111 : decode cX5_brings 111 = .ok (.goto 20, 3) := by decide +kernel
theorem dX5_brings_114 : decode cX5_brings 114 = .ok (.iload 11, 2) := by decide +kernel
theorem dX5_brings_116 : decode cX5_brings 116 = .ok (.aload_n 0, 1) := by decide +kernel
theorem dX5_brings_117 : decode cX5_brings 117 = .ok (.iload_n 1, 1) := by decide +kernel
theorem dX5_brings_118 : decode cX5_brings 118 = .ok (.iload_n 2, 1) := by decide +kernel
theorem dX5_brings_119 : decode cX5_brings 119 = .ok (.iload 8, 2) := by decide +kernel
theorem dX5_brings_121 : decode cX5_brings 121 = .ok (.iload 9, 2) := by decide +kernel
theorem dX5_brings_123 : decode cX5_brings 123 = .ok (.iload 5, 2) := by decide +kernel
theorem dX5_brings_125 : decode cX5_brings 125 = .ok (.iload 6, 2) := by decide +kernel
theorem dX5_brings_127 : decode cX5_brings 127 = .ok (.invokevirtual 127, 3) := by decide +kernel
theorem dX5_brings_130 : decode cX5_brings 130 = .ok (.iadd, 1) := by decide +kernel
theorem dX5_brings_131 : decode cX5_brings 131 = .ok (.ireturn, 1) := by decide +kernel
theorem dX5_brings_132 : decode cX5_brings 132 = .ok (.aload_n 0, 1) := by decide +kernel
theorem dX5_brings_133 : decode cX5_brings 133 = .ok (.getfield 72, 3) := by decide +kernel
theorem dX5_brings_136 : decode cX5_brings 136 = .ok (.sipush 369, 3) := by decide +kernel
theorem dX5_brings_139 : decode cX5_brings 139 = .ok (.iload_n 2, 1) := by decide +kernel
theorem dX5_brings_140 : decode cX5_brings 140 = .ok (.iconst 1, 1) := by decide +kernel
theorem dX5_brings_141 : decode cX5_brings 141 = .ok (.iadd, 1) := by decide +kernel
theorem dX5_brings_142 : decode cX5_brings 142 = .ok (.imul, 1) := by decide +kernel
theorem dX5_brings_143 : decode cX5_brings 143 = .ok (.iload 10, 2) := by decide +kernel
theorem dX5_brings_145 : decode cX5_brings 145 = .ok (.iadd, 1) := by decide +kernel
theorem dX5_brings_146 : decode cX5_brings 146 = .ok (.iaload, 1) := by decide +kernel
theorem dX5_brings_147 : decode cX5_brings 147 = .ok (.istore 11, 2) := by decide +kernel
theorem dX5_brings_149 : decode cX5_brings 149 = .ok (.iload 11, 2) := by decide +kernel
theorem dX5_brings_151 : decode cX5_brings 151 = .ok (.ldc 122, 2) := by decide +kernel
theorem dX5_brings_153 : decode cX5_brings 153 = .ok (.if_icmp .ne 6, 3) := by decide +kernel
theorem dX5_brings_156 : decode cX5_brings 156 = .ok (.ldc 122, 2) := by decide +kernel
theorem dX5_brings_158 : decode cX5_brings 158 = .ok (.ireturn, 1) := by decide +kernel
theorem dX5_brings_159 : decode cX5_brings 159 = .ok (.iconst 0, 1) := by decide +kernel
theorem dX5_brings_160 : decode cX5_brings 160 = .ok (.istore 12, 2) := by decide +kernel
theorem dX5_brings_162 : decode cX5_brings 162 = .ok (.iload 12, 2) := by decide +kernel
theorem dX5_brings_164 : decode cX5_brings 164 = .ok (.iconst 3, 1) := by decide +kernel
theorem dX5_brings_165 : decode cX5_brings 165 = .ok (.if_icmp .ge 37, 3) := by decide +kernel
theorem dX5_brings_168 : decode cX5_brings 168 = .ok (.iload 11, 2) := by decide +kernel
theorem dX5_brings_170 : decode cX5_brings 170 = .ok (.aload_n 0, 1) := by decide +kernel
theorem dX5_brings_171 : decode cX5_brings 171 = .ok (.getfield 57, 3) := by decide +kernel
theorem dX5_brings_174 : decode cX5_brings 174 = .ok (.iload 12, 2) := by decide +kernel
theorem dX5_brings_176 : decode cX5_brings 176 = .ok (.iaload, 1) := by decide +kernel
theorem dX5_brings_177 : decode cX5_brings 177 = .ok (.aload_n 0, 1) := by decide +kernel
theorem dX5_brings_178 : decode cX5_brings 178 = .ok (.iload 12, 2) := by decide +kernel
theorem dX5_brings_180 : decode cX5_brings 180 = .ok (.iload_n 2, 1) := by decide +kernel
theorem dX5_brings_181 : decode cX5_brings 181 = .ok (.iload 8, 2) := by decide +kernel
theorem dX5_brings_183 : decode cX5_brings 183 = .ok (.iload 9, 2) := by decide +kernel
theorem dX5_brings_185 : decode cX5_brings 185 = .ok (.iload 5, 2) := by decide +kernel
theorem dX5_brings_187 : decode cX5_brings 187 = .ok (.iload 6, 2) := by decide +kernel
theorem dX5_brings_189 : decode cX5_brings 189 = .ok (.invokevirtual 127, 3) := by decide +kernel
theorem dX5_brings_192 : decode cX5_brings 192 = .ok (.imul, 1) := by decide +kernel
theorem dX5_brings_193 : decode cX5_brings 193 = .ok (.iadd, 1) := by decide +kernel
theorem dX5_brings_194 : decode cX5_brings 194 = .ok (.istore 11, 2) := by decide +kernel
theorem dX5_brings_196 : decode cX5_brings 196 = .ok (.iinc 12 1, 3) := by decide +kernel
theorem dX5_brings_199 : decode cX5_brings 199 = .ok (.goto (-37), 3) := by decide +kernel
theorem dX5_brings_202 : decode cX5_brings 202 = .ok (.iload 11, 2) := by decide +kernel
theorem dX5_brings_204 : decode cX5_brings 204 = .ok (.ireturn, 1) := by decide +kernel
theorem dX5_bestOf_0 : decode cX5_bestOf 0 = .ok (.ldc 122, 2) := by decide +kernel
theorem dX5_bestOf_2 : decode cX5_bestOf 2 = .ok (.istore 5, 2) := by decide +kernel
theorem dX5_bestOf_4 : decode cX5_bestOf 4 = .ok (.iconst 0, 1) := by decide +kernel
theorem dX5_bestOf_5 : decode cX5_bestOf 5 = .ok (.istore 6, 2) := by decide +kernel
theorem dX5_bestOf_7 : decode cX5_bestOf 7 = .ok (.iload 6, 2) := by decide +kernel
theorem dX5_bestOf_9 : decode cX5_bestOf 9 = .ok (.iconst 3, 1) := by decide +kernel
theorem dX5_bestOf_10 : decode cX5_bestOf 10 = .ok (.if_icmp .ge 55, 3) := by decide +kernel
theorem dX5_bestOf_13 : decode cX5_bestOf 13 = .ok (.iconst 0, 1) := by decide +kernel
theorem dX5_bestOf_14 : decode cX5_bestOf 14 = .ok (.istore 7, 2) := by decide +kernel
theorem dX5_bestOf_16 : decode cX5_bestOf 16 = .ok (.iload 7, 2) := by decide +kernel
theorem dX5_bestOf_18 : decode cX5_bestOf 18 = .ok (.iconst 3, 1) := by decide +kernel
theorem dX5_bestOf_19 : decode cX5_bestOf 19 = .ok (.if_icmp .ge 40, 3) := by decide +kernel
theorem dX5_bestOf_22 : decode cX5_bestOf 22 = .ok (.aload_n 0, 1) := by decide +kernel
theorem dX5_bestOf_23 : decode cX5_bestOf 23 = .ok (.iload_n 1, 1) := by decide +kernel
theorem dX5_bestOf_24 : decode cX5_bestOf 24 = .ok (.iload_n 2, 1) := by decide +kernel
theorem dX5_bestOf_25 : decode cX5_bestOf 25 = .ok (.iload_n 3, 1) := by decide +kernel
theorem dX5_bestOf_26 : decode cX5_bestOf 26 = .ok (.iload 4, 2) := by decide +kernel
theorem dX5_bestOf_28 : decode cX5_bestOf 28 = .ok (.iload 6, 2) := by decide +kernel
theorem dX5_bestOf_30 : decode cX5_bestOf 30 = .ok (.iload 7, 2) := by decide +kernel
theorem dX5_bestOf_32 : decode cX5_bestOf 32 = .ok (.invokevirtual 131, 3) := by decide +kernel
theorem dX5_bestOf_35 : decode cX5_bestOf 35 = .ok (.istore 8, 2) := by decide +kernel
theorem dX5_bestOf_37 : decode cX5_bestOf 37 = .ok (.iload 8, 2) := by decide +kernel
theorem dX5_bestOf_39 : decode cX5_bestOf 39 = .ok (.iload 5, 2) := by decide +kernel
theorem dX5_bestOf_41 : decode cX5_bestOf 41 = .ok (.if_icmp .le 8, 3) := by decide +kernel
theorem dX5_bestOf_44 : decode cX5_bestOf 44 = .ok (.iload 8, 2) := by decide +kernel
theorem dX5_bestOf_46 : decode cX5_bestOf 46 = .ok (.goto 5, 3) := by decide +kernel
theorem dX5_bestOf_49 : decode cX5_bestOf 49 = .ok (.iload 5, 2) := by decide +kernel
theorem dX5_bestOf_51 : decode cX5_bestOf 51 = .ok (.istore 5, 2) := by decide +kernel
theorem dX5_bestOf_53 : decode cX5_bestOf 53 = .ok (.iinc 7 1, 3) := by decide +kernel
theorem dX5_bestOf_56 : decode cX5_bestOf 56 = .ok (.goto (-40), 3) := by decide +kernel
theorem dX5_bestOf_59 : decode cX5_bestOf 59 = .ok (.iinc 6 1, 3) := by decide +kernel
theorem dX5_bestOf_62 : decode cX5_bestOf 62 = .ok (.goto (-55), 3) := by decide +kernel
theorem dX5_bestOf_65 : decode cX5_bestOf 65 = .ok (.iload 5, 2) := by decide +kernel
theorem dX5_bestOf_67 : decode cX5_bestOf 67 = .ok (.ireturn, 1) := by decide +kernel
theorem dX5_stateNow_0 : decode cX5_stateNow 0 = .ok (.bipush 9, 2) := by decide +kernel
theorem dX5_stateNow_2 : decode cX5_stateNow 2 = .ok (.aload_n 0, 1) := by decide +kernel
theorem dX5_stateNow_3 : decode cX5_stateNow 3 = .ok (.getfield 16, 3) := by decide +kernel
theorem dX5_stateNow_6 : decode cX5_stateNow 6 = .ok (.imul, 1) := by decide +kernel
theorem dX5_stateNow_7 : decode cX5_stateNow 7 = .ok (.iconst 3, 1) := by decide +kernel
theorem dX5_stateNow_8 : decode cX5_stateNow 8 = .ok (.aload_n 0, 1) := by decide +kernel
theorem dX5_stateNow_9 : decode cX5_stateNow 9 = .ok (.getfield 63, 3) := by decide +kernel
theorem dX5_stateNow_12 : decode cX5_stateNow 12 = .ok (.iconst 0, 1) := by decide +kernel
theorem dX5_stateNow_13 : decode cX5_stateNow 13 = .ok (.iaload, 1) := by decide +kernel
theorem dX5_stateNow_14 : decode cX5_stateNow 14 = .ok (.imul, 1) := by decide +kernel
theorem dX5_stateNow_15 : decode cX5_stateNow 15 = .ok (.iadd, 1) := by decide +kernel
theorem dX5_stateNow_16 : decode cX5_stateNow 16 = .ok (.aload_n 0, 1) := by decide +kernel
theorem dX5_stateNow_17 : decode cX5_stateNow 17 = .ok (.getfield 63, 3) := by decide +kernel
theorem dX5_stateNow_20 : decode cX5_stateNow 20 = .ok (.iconst 1, 1) := by decide +kernel
theorem dX5_stateNow_21 : decode cX5_stateNow 21 = .ok (.iaload, 1) := by decide +kernel
theorem dX5_stateNow_22 : decode cX5_stateNow 22 = .ok (.iadd, 1) := by decide +kernel
theorem dX5_stateNow_23 : decode cX5_stateNow 23 = .ok (.ireturn, 1) := by decide +kernel
theorem dX5_worthNow_0 : decode cX5_worthNow 0 = .ok (.aload_n 0, 1) := by decide +kernel
theorem dX5_worthNow_1 : decode cX5_worthNow 1 = .ok (.aload_n 0, 1) := by decide +kernel
theorem dX5_worthNow_2 : decode cX5_worthNow 2 = .ok (.getfield 16, 3) := by decide +kernel
theorem dX5_worthNow_5 : decode cX5_worthNow 5 = .ok (.aload_n 0, 1) := by decide +kernel
theorem dX5_worthNow_6 : decode cX5_worthNow 6 = .ok (.getfield 19, 3) := by decide +kernel
theorem dX5_worthNow_9 : decode cX5_worthNow 9 = .ok (.iadd, 1) := by decide +kernel
theorem dX5_worthNow_10 : decode cX5_worthNow 10 = .ok (.invokevirtual 134, 3) := by decide +kernel
theorem dX5_worthNow_13 : decode cX5_worthNow 13 = .ok (.aload_n 0, 1) := by decide +kernel
theorem dX5_worthNow_14 : decode cX5_worthNow 14 = .ok (.getfield 72, 3) := by decide +kernel
theorem dX5_worthNow_17 : decode cX5_worthNow 17 = .ok (.sipush 369, 3) := by decide +kernel
theorem dX5_worthNow_20 : decode cX5_worthNow 20 = .ok (.aload_n 0, 1) := by decide +kernel
theorem dX5_worthNow_21 : decode cX5_worthNow 21 = .ok (.getfield 78, 3) := by decide +kernel
theorem dX5_worthNow_24 : decode cX5_worthNow 24 = .ok (.imul, 1) := by decide +kernel
theorem dX5_worthNow_25 : decode cX5_worthNow 25 = .ok (.aload_n 0, 1) := by decide +kernel
theorem dX5_worthNow_26 : decode cX5_worthNow 26 = .ok (.invokevirtual 138, 3) := by decide +kernel
theorem dX5_worthNow_29 : decode cX5_worthNow 29 = .ok (.iadd, 1) := by decide +kernel
theorem dX5_worthNow_30 : decode cX5_worthNow 30 = .ok (.iaload, 1) := by decide +kernel
theorem dX5_worthNow_31 : decode cX5_worthNow 31 = .ok (.ireturn, 1) := by decide +kernel
theorem dX5_worth_0 : decode cX5_worth 0 = .ok (.aload_n 0, 1) := by decide +kernel
theorem dX5_worth_1 : decode cX5_worth 1 = .ok (.iconst 0, 1) := by decide +kernel
theorem dX5_worth_2 : decode cX5_worth 2 = .ok (.putfield 75, 3) := by decide +kernel
theorem dX5_worth_5 : decode cX5_worth 5 = .ok (.aload_n 0, 1) := by decide +kernel
theorem dX5_worth_6 : decode cX5_worth 6 = .ok (.invokevirtual 142, 3) := by decide +kernel
theorem dX5_worth_9 : decode cX5_worth 9 = .ok (.ireturn, 1) := by decide +kernel
theorem dX5_doing_0 : decode cX5_doing 0 = .ok (.aload_n 0, 1) := by decide +kernel
theorem dX5_doing_1 : decode cX5_doing 1 = .ok (.aload_n 0, 1) := by decide +kernel
theorem dX5_doing_2 : decode cX5_doing 2 = .ok (.getfield 16, 3) := by decide +kernel
theorem dX5_doing_5 : decode cX5_doing 5 = .ok (.aload_n 0, 1) := by decide +kernel
theorem dX5_doing_6 : decode cX5_doing 6 = .ok (.getfield 19, 3) := by decide +kernel
theorem dX5_doing_9 : decode cX5_doing 9 = .ok (.iadd, 1) := by decide +kernel
theorem dX5_doing_10 : decode cX5_doing 10 = .ok (.invokevirtual 134, 3) := by decide +kernel
theorem dX5_doing_13 : decode cX5_doing 13 = .ok (.aload_n 0, 1) := by decide +kernel
theorem dX5_doing_14 : decode cX5_doing 14 = .ok (.getfield 78, 3) := by decide +kernel
theorem dX5_doing_17 : decode cX5_doing 17 = .ok (.aload_n 0, 1) := by decide +kernel
theorem dX5_doing_18 : decode cX5_doing 18 = .ok (.getfield 92, 3) := by decide +kernel
theorem dX5_doing_21 : decode cX5_doing 21 = .ok (.if_icmp .lt 7, 3) := by decide +kernel
theorem dX5_doing_24 : decode cX5_doing 24 = .ok (.iload_n 1, 1) := by decide +kernel
theorem dX5_doing_25 : decode cX5_doing 25 = .ok (.goto 4, 3) := by decide +kernel
theorem dX5_doing_28 : decode cX5_doing 28 = .ok (.iconst (-1), 1) := by decide +kernel
theorem dX5_doing_29 : decode cX5_doing 29 = .ok (.istore_n 2, 1) := by decide +kernel
theorem dX5_doing_30 : decode cX5_doing 30 = .ok (.aload_n 0, 1) := by decide +kernel
theorem dX5_doing_31 : decode cX5_doing 31 = .ok (.iload_n 2, 1) := by decide +kernel
theorem dX5_doing_32 : decode cX5_doing 32 = .ok (.aload_n 0, 1) := by decide +kernel
theorem dX5_doing_33 : decode cX5_doing 33 = .ok (.getfield 78, 3) := by decide +kernel
theorem dX5_doing_36 : decode cX5_doing 36 = .ok (.aload_n 0, 1) := by decide +kernel
theorem dX5_doing_37 : decode cX5_doing 37 = .ok (.invokevirtual 138, 3) := by decide +kernel
theorem dX5_doing_40 : decode cX5_doing 40 = .ok (.aload_n 0, 1) := by decide +kernel
theorem dX5_doing_41 : decode cX5_doing 41 = .ok (.getfield 16, 3) := by decide +kernel
theorem dX5_doing_44 : decode cX5_doing 44 = .ok (.aload_n 0, 1) := by decide +kernel
theorem dX5_doing_45 : decode cX5_doing 45 = .ok (.getfield 19, 3) := by decide +kernel
theorem dX5_doing_48 : decode cX5_doing 48 = .ok (.iadd, 1) := by decide +kernel
theorem dX5_doing_49 : decode cX5_doing 49 = .ok (.invokevirtual 115, 3) := by decide +kernel
theorem dX5_doing_52 : decode cX5_doing 52 = .ok (.istore_n 3, 1) := by decide +kernel
theorem dX5_doing_53 : decode cX5_doing 53 = .ok (.iconst 0, 1) := by decide +kernel
theorem dX5_doing_54 : decode cX5_doing 54 = .ok (.istore 4, 2) := by decide +kernel
theorem dX5_doing_56 : decode cX5_doing 56 = .ok (.iload 4, 2) := by decide +kernel
theorem dX5_doing_58 : decode cX5_doing 58 = .ok (.bipush 9, 2) := by decide +kernel
theorem dX5_doing_60 : decode cX5_doing 60 = .ok (.if_icmp .ge 52, 3) := by decide +kernel
theorem dX5_doing_63 : decode cX5_doing 63 = .ok (.iload_n 3, 1) := by decide +kernel
theorem dX5_doing_64 : decode cX5_doing 64 = .ok (.ldc 122, 2) := by decide +kernel
theorem dX5_doing_66 : decode cX5_doing 66 = .ok (.if_icmp .eq 46, 3) := by decide +kernel
theorem dX5_doing_69 : decode cX5_doing 69 = .ok (.aload_n 0, 1) := by decide +kernel
theorem dX5_doing_70 : decode cX5_doing 70 = .ok (.iload_n 2, 1) := by decide +kernel
theorem dX5_doing_71 : decode cX5_doing 71 = .ok (.aload_n 0, 1) := by decide +kernel
theorem dX5_doing_72 : decode cX5_doing 72 = .ok (.getfield 78, 3) := by decide +kernel
theorem dX5_doing_75 : decode cX5_doing 75 = .ok (.aload_n 0, 1) := by decide +kernel
theorem dX5_doing_76 : decode cX5_doing 76 = .ok (.invokevirtual 138, 3) := by decide +kernel
theorem dX5_doing_79 : decode cX5_doing 79 = .ok (.aload_n 0, 1) := by decide +kernel
theorem dX5_doing_80 : decode cX5_doing 80 = .ok (.getfield 16, 3) := by decide +kernel
theorem dX5_doing_83 : decode cX5_doing 83 = .ok (.aload_n 0, 1) := by decide +kernel
theorem dX5_doing_84 : decode cX5_doing 84 = .ok (.getfield 19, 3) := by decide +kernel
theorem dX5_doing_87 : decode cX5_doing 87 = .ok (.iadd, 1) := by decide +kernel
theorem dX5_doing_88 : decode cX5_doing 88 = .ok (.iload 4, 2) := by decide +kernel
theorem dX5_doing_90 : decode cX5_doing 90 = .ok (.iconst 3, 1) := by decide +kernel
theorem dX5_doing_91 : decode cX5_doing 91 = .ok (.idiv, 1) := by decide +kernel
theorem dX5_doing_92 : decode cX5_doing 92 = .ok (.iload 4, 2) := by decide +kernel
theorem dX5_doing_94 : decode cX5_doing 94 = .ok (.iconst 3, 1) := by decide +kernel
theorem dX5_doing_95 : decode cX5_doing 95 = .ok (.irem, 1) := by decide +kernel
theorem dX5_doing_96 : decode cX5_doing 96 = .ok (.invokevirtual 131, 3) := by decide +kernel
theorem dX5_doing_99 : decode cX5_doing 99 = .ok (.iload_n 3, 1) := by decide +kernel
theorem dX5_doing_100 : decode cX5_doing 100 = .ok (.if_icmp .ne 6, 3) := by decide +kernel
theorem dX5_doing_103 : decode cX5_doing 103 = .ok (.iload 4, 2) := by decide +kernel
theorem dX5_doing_105 : decode cX5_doing 105 = .ok (.ireturn, 1) := by decide +kernel
theorem dX5_doing_106 : decode cX5_doing 106 = .ok (.iinc 4 1, 3) := by decide +kernel
theorem dX5_doing_109 : decode cX5_doing 109 = .ok (.goto (-53), 3) := by decide +kernel
theorem dX5_doing_112 : decode cX5_doing 112 = .ok (.iconst (-1), 1) := by decide +kernel
theorem dX5_doing_113 : decode cX5_doing 113 = .ok (.ireturn, 1) := by decide +kernel
theorem dX5_mode_0 : decode cX5_mode 0 = .ok (.aload_n 0, 1) := by decide +kernel
theorem dX5_mode_1 : decode cX5_mode 1 = .ok (.iconst 0, 1) := by decide +kernel
theorem dX5_mode_2 : decode cX5_mode 2 = .ok (.putfield 75, 3) := by decide +kernel
theorem dX5_mode_5 : decode cX5_mode 5 = .ok (.iload_n 1, 1) := by decide +kernel
theorem dX5_mode_6 : decode cX5_mode 6 = .ok (.invokestatic 89, 3) := by decide +kernel
theorem dX5_mode_9 : decode cX5_mode 9 = .ok (.ifCond .eq 21, 3) := by decide +kernel
theorem dX5_mode_12 : decode cX5_mode 12 = .ok (.iload_n 2, 1) := by decide +kernel
theorem dX5_mode_13 : decode cX5_mode 13 = .ok (.iconst 0, 1) := by decide +kernel
theorem dX5_mode_14 : decode cX5_mode 14 = .ok (.iconst 1, 1) := by decide +kernel
theorem dX5_mode_15 : decode cX5_mode 15 = .ok (.invokestatic 81, 3) := by decide +kernel
theorem dX5_mode_18 : decode cX5_mode 18 = .ok (.ifCond .eq 12, 3) := by decide +kernel
theorem dX5_mode_21 : decode cX5_mode 21 = .ok (.aload_n 0, 1) := by decide +kernel
theorem dX5_mode_22 : decode cX5_mode 22 = .ok (.getfield 78, 3) := by decide +kernel
theorem dX5_mode_25 : decode cX5_mode 25 = .ok (.bipush 24, 2) := by decide +kernel
theorem dX5_mode_27 : decode cX5_mode 27 = .ok (.if_icmp .ne 5, 3) := by decide +kernel
theorem dX5_mode_30 : decode cX5_mode 30 = .ok (.iconst (-1), 1) := by decide +kernel
theorem dX5_mode_31 : decode cX5_mode 31 = .ok (.ireturn, 1) := by decide +kernel
theorem dX5_mode_32 : decode cX5_mode 32 = .ok (.aload_n 0, 1) := by decide +kernel
theorem dX5_mode_33 : decode cX5_mode 33 = .ok (.iload_n 1, 1) := by decide +kernel
theorem dX5_mode_34 : decode cX5_mode 34 = .ok (.invokevirtual 145, 3) := by decide +kernel
theorem dX5_mode_37 : decode cX5_mode 37 = .ok (.istore_n 3, 1) := by decide +kernel
theorem dX5_mode_38 : decode cX5_mode 38 = .ok (.iload_n 3, 1) := by decide +kernel
theorem dX5_mode_39 : decode cX5_mode 39 = .ok (.ifCond .ge 7, 3) := by decide +kernel
theorem dX5_mode_42 : decode cX5_mode 42 = .ok (.iconst (-1), 1) := by decide +kernel
theorem dX5_mode_43 : decode cX5_mode 43 = .ok (.goto 16, 3) := by decide +kernel
theorem dX5_mode_46 : decode cX5_mode 46 = .ok (.iload_n 2, 1) := by decide +kernel
theorem dX5_mode_47 : decode cX5_mode 47 = .ok (.ifCond .ne 9, 3) := by decide +kernel
theorem dX5_mode_50 : decode cX5_mode 50 = .ok (.iload_n 3, 1) := by decide +kernel
theorem dX5_mode_51 : decode cX5_mode 51 = .ok (.iconst 3, 1) := by decide +kernel
theorem dX5_mode_52 : decode cX5_mode 52 = .ok (.idiv, 1) := by decide +kernel
theorem dX5_mode_53 : decode cX5_mode 53 = .ok (.goto 6, 3) := by decide +kernel
theorem dX5_mode_56 : decode cX5_mode 56 = .ok (.iload_n 3, 1) := by decide +kernel
theorem dX5_mode_57 : decode cX5_mode 57 = .ok (.iconst 3, 1) := by decide +kernel
theorem dX5_mode_58 : decode cX5_mode 58 = .ok (.irem, 1) := by decide +kernel
theorem dX5_mode_59 : decode cX5_mode 59 = .ok (.ireturn, 1) := by decide +kernel
theorem dX5_water_0 : decode cX5_water 0 = .ok (.aload_n 0, 1) := by decide +kernel
theorem dX5_water_1 : decode cX5_water 1 = .ok (.iconst 0, 1) := by decide +kernel
theorem dX5_water_2 : decode cX5_water 2 = .ok (.putfield 75, 3) := by decide +kernel
theorem dX5_water_5 : decode cX5_water 5 = .ok (.iload_n 1, 1) := by decide +kernel
theorem dX5_water_6 : decode cX5_water 6 = .ok (.ifCond .lt 11, 3) := by decide +kernel
theorem dX5_water_9 : decode cX5_water 9 = .ok (.iload_n 1, 1) := by decide +kernel
theorem dX5_water_10 : decode cX5_water 10 = .ok (.aload_n 0, 1) := by decide +kernel
theorem dX5_water_11 : decode cX5_water 11 = .ok (.getfield 7, 3) := by decide +kernel
theorem dX5_water_14 : decode cX5_water 14 = .ok (.if_icmp .lt 6, 3) := by decide +kernel
theorem dX5_water_17 : decode cX5_water 17 = .ok (.ldc 122, 2) := by decide +kernel
theorem dX5_water_19 : decode cX5_water 19 = .ok (.ireturn, 1) := by decide +kernel
theorem dX5_water_20 : decode cX5_water 20 = .ok (.aload_n 0, 1) := by decide +kernel
theorem dX5_water_21 : decode cX5_water 21 = .ok (.iload_n 1, 1) := by decide +kernel
theorem dX5_water_22 : decode cX5_water 22 = .ok (.iconst 1, 1) := by decide +kernel
theorem dX5_water_23 : decode cX5_water 23 = .ok (.iadd, 1) := by decide +kernel
theorem dX5_water_24 : decode cX5_water 24 = .ok (.aload_n 0, 1) := by decide +kernel
theorem dX5_water_25 : decode cX5_water 25 = .ok (.getfield 19, 3) := by decide +kernel
theorem dX5_water_28 : decode cX5_water 28 = .ok (.iadd, 1) := by decide +kernel
theorem dX5_water_29 : decode cX5_water 29 = .ok (.invokevirtual 134, 3) := by decide +kernel
theorem dX5_water_32 : decode cX5_water 32 = .ok (.aload_n 0, 1) := by decide +kernel
theorem dX5_water_33 : decode cX5_water 33 = .ok (.getfield 72, 3) := by decide +kernel
theorem dX5_water_36 : decode cX5_water 36 = .ok (.sipush 369, 3) := by decide +kernel
theorem dX5_water_39 : decode cX5_water 39 = .ok (.aload_n 0, 1) := by decide +kernel
theorem dX5_water_40 : decode cX5_water 40 = .ok (.getfield 78, 3) := by decide +kernel
theorem dX5_water_43 : decode cX5_water 43 = .ok (.imul, 1) := by decide +kernel
theorem dX5_water_44 : decode cX5_water 44 = .ok (.bipush 9, 2) := by decide +kernel
theorem dX5_water_46 : decode cX5_water 46 = .ok (.iload_n 1, 1) := by decide +kernel
theorem dX5_water_47 : decode cX5_water 47 = .ok (.iconst 1, 1) := by decide +kernel
theorem dX5_water_48 : decode cX5_water 48 = .ok (.iadd, 1) := by decide +kernel
theorem dX5_water_49 : decode cX5_water 49 = .ok (.imul, 1) := by decide +kernel
theorem dX5_water_50 : decode cX5_water 50 = .ok (.iadd, 1) := by decide +kernel
theorem dX5_water_51 : decode cX5_water 51 = .ok (.iconst 3, 1) := by decide +kernel
theorem dX5_water_52 : decode cX5_water 52 = .ok (.aload_n 0, 1) := by decide +kernel
theorem dX5_water_53 : decode cX5_water 53 = .ok (.getfield 63, 3) := by decide +kernel
theorem dX5_water_56 : decode cX5_water 56 = .ok (.iconst 0, 1) := by decide +kernel
theorem dX5_water_57 : decode cX5_water 57 = .ok (.iaload, 1) := by decide +kernel
theorem dX5_water_58 : decode cX5_water 58 = .ok (.imul, 1) := by decide +kernel
theorem dX5_water_59 : decode cX5_water 59 = .ok (.iadd, 1) := by decide +kernel
theorem dX5_water_60 : decode cX5_water 60 = .ok (.aload_n 0, 1) := by decide +kernel
theorem dX5_water_61 : decode cX5_water 61 = .ok (.getfield 63, 3) := by decide +kernel
theorem dX5_water_64 : decode cX5_water 64 = .ok (.iconst 1, 1) := by decide +kernel
theorem dX5_water_65 : decode cX5_water 65 = .ok (.iaload, 1) := by decide +kernel
theorem dX5_water_66 : decode cX5_water 66 = .ok (.iadd, 1) := by decide +kernel
theorem dX5_water_67 : decode cX5_water 67 = .ok (.iaload, 1) := by decide +kernel
theorem dX5_water_68 : decode cX5_water 68 = .ok (.istore_n 2, 1) := by decide +kernel
theorem dX5_water_69 : decode cX5_water 69 = .ok (.aload_n 0, 1) := by decide +kernel
theorem dX5_water_70 : decode cX5_water 70 = .ok (.iload_n 1, 1) := by decide +kernel
theorem dX5_water_71 : decode cX5_water 71 = .ok (.aload_n 0, 1) := by decide +kernel
theorem dX5_water_72 : decode cX5_water 72 = .ok (.getfield 19, 3) := by decide +kernel
theorem dX5_water_75 : decode cX5_water 75 = .ok (.iadd, 1) := by decide +kernel
theorem dX5_water_76 : decode cX5_water 76 = .ok (.invokevirtual 134, 3) := by decide +kernel
theorem dX5_water_79 : decode cX5_water 79 = .ok (.aload_n 0, 1) := by decide +kernel
theorem dX5_water_80 : decode cX5_water 80 = .ok (.getfield 72, 3) := by decide +kernel
theorem dX5_water_83 : decode cX5_water 83 = .ok (.sipush 369, 3) := by decide +kernel
theorem dX5_water_86 : decode cX5_water 86 = .ok (.aload_n 0, 1) := by decide +kernel
theorem dX5_water_87 : decode cX5_water 87 = .ok (.getfield 78, 3) := by decide +kernel
theorem dX5_water_90 : decode cX5_water 90 = .ok (.imul, 1) := by decide +kernel
theorem dX5_water_91 : decode cX5_water 91 = .ok (.bipush 9, 2) := by decide +kernel
theorem dX5_water_93 : decode cX5_water 93 = .ok (.iload_n 1, 1) := by decide +kernel
theorem dX5_water_94 : decode cX5_water 94 = .ok (.imul, 1) := by decide +kernel
theorem dX5_water_95 : decode cX5_water 95 = .ok (.iadd, 1) := by decide +kernel
theorem dX5_water_96 : decode cX5_water 96 = .ok (.iconst 3, 1) := by decide +kernel
theorem dX5_water_97 : decode cX5_water 97 = .ok (.aload_n 0, 1) := by decide +kernel
theorem dX5_water_98 : decode cX5_water 98 = .ok (.getfield 63, 3) := by decide +kernel
theorem dX5_water_101 : decode cX5_water 101 = .ok (.iconst 0, 1) := by decide +kernel
theorem dX5_water_102 : decode cX5_water 102 = .ok (.iaload, 1) := by decide +kernel
theorem dX5_water_103 : decode cX5_water 103 = .ok (.imul, 1) := by decide +kernel
theorem dX5_water_104 : decode cX5_water 104 = .ok (.iadd, 1) := by decide +kernel
theorem dX5_water_105 : decode cX5_water 105 = .ok (.aload_n 0, 1) := by decide +kernel
theorem dX5_water_106 : decode cX5_water 106 = .ok (.getfield 63, 3) := by decide +kernel
theorem dX5_water_109 : decode cX5_water 109 = .ok (.iconst 1, 1) := by decide +kernel
theorem dX5_water_110 : decode cX5_water 110 = .ok (.iaload, 1) := by decide +kernel
theorem dX5_water_111 : decode cX5_water 111 = .ok (.iadd, 1) := by decide +kernel
theorem dX5_water_112 : decode cX5_water 112 = .ok (.iaload, 1) := by decide +kernel
theorem dX5_water_113 : decode cX5_water 113 = .ok (.istore_n 3, 1) := by decide +kernel
theorem dX5_water_114 : decode cX5_water 114 = .ok (.iload_n 2, 1) := by decide +kernel
theorem dX5_water_115 : decode cX5_water 115 = .ok (.ldc 122, 2) := by decide +kernel
theorem dX5_water_117 : decode cX5_water 117 = .ok (.if_icmp .eq 9, 3) := by decide +kernel
theorem dX5_water_120 : decode cX5_water 120 = .ok (.iload_n 3, 1) := by decide +kernel
theorem dX5_water_121 : decode cX5_water 121 = .ok (.ldc 122, 2) := by decide +kernel
theorem dX5_water_123 : decode cX5_water 123 = .ok (.if_icmp .ne 8, 3) := by decide +kernel
theorem dX5_water_126 : decode cX5_water 126 = .ok (.ldc 122, 2) := by decide +kernel
theorem dX5_water_128 : decode cX5_water 128 = .ok (.goto 6, 3) := by decide +kernel
theorem dX5_water_131 : decode cX5_water 131 = .ok (.iload_n 2, 1) := by decide +kernel
theorem dX5_water_132 : decode cX5_water 132 = .ok (.iload_n 3, 1) := by decide +kernel
theorem dX5_water_133 : decode cX5_water 133 = .ok (.isub, 1) := by decide +kernel
theorem dX5_water_134 : decode cX5_water 134 = .ok (.ireturn, 1) := by decide +kernel
theorem dX5_areModes_0 : decode cX5_areModes 0 = .ok (.iload_n 0, 1) := by decide +kernel
theorem dX5_areModes_1 : decode cX5_areModes 1 = .ok (.iconst 0, 1) := by decide +kernel
theorem dX5_areModes_2 : decode cX5_areModes 2 = .ok (.iconst 2, 1) := by decide +kernel
theorem dX5_areModes_3 : decode cX5_areModes 3 = .ok (.invokestatic 81, 3) := by decide +kernel
theorem dX5_areModes_6 : decode cX5_areModes 6 = .ok (.ifCond .eq 16, 3) := by decide +kernel
theorem dX5_areModes_9 : decode cX5_areModes 9 = .ok (.iload_n 1, 1) := by decide +kernel
theorem dX5_areModes_10 : decode cX5_areModes 10 = .ok (.iconst 0, 1) := by decide +kernel
theorem dX5_areModes_11 : decode cX5_areModes 11 = .ok (.iconst 2, 1) := by decide +kernel
theorem dX5_areModes_12 : decode cX5_areModes 12 = .ok (.invokestatic 81, 3) := by decide +kernel
theorem dX5_areModes_15 : decode cX5_areModes 15 = .ok (.ifCond .eq 7, 3) := by decide +kernel
theorem dX5_areModes_18 : decode cX5_areModes 18 = .ok (.iconst 1, 1) := by decide +kernel
theorem dX5_areModes_19 : decode cX5_areModes 19 = .ok (.goto 4, 3) := by decide +kernel
theorem dX5_areModes_22 : decode cX5_areModes 22 = .ok (.iconst 0, 1) := by decide +kernel
theorem dX5_areModes_23 : decode cX5_areModes 23 = .ok (.ireturn, 1) := by decide +kernel
theorem dX5_isLegalNow_0 : decode cX5_isLegalNow 0 = .ok (.aload_n 0, 1) := by decide +kernel
theorem dX5_isLegalNow_1 : decode cX5_isLegalNow 1 = .ok (.aload_n 0, 1) := by decide +kernel
theorem dX5_isLegalNow_2 : decode cX5_isLegalNow 2 = .ok (.getfield 78, 3) := by decide +kernel
theorem dX5_isLegalNow_5 : decode cX5_isLegalNow 5 = .ok (.aload_n 0, 1) := by decide +kernel
theorem dX5_isLegalNow_6 : decode cX5_isLegalNow 6 = .ok (.getfield 16, 3) := by decide +kernel
theorem dX5_isLegalNow_9 : decode cX5_isLegalNow 9 = .ok (.aload_n 0, 1) := by decide +kernel
theorem dX5_isLegalNow_10 : decode cX5_isLegalNow 10 = .ok (.getfield 19, 3) := by decide +kernel
theorem dX5_isLegalNow_13 : decode cX5_isLegalNow 13 = .ok (.aload_n 0, 1) := by decide +kernel
theorem dX5_isLegalNow_14 : decode cX5_isLegalNow 14 = .ok (.getfield 63, 3) := by decide +kernel
theorem dX5_isLegalNow_17 : decode cX5_isLegalNow 17 = .ok (.iconst 0, 1) := by decide +kernel
theorem dX5_isLegalNow_18 : decode cX5_isLegalNow 18 = .ok (.iaload, 1) := by decide +kernel
theorem dX5_isLegalNow_19 : decode cX5_isLegalNow 19 = .ok (.aload_n 0, 1) := by decide +kernel
theorem dX5_isLegalNow_20 : decode cX5_isLegalNow 20 = .ok (.getfield 63, 3) := by decide +kernel
theorem dX5_isLegalNow_23 : decode cX5_isLegalNow 23 = .ok (.iconst 1, 1) := by decide +kernel
theorem dX5_isLegalNow_24 : decode cX5_isLegalNow 24 = .ok (.iaload, 1) := by decide +kernel
theorem dX5_isLegalNow_25 : decode cX5_isLegalNow 25 = .ok (.iload_n 1, 1) := by decide +kernel
theorem dX5_isLegalNow_26 : decode cX5_isLegalNow 26 = .ok (.iload_n 2, 1) := by decide +kernel
theorem dX5_isLegalNow_27 : decode cX5_isLegalNow 27 = .ok (.invokevirtual 123, 3) := by decide +kernel
theorem dX5_isLegalNow_30 : decode cX5_isLegalNow 30 = .ok (.ireturn, 1) := by decide +kernel
theorem dX5_legal_0 : decode cX5_legal 0 = .ok (.aload_n 0, 1) := by decide +kernel
theorem dX5_legal_1 : decode cX5_legal 1 = .ok (.iconst 0, 1) := by decide +kernel
theorem dX5_legal_2 : decode cX5_legal 2 = .ok (.putfield 75, 3) := by decide +kernel
theorem dX5_legal_5 : decode cX5_legal 5 = .ok (.iload_n 1, 1) := by decide +kernel
theorem dX5_legal_6 : decode cX5_legal 6 = .ok (.iload_n 2, 1) := by decide +kernel
theorem dX5_legal_7 : decode cX5_legal 7 = .ok (.invokestatic 149, 3) := by decide +kernel
theorem dX5_legal_10 : decode cX5_legal 10 = .ok (.ifCond .eq 12, 3) := by decide +kernel
theorem dX5_legal_13 : decode cX5_legal 13 = .ok (.aload_n 0, 1) := by decide +kernel
theorem dX5_legal_14 : decode cX5_legal 14 = .ok (.getfield 78, 3) := by decide +kernel
theorem dX5_legal_17 : decode cX5_legal 17 = .ok (.bipush 24, 2) := by decide +kernel
theorem dX5_legal_19 : decode cX5_legal 19 = .ok (.if_icmp .ne 7, 3) := by decide +kernel
theorem dX5_legal_22 : decode cX5_legal 22 = .ok (.iconst (-1), 1) := by decide +kernel
theorem dX5_legal_23 : decode cX5_legal 23 = .ok (.goto 17, 3) := by decide +kernel
theorem dX5_legal_26 : decode cX5_legal 26 = .ok (.aload_n 0, 1) := by decide +kernel
theorem dX5_legal_27 : decode cX5_legal 27 = .ok (.iload_n 1, 1) := by decide +kernel
theorem dX5_legal_28 : decode cX5_legal 28 = .ok (.iload_n 2, 1) := by decide +kernel
theorem dX5_legal_29 : decode cX5_legal 29 = .ok (.invokevirtual 153, 3) := by decide +kernel
theorem dX5_legal_32 : decode cX5_legal 32 = .ok (.ifCond .eq 7, 3) := by decide +kernel
theorem dX5_legal_35 : decode cX5_legal 35 = .ok (.iconst 1, 1) := by decide +kernel
theorem dX5_legal_36 : decode cX5_legal 36 = .ok (.goto 4, 3) := by decide +kernel
theorem dX5_legal_39 : decode cX5_legal 39 = .ok (.iconst 0, 1) := by decide +kernel
theorem dX5_legal_40 : decode cX5_legal 40 = .ok (.ireturn, 1) := by decide +kernel
theorem dX5_does_0 : decode cX5_does 0 = .ok (.aload_n 0, 1) := by decide +kernel
theorem dX5_does_1 : decode cX5_does 1 = .ok (.iload_n 3, 1) := by decide +kernel
theorem dX5_does_2 : decode cX5_does 2 = .ok (.aload_n 0, 1) := by decide +kernel
theorem dX5_does_3 : decode cX5_does 3 = .ok (.getfield 78, 3) := by decide +kernel
theorem dX5_does_6 : decode cX5_does 6 = .ok (.aload_n 0, 1) := by decide +kernel
theorem dX5_does_7 : decode cX5_does 7 = .ok (.getfield 63, 3) := by decide +kernel
theorem dX5_does_10 : decode cX5_does 10 = .ok (.iconst 0, 1) := by decide +kernel
theorem dX5_does_11 : decode cX5_does 11 = .ok (.iaload, 1) := by decide +kernel
theorem dX5_does_12 : decode cX5_does 12 = .ok (.aload_n 0, 1) := by decide +kernel
theorem dX5_does_13 : decode cX5_does 13 = .ok (.getfield 63, 3) := by decide +kernel
theorem dX5_does_16 : decode cX5_does 16 = .ok (.iconst 1, 1) := by decide +kernel
theorem dX5_does_17 : decode cX5_does 17 = .ok (.iaload, 1) := by decide +kernel
end
section
theorem dX5_does_18 : decode cX5_does 18 = .ok (.iload_n 1, 1) := by decide +kernel
theorem dX5_does_19 : decode cX5_does 19 = .ok (.iload_n 2, 1) := by decide +kernel
theorem dX5_does_20 : decode cX5_does 20 = .ok (.invokevirtual 127, 3) := by decide +kernel
theorem dX5_does_23 : decode cX5_does 23 = .ok (.istore 4, 2) := by decide +kernel
theorem dX5_does_25 : decode cX5_does 25 = .ok (.aload_n 0, 1) := by decide +kernel
theorem dX5_does_26 : decode cX5_does 26 = .ok (.iload_n 1, 1) := by decide +kernel
theorem dX5_does_27 : decode cX5_does 27 = .ok (.iload_n 2, 1) := by decide +kernel
theorem dX5_does_28 : decode cX5_does 28 = .ok (.invokevirtual 101, 3) := by decide +kernel
theorem dX5_does_31 : decode cX5_does 31 = .ok (.istore 5, 2) := by decide +kernel
theorem dX5_does_33 : decode cX5_does 33 = .ok (.aload_n 0, 1) := by decide +kernel
theorem dX5_does_34 : decode cX5_does 34 = .ok (.getfield 66, 3) := by decide +kernel
theorem dX5_does_37 : decode cX5_does 37 = .ok (.iconst 0, 1) := by decide +kernel
theorem dX5_does_38 : decode cX5_does 38 = .ok (.dup2, 1) := by decide +kernel
theorem dX5_does_39 : decode cX5_does 39 = .ok (.iaload, 1) := by decide +kernel
theorem dX5_does_40 : decode cX5_does 40 = .ok (.aload_n 0, 1) := by decide +kernel
theorem dX5_does_41 : decode cX5_does 41 = .ok (.getfield 63, 3) := by decide +kernel
theorem dX5_does_44 : decode cX5_does 44 = .ok (.iconst 0, 1) := by decide +kernel
theorem dX5_does_45 : decode cX5_does 45 = .ok (.iaload, 1) := by decide +kernel
theorem dX5_does_46 : decode cX5_does 46 = .ok (.ifCond .ne 11, 3) := by decide +kernel
theorem dX5_does_49 : decode cX5_does 49 = .ok (.iload_n 1, 1) := by decide +kernel
theorem dX5_does_50 : decode cX5_does 50 = .ok (.ifCond .eq 7, 3) := by decide +kernel
theorem dX5_does_53 : decode cX5_does 53 = .ok (.iconst 1, 1) := by decide +kernel
theorem dX5_does_54 : decode cX5_does 54 = .ok (.goto 4, 3) := by decide +kernel
theorem dX5_does_57 : decode cX5_does 57 = .ok (.iconst 0, 1) := by decide +kernel
theorem dX5_does_58 : decode cX5_does 58 = .ok (.iadd, 1) := by decide +kernel
theorem dX5_does_59 : decode cX5_does 59 = .ok (.iastore, 1) := by decide +kernel
theorem dX5_does_60 : decode cX5_does 60 = .ok (.aload_n 0, 1) := by decide +kernel
theorem dX5_does_61 : decode cX5_does 61 = .ok (.getfield 66, 3) := by decide +kernel
theorem dX5_does_64 : decode cX5_does 64 = .ok (.iconst 1, 1) := by decide +kernel
theorem dX5_does_65 : decode cX5_does 65 = .ok (.dup2, 1) := by decide +kernel
theorem dX5_does_66 : decode cX5_does 66 = .ok (.iaload, 1) := by decide +kernel
theorem dX5_does_67 : decode cX5_does 67 = .ok (.aload_n 0, 1) := by decide +kernel
theorem dX5_does_68 : decode cX5_does 68 = .ok (.getfield 63, 3) := by decide +kernel
theorem dX5_does_71 : decode cX5_does 71 = .ok (.iconst 1, 1) := by decide +kernel
theorem dX5_does_72 : decode cX5_does 72 = .ok (.iaload, 1) := by decide +kernel
theorem dX5_does_73 : decode cX5_does 73 = .ok (.ifCond .ne 11, 3) := by decide +kernel
theorem dX5_does_76 : decode cX5_does 76 = .ok (.iload_n 2, 1) := by decide +kernel
theorem dX5_does_77 : decode cX5_does 77 = .ok (.ifCond .eq 7, 3) := by decide +kernel
theorem dX5_does_80 : decode cX5_does 80 = .ok (.iconst 1, 1) := by decide +kernel
theorem dX5_does_81 : decode cX5_does 81 = .ok (.goto 4, 3) := by decide +kernel
theorem dX5_does_84 : decode cX5_does 84 = .ok (.iconst 0, 1) := by decide +kernel
theorem dX5_does_85 : decode cX5_does 85 = .ok (.iadd, 1) := by decide +kernel
theorem dX5_does_86 : decode cX5_does 86 = .ok (.iastore, 1) := by decide +kernel
theorem dX5_does_87 : decode cX5_does 87 = .ok (.aload_n 0, 1) := by decide +kernel
theorem dX5_does_88 : decode cX5_does 88 = .ok (.dup, 1) := by decide +kernel
theorem dX5_does_89 : decode cX5_does 89 = .ok (.getfield 16, 3) := by decide +kernel
theorem dX5_does_92 : decode cX5_does 92 = .ok (.aload_n 0, 1) := by decide +kernel
theorem dX5_does_93 : decode cX5_does 93 = .ok (.getfield 28, 3) := by decide +kernel
theorem dX5_does_96 : decode cX5_does 96 = .ok (.aload_n 0, 1) := by decide +kernel
theorem dX5_does_97 : decode cX5_does 97 = .ok (.getfield 78, 3) := by decide +kernel
theorem dX5_does_100 : decode cX5_does 100 = .ok (.iaload, 1) := by decide +kernel
theorem dX5_does_101 : decode cX5_does 101 = .ok (.iload 5, 2) := by decide +kernel
theorem dX5_does_103 : decode cX5_does 103 = .ok (.isub, 1) := by decide +kernel
theorem dX5_does_104 : decode cX5_does 104 = .ok (.iadd, 1) := by decide +kernel
theorem dX5_does_105 : decode cX5_does 105 = .ok (.putfield 16, 3) := by decide +kernel
theorem dX5_does_108 : decode cX5_does 108 = .ok (.aload_n 0, 1) := by decide +kernel
theorem dX5_does_109 : decode cX5_does 109 = .ok (.dup, 1) := by decide +kernel
theorem dX5_does_110 : decode cX5_does 110 = .ok (.getfield 19, 3) := by decide +kernel
theorem dX5_does_113 : decode cX5_does 113 = .ok (.iload 5, 2) := by decide +kernel
theorem dX5_does_115 : decode cX5_does 115 = .ok (.aload_n 0, 1) := by decide +kernel
theorem dX5_does_116 : decode cX5_does 116 = .ok (.getfield 32, 3) := by decide +kernel
theorem dX5_does_119 : decode cX5_does 119 = .ok (.aload_n 0, 1) := by decide +kernel
theorem dX5_does_120 : decode cX5_does 120 = .ok (.getfield 78, 3) := by decide +kernel
theorem dX5_does_123 : decode cX5_does 123 = .ok (.iaload, 1) := by decide +kernel
theorem dX5_does_124 : decode cX5_does 124 = .ok (.isub, 1) := by decide +kernel
theorem dX5_does_125 : decode cX5_does 125 = .ok (.iadd, 1) := by decide +kernel
theorem dX5_does_126 : decode cX5_does 126 = .ok (.putfield 19, 3) := by decide +kernel
theorem dX5_does_129 : decode cX5_does 129 = .ok (.aload_n 0, 1) := by decide +kernel
theorem dX5_does_130 : decode cX5_does 130 = .ok (.getfield 63, 3) := by decide +kernel
theorem dX5_does_133 : decode cX5_does 133 = .ok (.iconst 0, 1) := by decide +kernel
theorem dX5_does_134 : decode cX5_does 134 = .ok (.iload_n 1, 1) := by decide +kernel
theorem dX5_does_135 : decode cX5_does 135 = .ok (.iastore, 1) := by decide +kernel
theorem dX5_does_136 : decode cX5_does 136 = .ok (.aload_n 0, 1) := by decide +kernel
theorem dX5_does_137 : decode cX5_does 137 = .ok (.getfield 63, 3) := by decide +kernel
theorem dX5_does_140 : decode cX5_does 140 = .ok (.iconst 1, 1) := by decide +kernel
theorem dX5_does_141 : decode cX5_does 141 = .ok (.iload_n 2, 1) := by decide +kernel
theorem dX5_does_142 : decode cX5_does 142 = .ok (.iastore, 1) := by decide +kernel
theorem dX5_does_143 : decode cX5_does 143 = .ok (.aload_n 0, 1) := by decide +kernel
theorem dX5_does_144 : decode cX5_does 144 = .ok (.dup, 1) := by decide +kernel
theorem dX5_does_145 : decode cX5_does 145 = .ok (.getfield 156, 3) := by decide +kernel
theorem dX5_does_148 : decode cX5_does 148 = .ok (.iload 4, 2) := by decide +kernel
theorem dX5_does_150 : decode cX5_does 150 = .ok (.iadd, 1) := by decide +kernel
theorem dX5_does_151 : decode cX5_does 151 = .ok (.putfield 156, 3) := by decide +kernel
theorem dX5_does_154 : decode cX5_does 154 = .ok (.aload_n 0, 1) := by decide +kernel
theorem dX5_does_155 : decode cX5_does 155 = .ok (.dup, 1) := by decide +kernel
theorem dX5_does_156 : decode cX5_does 156 = .ok (.getfield 78, 3) := by decide +kernel
theorem dX5_does_159 : decode cX5_does 159 = .ok (.iconst 1, 1) := by decide +kernel
theorem dX5_does_160 : decode cX5_does 160 = .ok (.iadd, 1) := by decide +kernel
theorem dX5_does_161 : decode cX5_does 161 = .ok (.putfield 78, 3) := by decide +kernel
theorem dX5_does_164 : decode cX5_does 164 = .ok (.iload 4, 2) := by decide +kernel
theorem dX5_does_166 : decode cX5_does 166 = .ok (.ireturn, 1) := by decide +kernel
theorem dX5_done_0 : decode cX5_done 0 = .ok (.aload_n 0, 1) := by decide +kernel
theorem dX5_done_1 : decode cX5_done 1 = .ok (.iload_n 1, 1) := by decide +kernel
theorem dX5_done_2 : decode cX5_done 2 = .ok (.iload_n 2, 1) := by decide +kernel
theorem dX5_done_3 : decode cX5_done 3 = .ok (.invokestatic 149, 3) := by decide +kernel
theorem dX5_done_6 : decode cX5_done 6 = .ok (.ifCond .eq 28, 3) := by decide +kernel
theorem dX5_done_9 : decode cX5_done 9 = .ok (.iload_n 3, 1) := by decide +kernel
theorem dX5_done_10 : decode cX5_done 10 = .ok (.invokestatic 89, 3) := by decide +kernel
theorem dX5_done_13 : decode cX5_done 13 = .ok (.ifCond .eq 21, 3) := by decide +kernel
theorem dX5_done_16 : decode cX5_done 16 = .ok (.aload_n 0, 1) := by decide +kernel
theorem dX5_done_17 : decode cX5_done 17 = .ok (.getfield 78, 3) := by decide +kernel
theorem dX5_done_20 : decode cX5_done 20 = .ok (.bipush 24, 2) := by decide +kernel
theorem dX5_done_22 : decode cX5_done 22 = .ok (.if_icmp .eq 12, 3) := by decide +kernel
theorem dX5_done_25 : decode cX5_done 25 = .ok (.aload_n 0, 1) := by decide +kernel
theorem dX5_done_26 : decode cX5_done 26 = .ok (.iload_n 1, 1) := by decide +kernel
theorem dX5_done_27 : decode cX5_done 27 = .ok (.iload_n 2, 1) := by decide +kernel
theorem dX5_done_28 : decode cX5_done 28 = .ok (.invokevirtual 153, 3) := by decide +kernel
theorem dX5_done_31 : decode cX5_done 31 = .ok (.ifCond .ne 7, 3) := by decide +kernel
theorem dX5_done_34 : decode cX5_done 34 = .ok (.iconst 1, 1) := by decide +kernel
theorem dX5_done_35 : decode cX5_done 35 = .ok (.goto 4, 3) := by decide +kernel
theorem dX5_done_38 : decode cX5_done 38 = .ok (.iconst 0, 1) := by decide +kernel
theorem dX5_done_39 : decode cX5_done 39 = .ok (.putfield 75, 3) := by decide +kernel
theorem dX5_done_42 : decode cX5_done 42 = .ok (.aload_n 0, 1) := by decide +kernel
theorem dX5_done_43 : decode cX5_done 43 = .ok (.getfield 75, 3) := by decide +kernel
theorem dX5_done_46 : decode cX5_done 46 = .ok (.ifCond .le 7, 3) := by decide +kernel
theorem dX5_done_49 : decode cX5_done 49 = .ok (.iconst 0, 1) := by decide +kernel
theorem dX5_done_50 : decode cX5_done 50 = .ok (.goto 10, 3) := by decide +kernel
theorem dX5_done_53 : decode cX5_done 53 = .ok (.aload_n 0, 1) := by decide +kernel
theorem dX5_done_54 : decode cX5_done 54 = .ok (.iload_n 1, 1) := by decide +kernel
theorem dX5_done_55 : decode cX5_done 55 = .ok (.iload_n 2, 1) := by decide +kernel
theorem dX5_done_56 : decode cX5_done 56 = .ok (.iload_n 3, 1) := by decide +kernel
theorem dX5_done_57 : decode cX5_done 57 = .ok (.invokevirtual 159, 3) := by decide +kernel
theorem dX5_done_60 : decode cX5_done 60 = .ok (.ireturn, 1) := by decide +kernel
theorem dX5_runs_0 : decode cX5_runs 0 = .ok (.aload_n 0, 1) := by decide +kernel
theorem dX5_runs_1 : decode cX5_runs 1 = .ok (.iconst 0, 1) := by decide +kernel
theorem dX5_runs_2 : decode cX5_runs 2 = .ok (.putfield 75, 3) := by decide +kernel
theorem dX5_runs_5 : decode cX5_runs 5 = .ok (.iload_n 2, 1) := by decide +kernel
theorem dX5_runs_6 : decode cX5_runs 6 = .ok (.invokestatic 89, 3) := by decide +kernel
theorem dX5_runs_9 : decode cX5_runs 9 = .ok (.ifCond .eq 13, 3) := by decide +kernel
theorem dX5_runs_12 : decode cX5_runs 12 = .ok (.iload_n 1, 1) := by decide +kernel
theorem dX5_runs_13 : decode cX5_runs 13 = .ok (.iconst 0, 1) := by decide +kernel
theorem dX5_runs_14 : decode cX5_runs 14 = .ok (.bipush 24, 2) := by decide +kernel
theorem dX5_runs_16 : decode cX5_runs 16 = .ok (.invokestatic 81, 3) := by decide +kernel
theorem dX5_runs_19 : decode cX5_runs 19 = .ok (.ifCond .ne 5, 3) := by decide +kernel
theorem dX5_runs_22 : decode cX5_runs 22 = .ok (.iconst (-1), 1) := by decide +kernel
theorem dX5_runs_23 : decode cX5_runs 23 = .ok (.ireturn, 1) := by decide +kernel
theorem dX5_runs_24 : decode cX5_runs 24 = .ok (.iconst 0, 1) := by decide +kernel
theorem dX5_runs_25 : decode cX5_runs 25 = .ok (.istore_n 3, 1) := by decide +kernel
theorem dX5_runs_26 : decode cX5_runs 26 = .ok (.aload_n 0, 1) := by decide +kernel
theorem dX5_runs_27 : decode cX5_runs 27 = .ok (.getfield 78, 3) := by decide +kernel
theorem dX5_runs_30 : decode cX5_runs 30 = .ok (.bipush 24, 2) := by decide +kernel
theorem dX5_runs_32 : decode cX5_runs 32 = .ok (.if_icmp .ge 15, 3) := by decide +kernel
theorem dX5_runs_35 : decode cX5_runs 35 = .ok (.iload_n 1, 1) := by decide +kernel
theorem dX5_runs_36 : decode cX5_runs 36 = .ok (.ifCond .le 11, 3) := by decide +kernel
theorem dX5_runs_39 : decode cX5_runs 39 = .ok (.aload_n 0, 1) := by decide +kernel
theorem dX5_runs_40 : decode cX5_runs 40 = .ok (.iload_n 2, 1) := by decide +kernel
theorem dX5_runs_41 : decode cX5_runs 41 = .ok (.invokevirtual 145, 3) := by decide +kernel
theorem dX5_runs_44 : decode cX5_runs 44 = .ok (.goto 4, 3) := by decide +kernel
theorem dX5_runs_47 : decode cX5_runs 47 = .ok (.iconst (-1), 1) := by decide +kernel
theorem dX5_runs_48 : decode cX5_runs 48 = .ok (.istore 4, 2) := by decide +kernel
theorem dX5_runs_50 : decode cX5_runs 50 = .ok (.iload 4, 2) := by decide +kernel
theorem dX5_runs_52 : decode cX5_runs 52 = .ok (.ifCond .lt 49, 3) := by decide +kernel
theorem dX5_runs_55 : decode cX5_runs 55 = .ok (.aload_n 0, 1) := by decide +kernel
theorem dX5_runs_56 : decode cX5_runs 56 = .ok (.iload 4, 2) := by decide +kernel
theorem dX5_runs_58 : decode cX5_runs 58 = .ok (.iconst 3, 1) := by decide +kernel
theorem dX5_runs_59 : decode cX5_runs 59 = .ok (.idiv, 1) := by decide +kernel
theorem dX5_runs_60 : decode cX5_runs 60 = .ok (.iload 4, 2) := by decide +kernel
theorem dX5_runs_62 : decode cX5_runs 62 = .ok (.iconst 3, 1) := by decide +kernel
theorem dX5_runs_63 : decode cX5_runs 63 = .ok (.irem, 1) := by decide +kernel
theorem dX5_runs_64 : decode cX5_runs 64 = .ok (.iload_n 2, 1) := by decide +kernel
theorem dX5_runs_65 : decode cX5_runs 65 = .ok (.invokevirtual 159, 3) := by decide +kernel
theorem dX5_runs_68 : decode cX5_runs 68 = .ok (.istore 5, 2) := by decide +kernel
theorem dX5_runs_70 : decode cX5_runs 70 = .ok (.iinc 3 1, 3) := by decide +kernel
theorem dX5_runs_73 : decode cX5_runs 73 = .ok (.aload_n 0, 1) := by decide +kernel
theorem dX5_runs_74 : decode cX5_runs 74 = .ok (.getfield 78, 3) := by decide +kernel
theorem dX5_runs_77 : decode cX5_runs 77 = .ok (.bipush 24, 2) := by decide +kernel
theorem dX5_runs_79 : decode cX5_runs 79 = .ok (.if_icmp .ge 16, 3) := by decide +kernel
theorem dX5_runs_82 : decode cX5_runs 82 = .ok (.iload_n 3, 1) := by decide +kernel
theorem dX5_runs_83 : decode cX5_runs 83 = .ok (.iload_n 1, 1) := by decide +kernel
theorem dX5_runs_84 : decode cX5_runs 84 = .ok (.if_icmp .ge 11, 3) := by decide +kernel
theorem dX5_runs_87 : decode cX5_runs 87 = .ok (.aload_n 0, 1) := by decide +kernel
theorem dX5_runs_88 : decode cX5_runs 88 = .ok (.iload_n 2, 1) := by decide +kernel
theorem dX5_runs_89 : decode cX5_runs 89 = .ok (.invokevirtual 145, 3) := by decide +kernel
theorem dX5_runs_92 : decode cX5_runs 92 = .ok (.goto 4, 3) := by decide +kernel
theorem dX5_runs_95 : decode cX5_runs 95 = .ok (.iconst (-1), 1) := by decide +kernel
theorem dX5_runs_96 : decode cX5_runs 96 = .ok (.istore 4, 2) := by decide +kernel
theorem dX5_runs_98 : decode cX5_runs 98 = .ok (.goto (-48), 3) := by decide +kernel
theorem dX5_runs_101 : decode cX5_runs 101 = .ok (.iload_n 3, 1) := by decide +kernel
theorem dX5_runs_102 : decode cX5_runs 102 = .ok (.ireturn, 1) := by decide +kernel
theorem dX5_count_0 : decode cX5_count 0 = .ok (.aload_n 0, 1) := by decide +kernel
theorem dX5_count_1 : decode cX5_count 1 = .ok (.iconst 0, 1) := by decide +kernel
theorem dX5_count_2 : decode cX5_count 2 = .ok (.putfield 75, 3) := by decide +kernel
theorem dX5_count_5 : decode cX5_count 5 = .ok (.iload_n 1, 1) := by decide +kernel
theorem dX5_count_6 : decode cX5_count 6 = .ok (.tableswitch 103 0 8 #[50, 55, 60, 65, 72, 79, 84, 91, 98], 50) := by decide +kernel
theorem dX5_count_56 : decode cX5_count 56 = .ok (.aload_n 0, 1) := by decide +kernel
theorem dX5_count_57 : decode cX5_count 57 = .ok (.getfield 78, 3) := by decide +kernel
theorem dX5_count_60 : decode cX5_count 60 = .ok (.ireturn, 1) := by decide +kernel
theorem dX5_count_61 : decode cX5_count 61 = .ok (.aload_n 0, 1) := by decide +kernel
theorem dX5_count_62 : decode cX5_count 62 = .ok (.getfield 16, 3) := by decide +kernel
theorem dX5_count_65 : decode cX5_count 65 = .ok (.ireturn, 1) := by decide +kernel
theorem dX5_count_66 : decode cX5_count 66 = .ok (.aload_n 0, 1) := by decide +kernel
theorem dX5_count_67 : decode cX5_count 67 = .ok (.getfield 19, 3) := by decide +kernel
theorem dX5_count_70 : decode cX5_count 70 = .ok (.ireturn, 1) := by decide +kernel
theorem dX5_count_71 : decode cX5_count 71 = .ok (.aload_n 0, 1) := by decide +kernel
theorem dX5_count_72 : decode cX5_count 72 = .ok (.getfield 63, 3) := by decide +kernel
theorem dX5_count_75 : decode cX5_count 75 = .ok (.iconst 0, 1) := by decide +kernel
theorem dX5_count_76 : decode cX5_count 76 = .ok (.iaload, 1) := by decide +kernel
theorem dX5_count_77 : decode cX5_count 77 = .ok (.ireturn, 1) := by decide +kernel
theorem dX5_count_78 : decode cX5_count 78 = .ok (.aload_n 0, 1) := by decide +kernel
theorem dX5_count_79 : decode cX5_count 79 = .ok (.getfield 63, 3) := by decide +kernel
theorem dX5_count_82 : decode cX5_count 82 = .ok (.iconst 1, 1) := by decide +kernel
theorem dX5_count_83 : decode cX5_count 83 = .ok (.iaload, 1) := by decide +kernel
theorem dX5_count_84 : decode cX5_count 84 = .ok (.ireturn, 1) := by decide +kernel
theorem dX5_count_85 : decode cX5_count 85 = .ok (.aload_n 0, 1) := by decide +kernel
theorem dX5_count_86 : decode cX5_count 86 = .ok (.getfield 156, 3) := by decide +kernel
theorem dX5_count_89 : decode cX5_count 89 = .ok (.ireturn, 1) := by decide +kernel
theorem dX5_count_90 : decode cX5_count 90 = .ok (.aload_n 0, 1) := by decide +kernel
theorem dX5_count_91 : decode cX5_count 91 = .ok (.getfield 66, 3) := by decide +kernel
theorem dX5_count_94 : decode cX5_count 94 = .ok (.iconst 0, 1) := by decide +kernel
theorem dX5_count_95 : decode cX5_count 95 = .ok (.iaload, 1) := by decide +kernel
theorem dX5_count_96 : decode cX5_count 96 = .ok (.ireturn, 1) := by decide +kernel
theorem dX5_count_97 : decode cX5_count 97 = .ok (.aload_n 0, 1) := by decide +kernel
theorem dX5_count_98 : decode cX5_count 98 = .ok (.getfield 66, 3) := by decide +kernel
theorem dX5_count_101 : decode cX5_count 101 = .ok (.iconst 1, 1) := by decide +kernel
theorem dX5_count_102 : decode cX5_count 102 = .ok (.iaload, 1) := by decide +kernel
theorem dX5_count_103 : decode cX5_count 103 = .ok (.ireturn, 1) := by decide +kernel
theorem dX5_count_104 : decode cX5_count 104 = .ok (.aload_n 0, 1) := by decide +kernel
theorem dX5_count_105 : decode cX5_count 105 = .ok (.getfield 92, 3) := by decide +kernel
theorem dX5_count_108 : decode cX5_count 108 = .ok (.ireturn, 1) := by decide +kernel
theorem dX5_count_109 : decode cX5_count 109 = .ok (.iconst (-1), 1) := by decide +kernel
theorem dX5_count_110 : decode cX5_count 110 = .ok (.ireturn, 1) := by decide +kernel
end
section
/-- the links between nest mates that the class uses, fields then methods -/
def nestF : List (String × Nat × String × String × String) := [(RX4, 80, RX1, "upperRoom", "I"), (RX4, 83, RX1, "lowerRoom", "I"), (RX4, 96, RX1, "upperSpeed", "I"), (RX0, 96, RX1, "upperSpeed", "I"), (RX4, 99, RX1, "lowerSpeed", "I"), (RX0, 100, RX1, "lowerSpeed", "I"), (RX4, 86, RX1, "upper", "I"), (RX4, 89, RX1, "lower", "I"), (RX0, 45, RX1, "inflow", "[I"), (RX4, 106, RX1, "inflow", "[I"), (RX0, 50, RX1, "outflow", "[I"), (RX4, 109, RX1, "outflow", "[I"), (RX0, 106, RX1, "promised", "[I"), (RX4, 141, RX1, "promised", "[I"), (RX4, 122, RX2, "down", "I"), (RX4, 125, RX2, "gives", "I"), (RX4, 128, RX2, "lifts", "I"), (RX4, 131, RX2, "takes", "I"), (RX4, 134, RX2, "startCost", "I"), (RX0, 118, RX2, "startCost", "I"), (RX4, 177, RX2, "mode", "I"), (RX4, 180, RX2, "starts", "I"), (RX4, 137, RX2, "isOut", "[Z"), (RX3, 39, RX0, "energy", "[I"), (RX4, 197, RX0, "energy", "[I"), (RX3, 51, RX0, "upperShift", "[I"), (RX4, 200, RX0, "upperShift", "[I"), (RX4, 203, RX0, "lowerShift", "[I"), (RX3, 57, RX0, "lowest", "[I"), (RX3, 54, RX0, "highest", "[I"), (RX3, 44, RX0, "startCosts", "[I"), (RX4, 147, RX3, "prices", "[I"), (RX4, 240, RX3, "startScale", "I"), (RX4, 213, RX3, "values", "[I"), (RX4, 222, RX3, "choices", "[I")]
def nestM : List (String × Nat × MethodName) := [(RX4, 9, yX1_init), (RX4, 18, yX2_init), (RX4, 28, yX0_init), (RX4, 41, yX3_init), (RX4, 183, yX0_lookAt), (RX0, 82, yX2_letDown), (RX0, 87, yX2_energyOf), (RX0, 90, yX2_canBe), (RX0, 103, yX2_backup), (RX0, 63, yX1_leastUpper), (RX0, 109, yX2_unitsForBackup), (RX0, 76, yX1_mostUpper), (RX4, 191, yX0_startCost), (RX0, 112, yX2_canFollow), (RX0, 115, yX2_isStart), (RX4, 193, yX0_isOpen), (RX4, 216, yX0_foresee), (RX4, 232, yX3_endWith), (RX4, 228, yX3_plan), (RX4, 243, yX3_mixIn), (RX4, 206, yX2_turnTo)]
/-- where all classes and array classes are: class ids and field slots, then the array classes (0 int, 1 boolean, 2 Outlook, 3 long) -/
abbrev GG : Type := va_G × (Nat → ClassId)
abbrev T4 (E : GG) : List (ClassId × FieldType) := [(E.2 0, .int), (E.2 1, .boolean), (E.2 2, .object "TwoLakes$Outlook"), (E.2 3, .long)]
def CN (U : State) : Prop := (∀ q ∈ nestF, va_Nw (.fieldLinkNest q.1 q.2.1 q.2.2.1 q.2.2.2.1 q.2.2.2.2 "TwoLakes") U) ∧ (∀ q ∈ nestM, va_Nw (.methodLinkNest q.1 q.2.1 q.2.2 "TwoLakes") U)
def CK (E : GG) (U : State) : Prop := va_K E.1 vwCl (T4 E) U ∧ CN U
theorem CN.warm {s U : State} (hW : s.WarmedH U.vm) (h : CN s) : CN U := ⟨fun q hq => va_Nw.warmF hW (h.1 q hq), fun q hq => va_Nw.warmM hW (h.2 q hq)⟩
theorem CN.same {u U : State} (hv : u.vm = U.vm) (h : CN u) : CN U := ⟨fun q hq => va_Nw.same rfl hv (h.1 q hq), fun q hq => va_Nw.same rfl hv (h.2 q hq)⟩
theorem CK.warm {E : GG} {s U : State} (hW : s.WarmedH U.vm) (h : CK E s) : CK E U := ⟨va_K.moved hW.alike h.1, CN.warm hW h.2⟩
theorem CK.calling {E : GG} {U : State} {g : JFrame} {mk : MethodId} {a : Array Value} (h : CK E U) : CK E (U.calling g mk a) := ⟨va_K.moved (u := U) (U := U.calling g mk a) (Vm.Alike.refl U.vm) h.1, CN.same rfl h.2⟩
/-- a start that only reads; a start that may write -/
def pR (E : GG) (av : List Value) (ws : va_W) : Array Value → State → Prop := va_Pc av (fun U => va_P E.1 vwCl ws U.heap ∧ CK E U)
def pM (E : GG) (av : List Value) (ws : va_W) (sz : Nat) : Array Value → State → Prop := va_Pc av (fun U => U.heap.size = sz ∧ va_P E.1 vwCl ws U.heap ∧ CK E U ∧ va_D (fun _ => True) ws)
def bM {S : Type} (E : GG) (A : Nat → Prop) (ws : S → va_W) : S → State → Prop := fun u t => va_P E.1 vwCl (ws u) t.heap ∧ va_D A (ws u)
abbrev Rm (k mc ms : Nat) : Room := { frames := k, cells := mc, slots := ms, locals := 40 * k }
theorem pR.blind {E : GG} {av : List Value} {ws : va_W} : FrameBlind (pR E av ws) := fun _ _ _ _ q => ⟨q.1, q.2.1, q.2.2.calling⟩
theorem pM.blind {E : GG} {av : List Value} {ws : va_W} {sz : Nat} : FrameBlind (pM E av ws sz) := fun _ _ _ _ q => ⟨q.1, q.2.1, q.2.2.1, q.2.2.2.1.calling, q.2.2.2.2⟩
section BASE
variable {p : Program} {l : Launch} {e : Env} {R : Room} {s : State} {m : MethodId} {args : Array Value} {below : List Frame} {meth : Method} {c : Code} {H : Heap} {locs : List Loc} {cells slots : Nat} {Q : State → Prop}
variable {cc : ByteArray} {pc : Nat} {ls : Array Slot} {rest : List Value}
theorem w_top {x y : Int32} (h : x = y) (k : W p l e R s m args below meth c H locs cells slots Q (F0 m pc ls (.int y :: rest))) : W p l e R s m args below meth c H locs cells slots Q (F0 m pc ls (.int x :: rest)) := by rw [h]; exact k
theorem w_join {α : Type} (P : α → Prop) (g : α → JFrame) {g0 : JFrame} (hJ : ∀ x, P x → W p l e R s m args below meth c H locs cells slots Q (g x)) (k : (∀ x, P x → W p l e R s m args below meth c H locs cells slots Q (g x)) → W p l e R s m args below meth c H locs cells slots Q g0) : W p l e R s m args below meth c H locs cells slots Q g0 := k hJ
theorem w_joinH {α : Type} (P : α → Prop) (hp : α → Heap) (lc : α → List Loc) (g : α → JFrame) {g0 : JFrame} (hJ : ∀ x, P x → W p l e R s m args below meth c (hp x) (lc x) cells slots Q (g x)) (k : (∀ x, P x → W p l e R s m args below meth c (hp x) (lc x) cells slots Q (g x)) → W p l e R s m args below meth c H locs cells slots Q g0) : W p l e R s m args below meth c H locs cells slots Q g0 := k hJ
theorem w_while {σ : Type} (μ : σ → Nat) (I : σ → Prop) (hp : σ → Heap) (lc : σ → List Loc) (g : σ → JFrame)
    (step : ∀ x, I x → (∀ y, I y → μ y < μ x → W p l e R s m args below meth c (hp y) (lc y) cells slots Q (g y)) → W p l e R s m args below meth c (hp x) (lc x) cells slots Q (g x)) (x0 : σ) (h0 : I x0) : W p l e R s m args below meth c (hp x0) (lc x0) cells slots Q (g x0) := by
  have K : ∀ (n : Nat) (x : σ), μ x < n → I x → W p l e R s m args below meth c (hp x) (lc x) cells slots Q (g x) := by
    intro n
    induction n with
    | zero => intro x h; exact absurd h (Nat.not_lt_zero _)
    | succ n ih => intro x h hI; exact step x hI (fun y hy hm => ih y (by omega) hy)
  exact K (μ x0 + 1) x0 (Nat.lt_succ_self _) h0
variable {D : va_G} {cl : List vw_C} {tys : List (ClassId × FieldType)} {ws : va_W} {a : Nat} {A : Nat → Prop} {H0 : Heap}
theorem n_iald (hexec : p.tables.exec = Jvm.exec) (hb : c.code = cc) (hK : va_K D cl tys s) (hP : va_P D cl ws H) (q0 t0 : Nat) {cA : ClassId} {n : Nat} {f : Nat → Int32} (ha : ws[q0]? = some (a, .inl (cA, n, .inl f))) (ht : tys[t0]? = some (cA, .int)) {i : Nat} (hin : i < n) (hn : n < 2 ^ 31) (hdg : decode cc pc = .ok (.iaload, 1))
    (kk : W p l e R s m args below meth c H locs cells slots Q (F0 m (pc + 1) ls (.int (f i) :: rest))) : W p l e R s m args below meth c H locs cells slots Q (F0 m pc ls (.int (nI i) :: .ref a :: rest)) := by
  refine va_iald hexec hb hK hP q0 t0 ha ht (vp_in_nI hin hn) hdg ?_
  rw [nI_clamp (Nat.lt_trans hin hn)]
  exact kk
theorem n_zald (hexec : p.tables.exec = Jvm.exec) (hb : c.code = cc) (hK : va_K D cl tys s) (hP : va_P D cl ws H) (q0 t0 : Nat) {cA : ClassId} {n : Nat} {f : Nat → Int32} (ha : ws[q0]? = some (a, .inl (cA, n, .inl f))) (ht : tys[t0]? = some (cA, .boolean)) {i : Nat} (hin : i < n) (hn : n < 2 ^ 31) (hdg : decode cc pc = .ok (.baload, 1))
    (kk : W p l e R s m args below meth c H locs cells slots Q (F0 m (pc + 1) ls (.int (f i) :: rest))) : W p l e R s m args below meth c H locs cells slots Q (F0 m pc ls (.int (nI i) :: .ref a :: rest)) := by
  refine va_zald hexec hb hK hP q0 t0 ha ht (vp_in_nI hin hn) hdg ?_
  rw [nI_clamp (Nat.lt_trans hin hn)]
  exact kk
theorem n_iast (hexec : p.tables.exec = Jvm.exec) (hb : c.code = cc) (hK : va_K D cl tys s) (hP : va_P D cl ws H) (hD : va_D A ws) (hS : va_S A H0 H locs) (q0 t0 : Nat) {cA : ClassId} {n : Nat} {f : Nat → Int32} (ha : ws[q0]? = some (a, .inl (cA, n, .inl f))) (ht : tys[t0]? = some (cA, .int)) {i : Nat} {x : Int32} (hin : i < n) (hn : n < 2 ^ 31) (hdg : decode cc pc = .ok (.iastore, 1))
    (kk : ∀ (H1 : Heap) (locs1 : List Loc), va_P D cl (ws.set q0 (a, .inl (cA, n, .inl (upd f i x)))) H1 → va_D A (ws.set q0 (a, .inl (cA, n, .inl (upd f i x)))) → va_S A H0 H1 locs1 → W p l e R s m args below meth c H1 locs1 cells slots Q (F0 m (pc + 1) ls rest)) : W p l e R s m args below meth c H locs cells slots Q (F0 m pc ls (.int x :: .int (nI i) :: .ref a :: rest)) := by
  refine va_iast hexec hb hK hP hD hS q0 t0 ha ht (vp_in_nI hin hn) hdg ?_
  rw [nI_clamp (Nat.lt_trans hin hn)]
  exact kk
theorem n_zast (hexec : p.tables.exec = Jvm.exec) (hb : c.code = cc) (hK : va_K D cl tys s) (hP : va_P D cl ws H) (hD : va_D A ws) (hS : va_S A H0 H locs) (q0 t0 : Nat) {cA : ClassId} {n : Nat} {f : Nat → Int32} (ha : ws[q0]? = some (a, .inl (cA, n, .inl f))) (ht : tys[t0]? = some (cA, .boolean)) {i : Nat} {x : Int32} (hin : i < n) (hn : n < 2 ^ 31) (hx : vp_nar .boolean x = x) (hdg : decode cc pc = .ok (.bastore, 1))
    (kk : ∀ (H1 : Heap) (locs1 : List Loc), va_P D cl (ws.set q0 (a, .inl (cA, n, .inl (upd f i x)))) H1 → va_D A (ws.set q0 (a, .inl (cA, n, .inl (upd f i x)))) → va_S A H0 H1 locs1 → W p l e R s m args below meth c H1 locs1 cells slots Q (F0 m (pc + 1) ls rest)) : W p l e R s m args below meth c H locs cells slots Q (F0 m pc ls (.int x :: .int (nI i) :: .ref a :: rest)) := by
  refine va_zast hexec hb hK hP hD hS q0 t0 ha ht (vp_in_nI hin hn) hdg ?_
  rw [nI_clamp (Nat.lt_trans hin hn), hx]
  exact kk
/-- the end of a method that only reads -/
theorem r_ret {v r : Int32} {F : Addr → Prop} {args : Array Value} (hx : p.tables.exec = Jvm.exec) (hb : c.code = cc) (hr : meth.sig.returnType = some .int) (hlocks : meth.locks = false) (h : v = r) (hdg : decode cc pc = .ok (.ireturn, 1)) : W p l e R s m args below meth c s.heap [] 0 0 (MQ below (QcRead r) args s 0 0 F) (F0 m pc ls [.int v]) :=
  W.iret hx hb hr (fun _ ht _ => ⟨by rw [h], ht⟩) (fun _ hq => absurd hq List.not_mem_nil) hdg hlocks
theorem z_ret {v r : Int32} {F : Addr → Prop} {args : Array Value} (hx : p.tables.exec = Jvm.exec) (hb : c.code = cc) (hr : meth.sig.returnType = some .boolean) (hlocks : meth.locks = false) (hn : narrow .boolean (.int v) = .int v) (h : v = r) (hdg : decode cc pc = .ok (.ireturn, 1)) : W p l e R s m args below meth c s.heap [] 0 0 (MQ below (QcRead r) args s 0 0 F) (F0 m pc ls [.int v]) :=
  W.zret hx hb hr hn (fun _ ht _ => ⟨by rw [h], ht⟩) (fun _ hq => absurd hq List.not_mem_nil) hdg hlocks
end BASE
/-- a method that only reads, out of its walk -/
theorem ofR {l : Launch} {E : GG} {y : MethodName} {ws ws' : List Cond} {rm : Room} {w : va_W} {cc : ByteArray} {maxL : Nat} {ret : Option FieldType} {av : List Value} {r : Int32} (hy : plainName y.cls = true) (hw : ws = Cond.code y cc maxL ret :: ws') (hlen : (lg_sl av).length ≤ maxL)
    (body : ∀ (p : Program) (e : Env) (s : State) (m : MethodId) (below : List Frame) (meth : Method) (c : Code), p.tables.exec = Jvm.exec → c.code = cc → meth.sig.returnType = ret → meth.locks = false → c.maxLocals = maxL → s.vm.findClass y.cls = some m.cls → (∀ w ∈ ws, w.before av.toArray s = true) → CK E s → va_P E.1 vwCl w s.heap → ∀ ls : Array Slot, lv_has ls maxL (lv_args 0 av) →
      W p l e rm s m av.toArray below meth c s.heap [] 0 0 (MQ below (QcRead r) av.toArray s 0 0 (fun _ => False)) (F0 m 0 ls [])) : Met l y ws rm (pR E av w) (QcRead r) 0 0 (fun _ => False) := by
  refine Met.ofW (cc := cc) (maxL := maxL) (ret := ret) hy hw ?_
  intro p e s m args below meth c s₁ B hml hv
  obtain ⟨rfl, hP, hK⟩ := hv
  have hl := lv_entry av (n := maxL) hlen
  rw [lg_entry_eq]
  exact body p e s m below meth c B.exec B.bytes B.returns B.notSynchronized hml (findClass_of_methodNamed B.named) (atoms_spec (ws := ws) B.pre) hK hP _ hl
/-- a method that may write, out of its walk -/
theorem ofM {l : Launch} {E : GG} {y : MethodName} {ws ws' : List Cond} {rm : Room} {w : va_W} {sz : Nat} {cc : ByteArray} {maxL : Nat} {ret : Option FieldType} {av : List Value} {Qc : Array Value → State → Outcome → State → Prop} {mc ms : Nat} (hy : plainName y.cls = true) (hw : ws = Cond.code y cc maxL ret :: ws') (hlen : (lg_sl av).length ≤ maxL)
    (body : ∀ (p : Program) (e : Env) (s : State) (m : MethodId) (below : List Frame) (meth : Method) (c : Code) (A : Nat → Prop), p.tables.exec = Jvm.exec → c.code = cc → meth.sig.returnType = ret → meth.locks = false → c.maxLocals = maxL → s.vm.findClass y.cls = some m.cls → (y.name = "<init>" → meth.name = "<init>") → (∀ w ∈ ws, w.before av.toArray s = true) → CK E s → va_P E.1 vwCl w s.heap → va_D A w → va_S A s.heap s.heap [] → (∀ q : Nat, s.heap.size ≤ q → A q) → s.heap.size = sz → A = va_A w sz → ∀ ls : Array Slot, lv_has ls maxL (lv_args 0 av) →
      W p l e rm s m av.toArray below meth c s.heap [] 0 0 (MQ below Qc av.toArray s mc ms (va_A w sz)) (F0 m 0 ls [])) : Met l y ws rm (pM E av w sz) Qc mc ms (va_A w sz) := by
  refine Met.ofW (cc := cc) (maxL := maxL) (ret := ret) hy hw ?_
  intro p e s m args below meth c s₁ B hml hv
  obtain ⟨rfl, hsz, hP, hK, hD0⟩ := hv
  have hl := lv_entry av (n := maxL) hlen
  rw [lg_entry_eq]
  exact body p e s m below meth c (va_A w sz) B.exec B.bytes B.returns B.notSynchronized hml (findClass_of_methodNamed B.named) (fun h => (name_of_methodNamed B.named B.method).1.trans h) (atoms_spec (ws := ws) B.pre) hK hP (by rw [← hsz]; exact hD0.self) va_S.rf (fun q h => Or.inr (by rw [← hsz]; exact h)) hsz rfl _ hl
section CALLS
variable {p : Program} {l : Launch} {e : Env} {R : Room} {s : State} {m : MethodId} {args : Array Value} {below : List Frame} {meth : Method} {c : Code} {H : Heap} {locs : List Loc} {cells slots : Nat} {Q : State → Prop}
variable {cc : ByteArray} {pc nL index n maxL : Nat} {ls : Array Slot} {rest As st0 : List Value} {E : GG} {y : MethodName} {ws Ts : List Cond} {rm : Room} {w : va_W} {r : Int32} {own C host : String} {bytes : ByteArray} {ret : Option FieldType} {b : Nat}
/-- calls of methods that only read: on an object of the own class; static; on a nest mate; a nest mate's static -/
theorem cR_V (S : CallFix p m c cc nL s args Ts own) (hM : Met l y ws rm (pR E (.ref b :: As) w) (QcRead r) 0 0 (fun _ => False)) (cw : CallW R s args own C index y bytes maxL ret ws rm 0 0 n) (hK : CK E s) (hP : va_P E.1 vwCl w H) (ci q0 : Nat) {T : u_T} {N : Nat} {fs : List Value} (hc : vwCl[ci]? = some (C, T, N)) (he : w[q0]? = some (b, .inr (ci, fs)))
    (hn : As.length = n) (hsize : ls.size = nL) (hst : st0 = As.reverse ++ .ref b :: rest) (hW : (rest.map fun v => v.category).sum ≤ 8) (hdg : decode cc pc = .ok (.invokevirtual index, 3)) (hf : cells ≤ R.cells ∧ slots ≤ R.slots)
    (kk : W p l e R s m args below meth c H locs cells slots Q (F0 m (pc + 3) ls (.int r :: rest))) : W p l e R s m args below meth c H locs cells slots Q (F0 m pc ls st0) := by
  subst hst
  exact W.callR (W.runV S hM cw ⟨pR.blind, va_recv hK.1 hP hc he, fun U hU hW => ⟨rfl, by rw [hU]; exact hP, hK.warm hW⟩⟩ rfl hn hsize rfl (lv_room hW) hdg hf) kk
theorem cR_S (S : CallFix p m c cc nL s args Ts own) (hM : Met l y ws rm (pR E As w) (QcRead r) 0 0 (fun _ => False)) (cw : CallB R s args own index y bytes maxL ret ws rm 0 0 n ∧ (Cond.static y).before args s = true) (hK : CK E s) (hP : va_P E.1 vwCl w H)
    (hn : As.length = n) (hsize : ls.size = nL) (hst : st0 = As.reverse ++ rest) (hW : (rest.map fun v => v.category).sum ≤ 8) (hdg : decode cc pc = .ok (.invokestatic index, 3)) (hf : cells ≤ R.cells ∧ slots ≤ R.slots)
    (kk : W p l e R s m args below meth c H locs cells slots Q (F0 m (pc + 3) ls (.int r :: rest))) : W p l e R s m args below meth c H locs cells slots Q (F0 m pc ls st0) := by
  subst hst
  exact W.callR (W.runS S hM cw ⟨pR.blind, fun U hU hW => ⟨rfl, by rw [hU]; exact hP, hK.warm hW⟩⟩ rfl hn hsize rfl (lv_room hW) hdg hf) kk
theorem cR_VN (S : CallFix p m c cc nL s args Ts own) (hM : Met l y ws rm (pR E (.ref b :: As) w) (QcRead r) 0 0 (fun _ => False)) (cw : va_CN R s args own index y host bytes maxL ret ws rm 0 0 n ∧ (Cond.instanceMethod y).before args s = true ∧ (Cond.selects C y y).before args s = true) (hK : CK E s) (hP : va_P E.1 vwCl w H) (ci q0 : Nat) {T : u_T} {N : Nat} {fs : List Value} (hc : vwCl[ci]? = some (C, T, N)) (he : w[q0]? = some (b, .inr (ci, fs)))
    (hn : As.length = n) (hsize : ls.size = nL) (hst : st0 = As.reverse ++ .ref b :: rest) (hW : (rest.map fun v => v.category).sum ≤ 8) (hdg : decode cc pc = .ok (.invokevirtual index, 3)) (hf : cells ≤ R.cells ∧ slots ≤ R.slots)
    (kk : W p l e R s m args below meth c H locs cells slots Q (F0 m (pc + 3) ls (.int r :: rest))) : W p l e R s m args below meth c H locs cells slots Q (F0 m pc ls st0) := by
  subst hst
  exact W.callR (va_runVN S hM cw ⟨pR.blind, va_recv hK.1 hP hc he, fun U hU hW => ⟨rfl, by rw [hU]; exact hP, hK.warm hW⟩⟩ rfl hn hsize rfl (lv_room hW) hdg hf).run kk
theorem cR_SN (S : CallFix p m c cc nL s args Ts own) (hM : Met l y ws rm (pR E As w) (QcRead r) 0 0 (fun _ => False)) (cw : va_CN R s args own index y host bytes maxL ret ws rm 0 0 n ∧ (Cond.static y).before args s = true ∧ True) (hK : CK E s) (hP : va_P E.1 vwCl w H)
    (hn : As.length = n) (hsize : ls.size = nL) (hst : st0 = As.reverse ++ rest) (hW : (rest.map fun v => v.category).sum ≤ 8) (hdg : decode cc pc = .ok (.invokestatic index, 3)) (hf : cells ≤ R.cells ∧ slots ≤ R.slots)
    (kk : W p l e R s m args below meth c H locs cells slots Q (F0 m (pc + 3) ls (.int r :: rest))) : W p l e R s m args below meth c H locs cells slots Q (F0 m pc ls st0) := by
  subst hst
  exact W.callR (va_runSN S hM cw ⟨pR.blind, fun U hU hW => ⟨rfl, by rw [hU]; exact hP, hK.warm hW⟩⟩ rfl hn hsize rfl (lv_room hW) hdg hf).run kk
end CALLS
/-- a truth as the machine has it -/
noncomputable def bI (q : Prop) : Int32 := @ite Int32 q (Classical.propDecidable q) 1 0
theorem bI_t {q : Prop} (h : q) : bI q = 1 := if_pos h
theorem bI_f {q : Prop} (h : ¬ q) : bI q = 0 := if_neg h
theorem bI_0 {q : Prop} : bI q = 0 ↔ ¬ q := by
  by_cases h : q
  · rw [bI_t h]; exact ⟨fun z => absurd z (by decide), fun z => absurd h z⟩
  · rw [bI_f h]; exact ⟨fun _ => h, fun _ => rfl⟩
theorem bI_n {q : Prop} : narrow .boolean (.int (bI q)) = .int (bI q) := by
  by_cases h : q
  · rw [bI_t h]; rfl
  · rw [bI_f h]; rfl
theorem bI_e {q z : Prop} (h : q ↔ z) : bI q = bI z := by
  by_cases h1 : q
  · rw [bI_t h1, bI_t (h.mp h1)]
  · rw [bI_f h1, bI_f (fun x => h1 (h.mpr x))]
theorem nilP {E : GG} {H : Heap} : va_P E.1 vwCl [] H := fun k q h => by simp at h
theorem nilD {A : Nat → Prop} : va_D A [] := ⟨fun i j p q h => by simp at h, fun k q h => by simp at h⟩
section NBR
variable {p : Program} {l : Launch} {e : Env} {R : Room} {s : State} {m : MethodId} {args : Array Value} {below : List Frame} {meth : Method} {c : Code} {H : Heap} {locs : List Loc} {cells slots : Nat} {Q : State → Prop}
variable {cc : ByteArray} {pc tgt a b : Nat} {ls : Array Slot} {rest : List Value} {off : Int}
theorem n_icmp_eq (hx : p.tables.exec = Jvm.exec) (hb : c.code = cc) (hd : decode cc pc = .ok (.if_icmp .eq off, 3)) (ht : (pc : Int) + off = (tgt : Int)) (h1 : a < 2 ^ 31) (h2 : b < 2 ^ 31)
    (kt : a = b → W p l e R s m args below meth c H locs cells slots Q (F0 m tgt ls rest)) (kf : ¬ a = b → W p l e R s m args below meth c H locs cells slots Q (F0 m (pc + 3) ls rest)) : W p l e R s m args below meth c H locs cells slots Q (F0 m pc ls (.int (nI b) :: .int (nI a) :: rest)) :=
  lv_icmp_eq hx hb hd ht (fun h => kt ((nI_eq h1 h2).mp h)) (fun h => kf (fun q => h ((nI_eq h1 h2).mpr q)))
theorem n_icmp_ne (hx : p.tables.exec = Jvm.exec) (hb : c.code = cc) (hd : decode cc pc = .ok (.if_icmp .ne off, 3)) (ht : (pc : Int) + off = (tgt : Int)) (h1 : a < 2 ^ 31) (h2 : b < 2 ^ 31)
    (kt : ¬ a = b → W p l e R s m args below meth c H locs cells slots Q (F0 m tgt ls rest)) (kf : a = b → W p l e R s m args below meth c H locs cells slots Q (F0 m (pc + 3) ls rest)) : W p l e R s m args below meth c H locs cells slots Q (F0 m pc ls (.int (nI b) :: .int (nI a) :: rest)) :=
  lv_icmp_ne hx hb hd ht (fun h => kt (fun q => h ((nI_eq h1 h2).mpr q))) (fun h => kf ((nI_eq h1 h2).mp h))
theorem n_icmp_lt (hx : p.tables.exec = Jvm.exec) (hb : c.code = cc) (hd : decode cc pc = .ok (.if_icmp .lt off, 3)) (ht : (pc : Int) + off = (tgt : Int)) (h1 : a < 2 ^ 31) (h2 : b < 2 ^ 31)
    (kt : a < b → W p l e R s m args below meth c H locs cells slots Q (F0 m tgt ls rest)) (kf : ¬ a < b → W p l e R s m args below meth c H locs cells slots Q (F0 m (pc + 3) ls rest)) : W p l e R s m args below meth c H locs cells slots Q (F0 m pc ls (.int (nI b) :: .int (nI a) :: rest)) :=
  lv_icmp_lt hx hb hd ht (fun h => kt ((nI_ltI h1 h2).mp h)) (fun h => kf (fun q => h ((nI_ltI h1 h2).mpr q)))
theorem n_icmp_ge (hx : p.tables.exec = Jvm.exec) (hb : c.code = cc) (hd : decode cc pc = .ok (.if_icmp .ge off, 3)) (ht : (pc : Int) + off = (tgt : Int)) (h1 : a < 2 ^ 31) (h2 : b < 2 ^ 31)
    (kt : b ≤ a → W p l e R s m args below meth c H locs cells slots Q (F0 m tgt ls rest)) (kf : ¬ b ≤ a → W p l e R s m args below meth c H locs cells slots Q (F0 m (pc + 3) ls rest)) : W p l e R s m args below meth c H locs cells slots Q (F0 m pc ls (.int (nI b) :: .int (nI a) :: rest)) :=
  lv_icmp_ge hx hb hd ht (fun h => kt ((nI_leI h2 h1).mp h)) (fun h => kf (fun q => h ((nI_leI h2 h1).mpr q)))
theorem n_icmp_gt (hx : p.tables.exec = Jvm.exec) (hb : c.code = cc) (hd : decode cc pc = .ok (.if_icmp .gt off, 3)) (ht : (pc : Int) + off = (tgt : Int)) (h1 : a < 2 ^ 31) (h2 : b < 2 ^ 31)
    (kt : b < a → W p l e R s m args below meth c H locs cells slots Q (F0 m tgt ls rest)) (kf : ¬ b < a → W p l e R s m args below meth c H locs cells slots Q (F0 m (pc + 3) ls rest)) : W p l e R s m args below meth c H locs cells slots Q (F0 m pc ls (.int (nI b) :: .int (nI a) :: rest)) :=
  lv_icmp_gt hx hb hd ht (fun h => kt ((nI_ltI h2 h1).mp h)) (fun h => kf (fun q => h ((nI_ltI h2 h1).mpr q)))
theorem n_icmp_le (hx : p.tables.exec = Jvm.exec) (hb : c.code = cc) (hd : decode cc pc = .ok (.if_icmp .le off, 3)) (ht : (pc : Int) + off = (tgt : Int)) (h1 : a < 2 ^ 31) (h2 : b < 2 ^ 31)
    (kt : a ≤ b → W p l e R s m args below meth c H locs cells slots Q (F0 m tgt ls rest)) (kf : ¬ a ≤ b → W p l e R s m args below meth c H locs cells slots Q (F0 m (pc + 3) ls rest)) : W p l e R s m args below meth c H locs cells slots Q (F0 m pc ls (.int (nI b) :: .int (nI a) :: rest)) :=
  lv_icmp_le hx hb hd ht (fun h => kt ((nI_leI h1 h2).mp h)) (fun h => kf (fun q => h ((nI_leI h1 h2).mpr q)))
theorem n_if_eq (hx : p.tables.exec = Jvm.exec) (hb : c.code = cc) (hd : decode cc pc = .ok (.ifCond .eq off, 3)) (ht : (pc : Int) + off = (tgt : Int)) (h1 : a < 2 ^ 31)
    (kt : a = 0 → W p l e R s m args below meth c H locs cells slots Q (F0 m tgt ls rest)) (kf : ¬ a = 0 → W p l e R s m args below meth c H locs cells slots Q (F0 m (pc + 3) ls rest)) : W p l e R s m args below meth c H locs cells slots Q (F0 m pc ls (.int (nI a) :: rest)) :=
  lv_if_eq hx hb hd ht (fun h => kt ((nI_eq h1 (by decide)).mp (h.trans nI_0.symm))) (fun h => kf (fun q => h (by rw [q]; exact nI_0)))
theorem n_if_ne (hx : p.tables.exec = Jvm.exec) (hb : c.code = cc) (hd : decode cc pc = .ok (.ifCond .ne off, 3)) (ht : (pc : Int) + off = (tgt : Int)) (h1 : a < 2 ^ 31)
    (kt : ¬ a = 0 → W p l e R s m args below meth c H locs cells slots Q (F0 m tgt ls rest)) (kf : a = 0 → W p l e R s m args below meth c H locs cells slots Q (F0 m (pc + 3) ls rest)) : W p l e R s m args below meth c H locs cells slots Q (F0 m pc ls (.int (nI a) :: rest)) :=
  lv_if_ne hx hb hd ht (fun h => kt (fun q => h (by rw [q]; exact nI_0))) (fun h => kf ((nI_eq h1 (by decide)).mp (h.trans nI_0.symm)))
theorem n_if_lt (hx : p.tables.exec = Jvm.exec) (hb : c.code = cc) (hd : decode cc pc = .ok (.ifCond .lt off, 3)) (ht : (pc : Int) + off = (tgt : Int)) (h1 : a < 2 ^ 31)
    (kt : a < 0 → W p l e R s m args below meth c H locs cells slots Q (F0 m tgt ls rest)) (kf : ¬ a < 0 → W p l e R s m args below meth c H locs cells slots Q (F0 m (pc + 3) ls rest)) : W p l e R s m args below meth c H locs cells slots Q (F0 m pc ls (.int (nI a) :: rest)) :=
  lv_if_lt hx hb hd ht (fun h => absurd h (nI_pos h1)) (fun _ => kf (Nat.not_lt_zero _))
theorem n_if_ge (hx : p.tables.exec = Jvm.exec) (hb : c.code = cc) (hd : decode cc pc = .ok (.ifCond .ge off, 3)) (ht : (pc : Int) + off = (tgt : Int)) (h1 : a < 2 ^ 31)
    (kt : 0 ≤ a → W p l e R s m args below meth c H locs cells slots Q (F0 m tgt ls rest)) (kf : ¬ 0 ≤ a → W p l e R s m args below meth c H locs cells slots Q (F0 m (pc + 3) ls rest)) : W p l e R s m args below meth c H locs cells slots Q (F0 m pc ls (.int (nI a) :: rest)) :=
  lv_if_ge hx hb hd ht (fun _ => kt (Nat.zero_le _)) (fun h => absurd (nI_pos' h1) h)
theorem n_if_gt (hx : p.tables.exec = Jvm.exec) (hb : c.code = cc) (hd : decode cc pc = .ok (.ifCond .gt off, 3)) (ht : (pc : Int) + off = (tgt : Int)) (h1 : a < 2 ^ 31)
    (kt : 0 < a → W p l e R s m args below meth c H locs cells slots Q (F0 m tgt ls rest)) (kf : ¬ 0 < a → W p l e R s m args below meth c H locs cells slots Q (F0 m (pc + 3) ls rest)) : W p l e R s m args below meth c H locs cells slots Q (F0 m pc ls (.int (nI a) :: rest)) :=
  lv_if_gt hx hb hd ht (fun h => kt ((nI_ltI (by decide) h1).mp (nI_0 ▸ h))) (fun h => kf (fun q => h (nI_0 ▸ (nI_ltI (by decide) h1).mpr q)))
theorem n_if_le (hx : p.tables.exec = Jvm.exec) (hb : c.code = cc) (hd : decode cc pc = .ok (.ifCond .le off, 3)) (ht : (pc : Int) + off = (tgt : Int)) (h1 : a < 2 ^ 31)
    (kt : a ≤ 0 → W p l e R s m args below meth c H locs cells slots Q (F0 m tgt ls rest)) (kf : ¬ a ≤ 0 → W p l e R s m args below meth c H locs cells slots Q (F0 m (pc + 3) ls rest)) : W p l e R s m args below meth c H locs cells slots Q (F0 m pc ls (.int (nI a) :: rest)) :=
  lv_if_le hx hb hd ht (fun h => kt ((nI_leI h1 (by decide)).mp (nI_0 ▸ h))) (fun h => kf (fun q => h (nI_0 ▸ (nI_leI h1 (by decide)).mpr q)))
theorem b_if_eq {q : Prop} (hx : p.tables.exec = Jvm.exec) (hb : c.code = cc) (hd : decode cc pc = .ok (.ifCond .eq off, 3)) (ht : (pc : Int) + off = (tgt : Int))
    (kt : ¬ q → W p l e R s m args below meth c H locs cells slots Q (F0 m tgt ls rest)) (kf : q → W p l e R s m args below meth c H locs cells slots Q (F0 m (pc + 3) ls rest)) : W p l e R s m args below meth c H locs cells slots Q (F0 m pc ls (.int (bI q) :: rest)) :=
  lv_if_eq hx hb hd ht (fun h => kt (bI_0.mp h)) (fun h => kf (Classical.byContradiction fun z => h (bI_0.mpr z)))
theorem b_if_ne {q : Prop} (hx : p.tables.exec = Jvm.exec) (hb : c.code = cc) (hd : decode cc pc = .ok (.ifCond .ne off, 3)) (ht : (pc : Int) + off = (tgt : Int))
    (kt : q → W p l e R s m args below meth c H locs cells slots Q (F0 m tgt ls rest)) (kf : ¬ q → W p l e R s m args below meth c H locs cells slots Q (F0 m (pc + 3) ls rest)) : W p l e R s m args below meth c H locs cells slots Q (F0 m pc ls (.int (bI q) :: rest)) :=
  lv_if_ne hx hb hd ht (fun h => kt (Classical.byContradiction fun z => h (bI_0.mpr z))) (fun h => kf (bI_0.mp h))
end NBR
end
section
section MBASE
variable {p : Program} {l : Launch} {e : Env} {R : Room} {s : State} {m : MethodId} {args : Array Value} {below : List Frame} {meth : Method} {c : Code} {H H0 : Heap} {locs : List Loc} {cells slots mc ms : Nat} {Q : State → Prop}
variable {cc : ByteArray} {pc nL index n maxL : Nat} {ls : Array Slot} {rest As st0 : List Value} {E : GG} {y : MethodName} {ws Ts : List Cond} {rm : Room} {w wl wr : va_W} {own C host : String} {bytes : ByteArray} {ret : Option FieldType} {b : Nat} {A : Nat → Prop}
/-- the end of a method that may have written -/
theorem q_ret {St : Type} {post : Int32 → St → Prop} {wf : St → va_W} {v : Int32} (u : St) (hx : p.tables.exec = Jvm.exec) (hb : c.code = cc) (hr : meth.sig.returnType = some .int) (hlocks : meth.locks = false) (hp : post v u) (hP : va_P E.1 vwCl (wf u) H) (hD : va_D A (wf u)) (hS : va_S A s.heap H locs) (hdg : decode cc pc = .ok (.ireturn, 1)) : W p l e R s m args below meth c H locs cells slots (MQ below (va_Qi post (bM E A wf) A) args s cells slots A) (F0 m pc ls [.int v]) :=
  W.iret hx hb hr (fun _ ht _ => ⟨⟨v, u, rfl, hp, by rw [ht]; exact hP, hD⟩, hS.F ht⟩) hS.2.2 hdg hlocks
theorem qz_ret {St : Type} {post : Int32 → St → Prop} {wf : St → va_W} {v : Int32} (u : St) (hx : p.tables.exec = Jvm.exec) (hb : c.code = cc) (hr : meth.sig.returnType = some .boolean) (hlocks : meth.locks = false) (hn : narrow .boolean (.int v) = .int v) (hp : post v u) (hP : va_P E.1 vwCl (wf u) H) (hD : va_D A (wf u)) (hS : va_S A s.heap H locs) (hdg : decode cc pc = .ok (.ireturn, 1)) : W p l e R s m args below meth c H locs cells slots (MQ below (va_Qi post (bM E A wf) A) args s cells slots A) (F0 m pc ls [.int v]) :=
  W.zret hx hb hr hn (fun _ ht _ => ⟨⟨v, u, rfl, hp, by rw [ht]; exact hP, hD⟩, hS.F ht⟩) hS.2.2 hdg hlocks
theorem qv_ret {St : Type} {post : St → Prop} {wf : St → va_W} (u : St) (hx : p.tables.exec = Jvm.exec) (hb : c.code = cc) (hr : meth.sig.returnType = none) (hlocks : meth.locks = false) (hp : post u) (hP : va_P E.1 vwCl (wf u) H) (hD : va_D A (wf u)) (hS : va_S A s.heap H locs) (hdg : decode cc pc = .ok (.return_, 1)) : W p l e R s m args below meth c H locs cells slots (MQ below (va_Qv post (bM E A wf) A) args s cells slots A) (F0 m pc ls []) :=
  W.vret hx hb hr (fun _ ht _ => ⟨⟨u, rfl, hp, by rw [ht]; exact hP, hD⟩, hS.F ht⟩) hS.2.2 hdg hlocks
/-- a call that may write, behind it: the callee's cells as they are now beside the rest -/
theorem cM_i {St : Type} {post : Int32 → St → Prop} {wf : St → va_W} (hr : va_Run p l e R s m args below meth c H locs cells slots mc ms (F0 m pc ls st0) rest (va_Qi post (bM E (va_A w H.size) wf) (va_A w H.size) As.toArray) (va_A w H.size)) (hP : va_P E.1 vwCl wl H) (hD : va_D A wl) (hS : va_S A H0 H locs) (hA : ∀ q, H0.size ≤ q → A q)
    (isC isR : List Nat) (hC : isC.map (fun i => wl[i]?) = w.map some) (hR : isR.map (fun i => wl[i]?) = wr.map some) (hn : va_nd isR = true) (hdis : ∀ i ∈ isR, i ∉ isC)
    (kk : ∀ (r : Int32) (u : St) (H1 : Heap) (locs1 : List Loc), post r u → va_P E.1 vwCl (wr ++ wf u) H1 → va_D A (wr ++ wf u) → va_S A H0 H1 locs1 → W p l e R s m args below meth c H1 locs1 (cells + mc) (slots + ms) Q (F0 m (pc + 3) ls (.int r :: rest))) : W p l e R s m args below meth c H locs cells slots Q (F0 m pc ls st0) := by
  have hF := va_free (wc := w) hD hS hA isC hC
  refine va_calli hr hS (fun q _ h => hF q h) hF (fun r u t H1 locs1 ht hvm hq hB hz hk hS1 => ?_)
  obtain ⟨hP1, hD1⟩ := hB
  rw [ht] at hP1
  obtain ⟨hP2, hD2⟩ := va_join hP hD isC isR hC hR hn hdis hk hF hP1 hD1
  exact kk r u H1 locs1 hq hP2 hD2 hS1
theorem cM_v {St : Type} {post : St → Prop} {wf : St → va_W} (hr : va_Run p l e R s m args below meth c H locs cells slots mc ms (F0 m pc ls st0) rest (va_Qv post (bM E (va_A w H.size) wf) (va_A w H.size) As.toArray) (va_A w H.size)) (hP : va_P E.1 vwCl wl H) (hD : va_D A wl) (hS : va_S A H0 H locs) (hA : ∀ q, H0.size ≤ q → A q)
    (isC isR : List Nat) (hC : isC.map (fun i => wl[i]?) = w.map some) (hR : isR.map (fun i => wl[i]?) = wr.map some) (hn : va_nd isR = true) (hdis : ∀ i ∈ isR, i ∉ isC)
    (kk : ∀ (u : St) (H1 : Heap) (locs1 : List Loc), post u → va_P E.1 vwCl (wr ++ wf u) H1 → va_D A (wr ++ wf u) → va_S A H0 H1 locs1 → W p l e R s m args below meth c H1 locs1 (cells + mc) (slots + ms) Q (F0 m (pc + 3) ls rest)) : W p l e R s m args below meth c H locs cells slots Q (F0 m pc ls st0) := by
  have hF := va_free (wc := w) hD hS hA isC hC
  refine va_callv hr hS (fun q _ h => hF q h) hF (fun u t H1 locs1 ht hvm hq hB hz hk hS1 => ?_)
  obtain ⟨hP1, hD1⟩ := hB
  rw [ht] at hP1
  obtain ⟨hP2, hD2⟩ := va_join hP hD isC isR hC hR hn hdis hk hF hP1 hD1
  exact kk u H1 locs1 hq hP2 hD2 hS1
variable {Qc : Array Value → State → Outcome → State → Prop} {free : Addr → Prop}
/-- what a call of a writing method needs -/
theorem rM_V (S : CallFix p m c cc nL s args Ts own) (hM : Met l y ws rm (pM E (.ref b :: As) w H.size) Qc mc ms free) (cw : CallW R s args own C index y bytes maxL ret ws rm mc ms n) (hK : CK E s) (hP : va_P E.1 vwCl w H) (hD : va_D A w) (ci q0 : Nat) {T : u_T} {N : Nat} {fs : List Value} (hc : vwCl[ci]? = some (C, T, N)) (he : w[q0]? = some (b, .inr (ci, fs)))
    (hn : As.length = n) (hsize : ls.size = nL) (hst : st0 = As.reverse ++ .ref b :: rest) (hW : (rest.map fun v => v.category).sum ≤ 8) (hdg : decode cc pc = .ok (.invokevirtual index, 3)) (hf : cells + mc ≤ R.cells ∧ slots + ms ≤ R.slots) : va_Run p l e R s m args below meth c H locs cells slots mc ms (F0 m pc ls st0) rest (Qc (Value.ref b :: As).toArray) free := by
  subst hst
  exact va_runV S hM cw ⟨pM.blind, va_recv hK.1 hP hc he, fun U hU hW => ⟨rfl, by rw [hU], by rw [hU]; exact hP, hK.warm hW, hD.weaken (fun _ _ _ _ => trivial)⟩⟩ rfl hn hsize rfl (lv_room hW) hdg hf
theorem rM_VN (S : CallFix p m c cc nL s args Ts own) (hM : Met l y ws rm (pM E (.ref b :: As) w H.size) Qc mc ms free) (cw : va_CN R s args own index y host bytes maxL ret ws rm mc ms n ∧ (Cond.instanceMethod y).before args s = true ∧ (Cond.selects C y y).before args s = true) (hK : CK E s) (hP : va_P E.1 vwCl w H) (hD : va_D A w) (ci q0 : Nat) {T : u_T} {N : Nat} {fs : List Value} (hc : vwCl[ci]? = some (C, T, N)) (he : w[q0]? = some (b, .inr (ci, fs)))
    (hn : As.length = n) (hsize : ls.size = nL) (hst : st0 = As.reverse ++ .ref b :: rest) (hW : (rest.map fun v => v.category).sum ≤ 8) (hdg : decode cc pc = .ok (.invokevirtual index, 3)) (hf : cells + mc ≤ R.cells ∧ slots + ms ≤ R.slots) : va_Run p l e R s m args below meth c H locs cells slots mc ms (F0 m pc ls st0) rest (Qc (Value.ref b :: As).toArray) free := by
  subst hst
  exact va_runVN S hM cw ⟨pM.blind, va_recv hK.1 hP hc he, fun U hU hW => ⟨rfl, by rw [hU], by rw [hU]; exact hP, hK.warm hW, hD.weaken (fun _ _ _ _ => trivial)⟩⟩ rfl hn hsize rfl (lv_room hW) hdg hf
theorem rM_S (S : CallFix p m c cc nL s args Ts own) (hM : Met l y ws rm (pM E As w H.size) Qc mc ms free) (cw : CallB R s args own index y bytes maxL ret ws rm mc ms n ∧ (Cond.static y).before args s = true) (hK : CK E s) (hP : va_P E.1 vwCl w H) (hD : va_D A w)
    (hn : As.length = n) (hsize : ls.size = nL) (hst : st0 = As.reverse ++ rest) (hW : (rest.map fun v => v.category).sum ≤ 8) (hdg : decode cc pc = .ok (.invokestatic index, 3)) (hf : cells + mc ≤ R.cells ∧ slots + ms ≤ R.slots) : va_Run p l e R s m args below meth c H locs cells slots mc ms (F0 m pc ls st0) rest (Qc As.toArray) free := by
  subst hst
  exact va_runS S hM cw ⟨pM.blind, fun U hU hW => ⟨rfl, by rw [hU], by rw [hU]; exact hP, hK.warm hW, hD.weaken (fun _ _ _ _ => trivial)⟩⟩ rfl hn hsize rfl (lv_room hW) hdg hf
theorem rM_I (S : CallFix p m c cc nL s args Ts own) (hM : Met l y ws rm (pM E (.ref b :: As) w H.size) Qc mc ms free) (cw : CallB R s args own index y bytes maxL none ws rm mc ms n ∧ y.name = "<init>" ∧ (Cond.instanceMethod y).before args s = true) (hK : CK E s) (hP : va_P E.1 vwCl w H) (hD : va_D A w)
    (hn : As.length = n) (hsize : ls.size = nL) (hst : st0 = As.reverse ++ .ref b :: rest) (hW : (rest.map fun v => v.category).sum ≤ 8) (hdg : decode cc pc = .ok (.invokespecial index, 3)) (hf : cells + mc ≤ R.cells ∧ slots + ms ≤ R.slots) : va_Run p l e R s m args below meth c H locs cells slots mc ms (F0 m pc ls st0) rest (Qc (Value.ref b :: As).toArray) free := by
  subst hst
  exact va_runI S hM cw ⟨pM.blind, fun U hU hW => ⟨rfl, by rw [hU], by rw [hU]; exact hP, hK.warm hW, hD.weaken (fun _ _ _ _ => trivial)⟩⟩ rfl hn hsize rfl (lv_room hW) hdg hf
theorem rM_IN (S : CallFix p m c cc nL s args Ts own) (hM : Met l y ws rm (pM E (.ref b :: As) w H.size) Qc mc ms free) (cw : va_CN R s args own index y host bytes maxL none ws rm mc ms n ∧ y.name = "<init>" ∧ (Cond.instanceMethod y).before args s = true) (hK : CK E s) (hP : va_P E.1 vwCl w H) (hD : va_D A w)
    (hn : As.length = n) (hsize : ls.size = nL) (hst : st0 = As.reverse ++ .ref b :: rest) (hW : (rest.map fun v => v.category).sum ≤ 8) (hdg : decode cc pc = .ok (.invokespecial index, 3)) (hf : cells + mc ≤ R.cells ∧ slots + ms ≤ R.slots) : va_Run p l e R s m args below meth c H locs cells slots mc ms (F0 m pc ls st0) rest (Qc (Value.ref b :: As).toArray) free := by
  subst hst
  exact va_runIN S hM cw ⟨pM.blind, fun U hU hW => ⟨rfl, by rw [hU], by rw [hU]; exact hP, hK.warm hW, hD.weaken (fun _ _ _ _ => trivial)⟩⟩ rfl hn hsize rfl (lv_room hW) hdg hf
end MBASE
end
section
section MBASF
variable {p : Program} {l : Launch} {e : Env} {R : Room} {s : State} {m : MethodId} {args : Array Value} {below : List Frame} {meth : Method} {c : Code} {H H0 : Heap} {locs : List Loc} {cells slots mc ms : Nat} {Q : State → Prop}
variable {cc : ByteArray} {pc nL index n maxL : Nat} {ls : Array Slot} {rest As st0 : List Value} {E : GG} {y : MethodName} {ws Ts : List Cond} {rm : Room} {w wl wr : va_W} {own C host : String} {bytes : ByteArray} {ret : Option FieldType} {b : Nat} {A : Nat → Prop}
/-- a new array of ints, of booleans: its class is the one that is known -/
theorem n_newI (hx : p.tables.exec = Jvm.exec) (hb : c.code = cc) (harr : (Cond.arrayClass .int).before args s = true) (hK : CK E s) (hP : va_P E.1 vwCl w H) (hD : va_D A w) (hS : va_S A H0 H locs) (hA : ∀ q, H0.size ≤ q → A q) {k : Int32} {N : Nat} (hn : ¬ k < 0) (hN : k.toNatClampNeg = N) (hby : N * componentBytes .int ≤ 536870912) (hcells : cells + 1 ≤ R.cells) (hslots : slots + N ≤ R.slots) (hdg : decode cc pc = .ok (.newarray .int, 2))
    (kk : ∀ (q : Nat) (H1 : Heap), va_P E.1 vwCl (w ++ [(q, .inl (E.2 0, N, .inl (fun _ => 0)))]) H1 → va_D A (w ++ [(q, .inl (E.2 0, N, .inl (fun _ => 0)))]) → va_S A H0 H1 locs → W p l e R s m args below meth c H1 locs (cells + 1) (slots + N) Q (F0 m (pc + 2) ls (.ref q :: rest))) : W p l e R s m args below meth c H locs cells slots Q (F0 m pc ls (.int k :: rest)) := by
  refine va_newa (atype := .int) (a0 := (N, .inl (fun _ => 0))) (ty := .int) (N' := N) hx hb harr rfl hK.1 hP hD hS hA (fun _ => rfl) hn hN hby hcells hslots hdg (fun q cA H1 hK1 hP1 hD1 hS1 => ?_)
  have e1 : s.vm.findClass ("[" ++ FieldType.int.toString) = some cA := (hK1.2 4 (cA, .int) rfl).2
  have e2 : s.vm.findClass ("[" ++ FieldType.int.toString) = some (E.2 0) := (hK1.2 0 (E.2 0, .int) rfl).2
  have e3 : cA = E.2 0 := Option.some.inj (e1.symm.trans e2)
  subst e3
  exact kk q H1 hP1 hD1 hS1
theorem n_newZ (hx : p.tables.exec = Jvm.exec) (hb : c.code = cc) (harr : (Cond.arrayClass .boolean).before args s = true) (hK : CK E s) (hP : va_P E.1 vwCl w H) (hD : va_D A w) (hS : va_S A H0 H locs) (hA : ∀ q, H0.size ≤ q → A q) {k : Int32} {N : Nat} (hn : ¬ k < 0) (hN : k.toNatClampNeg = N) (hby : N * componentBytes .boolean ≤ 536870912) (hcells : cells + 1 ≤ R.cells) (hslots : slots + N ≤ R.slots) (hdg : decode cc pc = .ok (.newarray .boolean, 2))
    (kk : ∀ (q : Nat) (H1 : Heap), va_P E.1 vwCl (w ++ [(q, .inl (E.2 1, N, .inl (fun _ => 0)))]) H1 → va_D A (w ++ [(q, .inl (E.2 1, N, .inl (fun _ => 0)))]) → va_S A H0 H1 locs → W p l e R s m args below meth c H1 locs (cells + 1) (slots + N) Q (F0 m (pc + 2) ls (.ref q :: rest))) : W p l e R s m args below meth c H locs cells slots Q (F0 m pc ls (.int k :: rest)) := by
  refine va_newa (atype := .boolean) (a0 := (N, .inl (fun _ => 0))) (ty := .boolean) (N' := N) hx hb harr rfl hK.1 hP hD hS hA (fun _ => rfl) hn hN hby hcells hslots hdg (fun q cA H1 hK1 hP1 hD1 hS1 => ?_)
  have e1 : s.vm.findClass ("[" ++ FieldType.boolean.toString) = some cA := (hK1.2 4 (cA, .boolean) rfl).2
  have e2 : s.vm.findClass ("[" ++ FieldType.boolean.toString) = some (E.2 1) := (hK1.2 1 (E.2 1, .boolean) rfl).2
  have e3 : cA = E.2 1 := Option.some.inj (e1.symm.trans e2)
  subst e3
  exact kk q H1 hP1 hD1 hS1
end MBASF
end
section
abbrev MW (E : GG) (r : Nat → Nat) (v : Nat → Int32) (f : Nat → Nat → Int32) (B C : Nat → Int32) : va_W := [(r 0, .inr (5, [.int (v 0), .int (v 1), .int (v 2), .int (v 3), .int (v 4), .int (v 5), .int (v 6), .int (v 7), .ref (r 8), .ref (r 9), .ref (r 10), .ref (r 11), .ref (r 12), .ref (r 13), .ref (r 14), .ref (r 15), .ref (r 16), .ref (r 17), .ref (r 18), .int (v 19), .int (v 20), .ref (r 21), .ref (r 22), .int (v 23), .ref (r 24), .ref (r 25)])), (r 8, .inl (E.2 0, 24, .inl (f 8))), (r 9, .inl (E.2 0, 24, .inl (f 9))), (r 10, .inl (E.2 0, 24, .inl (f 10))), (r 11, .inl (E.2 0, 2, .inl (f 11))), (r 12, .inl (E.2 0, 2, .inl (f 12))), (r 13, .inl (E.2 0, 2, .inl (f 13))), (r 14, .inl (E.2 0, 2, .inl (f 14))), (r 15, .inl (E.2 0, 2, .inl (f 15))), (r 16, .inl (E.2 1, 48, .inl (f 16))), (r 17, .inl (E.2 0, 3, .inl (f 17))), (r 18, .inl (E.2 0, 72, .inl (f 18))), (r 21, .inl (E.2 0, 2, .inl (f 21))), (r 22, .inl (E.2 0, 2, .inl (f 22))), (r 24, .inl (E.2 0, 27675, .inl B)), (r 25, .inl (E.2 0, 9225, .inl C))]
def m_loses (f : Nat → Nat → Int32) (a b : Int32) : Int32 := (if a = 1 then f 11 0 else if a = 2 then -(f 13 0) else 0) + (if b = 1 then f 11 1 else if b = 2 then -(f 13 1) else 0)
def m_far (a b : Int32) : Int32 := if a ≤ b then b - a else a - b
def m_power (f : Nat → Nat → Int32) (k h : Nat) (a : Int32) : Int32 := if a = 0 ∧ f 16 (24 * k + h) = 0 then f 12 k else if a = 2 then f 14 k else 0
def m_units (f : Nat → Nat → Int32) (k h : Nat) (a : Int32) : Int32 := if (a = 0 ∧ f 16 (24 * k + h) = 0) ∨ a = 1 then f 11 k else 0
def m_energy (f : Nat → Nat → Int32) (k : Nat) (a : Int32) : Int32 := if a = 1 then f 12 k else if a = 2 then -(f 14 k) else 0
def m_start (f : Nat → Nat → Int32) (k : Nat) (p a : Int32) : Int32 := if p = 0 ∧ ¬ a = 0 then f 15 k else 0
def m_money (f : Nat → Nat → Int32) (w h : Nat) (p q a b : Int32) : Int32 := f 18 (24 * w + h) * (m_energy f 0 a + m_energy f 1 b) - (m_start f 0 p a + m_start f 1 q b)
def m_mayGo (f : Nat → Nat → Int32) (k h : Nat) (p a : Int32) : Prop := (a = 0 ∨ f 16 (24 * k + h) = 0) ∧ (p = 0 ∨ a = 0 ∨ p = a)
def m_reserved (f : Nat → Nat → Int32) (h : Nat) (u a b : Int32) : Prop := f 10 h = 0 ∨ (¬ (m_power f 0 h a + m_power f 1 h b) < f 10 h ∧ ¬ u < m_units f 0 h a + m_units f 1 h b)
def m_in (x lo hi : Int32) : Prop := ¬ x < lo ∧ ¬ hi < x
def m_fits (v : Nat → Int32) (f : Nat → Nat → Int32) (h : Nat) (u l a b : Int32) : Prop := m_in (u + f 8 h - m_loses f a b) 0 (v 2) ∧ m_in (l + m_loses f a b - f 9 h) 0 (v 3) ∧ ¬ v 6 < m_far (u + f 8 h - m_loses f a b) u ∧ ¬ v 7 < m_far (l + m_loses f a b - f 9 h) l
def m_legal (v : Nat → Int32) (f : Nat → Nat → Int32) (h : Nat) (u l p q a b : Int32) : Prop := m_fits v f h u l a b ∧ m_mayGo f 0 h p a ∧ m_mayGo f 1 h q b ∧ m_reserved f h u a b
set_option maxHeartbeats 4000000 in
set_option maxRecDepth 100000 in
theorem c_X5_within (l : Launch) (E : GG)  (x : Int32) (lo : Int32) (hi : Int32)  : Met l yX5_within wsX5_within (Rm 0 0 0) (pR E [.int x, .int lo, .int hi] ([])) (QcRead (bI (m_in x lo hi))) 0 0 (fun _ => False) := by
  refine ofR (by decide) rfl (Nat.le_of_ble_eq_true rfl) ?_
  intro p e s m below meth c hx hb hr hlocks hml hown hts hK hP ls hl
  have hl : lv_has ls 3 [(0, .int x), (1, .int lo), (2, .int hi)] := hl
  refine lv_iload_n hx hb dX5_within_0 rfl (lv_at hl 0 rfl) ?_
  refine lv_iload_n hx hb dX5_within_1 rfl (lv_at hl 1 rfl) ?_
  refine lv_icmp_lt (tgt := 14) hx hb dX5_within_2 (by decide) (fun c_1 => ?_) (fun c_1 => ?_)
  · skip
    refine lv_iconst (v := 0) hx hb dX5_within_14 (by decide) ?_
    exact z_ret hx hb hr hlocks rfl (by first | rfl | (simp [bI, m_in, c_1]; done) | (simp only [bI, m_in, c_1, if_true, if_false, reduceIte, not_true_eq_false, not_false_eq_true]; done) | (simp only [bI, m_in]; split <;> first | rfl | (simp_all; done) | omega) | (simp_all [bI, m_in]; done)) dX5_within_15
  · skip
    refine lv_iload_n hx hb dX5_within_5 rfl (lv_at hl 0 rfl) ?_
    refine lv_iload_n hx hb dX5_within_6 rfl (lv_at hl 2 rfl) ?_
    refine lv_icmp_gt (tgt := 14) hx hb dX5_within_7 (by decide) (fun c_2 => ?_) (fun c_2 => ?_)
    · skip
      refine lv_iconst (v := 0) hx hb dX5_within_14 (by decide) ?_
      exact z_ret hx hb hr hlocks rfl (by first | rfl | (simp [bI, m_in, c_1, c_2]; done) | (simp only [bI, m_in, c_1, c_2, if_true, if_false, reduceIte, not_true_eq_false, not_false_eq_true]; done) | (simp only [bI, m_in]; split <;> first | rfl | (simp_all; done) | omega) | (simp_all [bI, m_in]; done)) dX5_within_15
    · skip
      refine lv_iconst (v := 1) hx hb dX5_within_10 (by decide) ?_
      refine lv_goto (tgt := 15) hx hb dX5_within_11 (by decide) ?_
      exact z_ret hx hb hr hlocks rfl (by first | rfl | (simp [bI, m_in, c_1, c_2]; done) | (simp only [bI, m_in, c_1, c_2, if_true, if_false, reduceIte, not_true_eq_false, not_false_eq_true]; done) | (simp only [bI, m_in]; split <;> first | rfl | (simp_all; done) | omega) | (simp_all [bI, m_in]; done)) dX5_within_15
set_option maxHeartbeats 4000000 in
set_option maxRecDepth 100000 in
theorem c_X5_isHour (l : Launch) (E : GG)  (x : Int32)  : Met l yX5_isHour wsX5_isHour (Rm 1 0 0) (pR E [.int x] ([])) (QcRead (bI (m_in x 0 23))) 0 0 (fun _ => False) := by
  refine ofR (by decide) rfl (Nat.le_of_ble_eq_true rfl) ?_
  intro p e s m below meth c hx hb hr hlocks hml hown hts hK hP ls hl
  have hl : lv_has ls 1 [(0, .int x)] := hl
  refine lv_iload_n hx hb dX5_isHour_0 rfl (lv_at hl 0 rfl) ?_
  refine lv_iconst (v := 0) hx hb dX5_isHour_1 (by decide) ?_
  refine lv_bipush (v := 23) hx hb dX5_isHour_2 (by decide) ?_
  refine cR_S ⟨hx, hb, hml, hown, hts⟩ (c_X5_within l E x 0 23) (va_cwS 3 hts gX5_isHour_X5_within rfl rfl rfl (by decide +kernel) ⟨Nat.le_of_ble_eq_true rfl, Nat.le_of_ble_eq_true rfl⟩) hK nilP rfl hl.1 rfl (Nat.le_of_ble_eq_true rfl) dX5_isHour_4 ⟨Nat.le_of_ble_eq_true rfl, Nat.le_of_ble_eq_true rfl⟩ ?_
  exact z_ret hx hb hr hlocks bI_n (by first | rfl | (simp []; done) | (simp_all; done)) dX5_isHour_7
set_option maxHeartbeats 4000000 in
set_option maxRecDepth 100000 in
theorem c_X5_isWorld (l : Launch) (E : GG)  (x : Int32)  : Met l yX5_isWorld wsX5_isWorld (Rm 1 0 0) (pR E [.int x] ([])) (QcRead (bI (m_in x 0 2))) 0 0 (fun _ => False) := by
  refine ofR (by decide) rfl (Nat.le_of_ble_eq_true rfl) ?_
  intro p e s m below meth c hx hb hr hlocks hml hown hts hK hP ls hl
  have hl : lv_has ls 1 [(0, .int x)] := hl
  refine lv_iload_n hx hb dX5_isWorld_0 rfl (lv_at hl 0 rfl) ?_
  refine lv_iconst (v := 0) hx hb dX5_isWorld_1 (by decide) ?_
  refine lv_iconst (v := 2) hx hb dX5_isWorld_2 (by decide) ?_
  refine cR_S ⟨hx, hb, hml, hown, hts⟩ (c_X5_within l E x 0 2) (va_cwS 3 hts gX5_isWorld_X5_within rfl rfl rfl (by decide +kernel) ⟨Nat.le_of_ble_eq_true rfl, Nat.le_of_ble_eq_true rfl⟩) hK nilP rfl hl.1 rfl (Nat.le_of_ble_eq_true rfl) dX5_isWorld_3 ⟨Nat.le_of_ble_eq_true rfl, Nat.le_of_ble_eq_true rfl⟩ ?_
  exact z_ret hx hb hr hlocks bI_n (by first | rfl | (simp []; done) | (simp_all; done)) dX5_isWorld_6
set_option maxHeartbeats 4000000 in
set_option maxRecDepth 100000 in
theorem c_X5_areModes (l : Launch) (E : GG)  (a : Int32) (b : Int32)  : Met l yX5_areModes wsX5_areModes (Rm 1 0 0) (pR E [.int a, .int b] ([])) (QcRead (bI (m_in a 0 2 ∧ m_in b 0 2))) 0 0 (fun _ => False) := by
  refine ofR (by decide) rfl (Nat.le_of_ble_eq_true rfl) ?_
  intro p e s m below meth c hx hb hr hlocks hml hown hts hK hP ls hl
  have hl : lv_has ls 2 [(0, .int a), (1, .int b)] := hl
  refine lv_iload_n hx hb dX5_areModes_0 rfl (lv_at hl 0 rfl) ?_
  refine lv_iconst (v := 0) hx hb dX5_areModes_1 (by decide) ?_
  refine lv_iconst (v := 2) hx hb dX5_areModes_2 (by decide) ?_
  refine cR_S ⟨hx, hb, hml, hown, hts⟩ (c_X5_within l E a 0 2) (va_cwS 3 hts gX5_areModes_X5_within rfl rfl rfl (by decide +kernel) ⟨Nat.le_of_ble_eq_true rfl, Nat.le_of_ble_eq_true rfl⟩) hK nilP rfl hl.1 rfl (Nat.le_of_ble_eq_true rfl) dX5_areModes_3 ⟨Nat.le_of_ble_eq_true rfl, Nat.le_of_ble_eq_true rfl⟩ ?_
  refine b_if_eq (q := (m_in a 0 2)) (tgt := 22) hx hb dX5_areModes_6 (by decide) (fun c_1 => ?_) (fun c_1 => ?_)
  · skip
    refine lv_iconst (v := 0) hx hb dX5_areModes_22 (by decide) ?_
    exact z_ret hx hb hr hlocks rfl (by first | rfl | (simp [bI, c_1]; done) | (simp only [bI, c_1, if_true, if_false, reduceIte, not_true_eq_false, not_false_eq_true]; done) | (simp only [bI]; split <;> first | rfl | (simp_all; done) | omega) | (simp_all [bI]; done)) dX5_areModes_23
  · skip
    refine lv_iload_n hx hb dX5_areModes_9 rfl (lv_at hl 1 rfl) ?_
    refine lv_iconst (v := 0) hx hb dX5_areModes_10 (by decide) ?_
    refine lv_iconst (v := 2) hx hb dX5_areModes_11 (by decide) ?_
    refine cR_S ⟨hx, hb, hml, hown, hts⟩ (c_X5_within l E b 0 2) (va_cwS 3 hts gX5_areModes_X5_within rfl rfl rfl (by decide +kernel) ⟨Nat.le_of_ble_eq_true rfl, Nat.le_of_ble_eq_true rfl⟩) hK nilP rfl hl.1 rfl (Nat.le_of_ble_eq_true rfl) dX5_areModes_12 ⟨Nat.le_of_ble_eq_true rfl, Nat.le_of_ble_eq_true rfl⟩ ?_
    refine b_if_eq (q := (m_in b 0 2)) (tgt := 22) hx hb dX5_areModes_15 (by decide) (fun c_2 => ?_) (fun c_2 => ?_)
    · skip
      refine lv_iconst (v := 0) hx hb dX5_areModes_22 (by decide) ?_
      exact z_ret hx hb hr hlocks rfl (by first | rfl | (simp [bI, c_1, c_2]; done) | (simp only [bI, c_1, c_2, if_true, if_false, reduceIte, not_true_eq_false, not_false_eq_true]; done) | (simp only [bI]; split <;> first | rfl | (simp_all; done) | omega) | (simp_all [bI]; done)) dX5_areModes_23
    · skip
      refine lv_iconst (v := 1) hx hb dX5_areModes_18 (by decide) ?_
      refine lv_goto (tgt := 23) hx hb dX5_areModes_19 (by decide) ?_
      exact z_ret hx hb hr hlocks rfl (by first | rfl | (simp [bI, c_1, c_2]; done) | (simp only [bI, c_1, c_2, if_true, if_false, reduceIte, not_true_eq_false, not_false_eq_true]; done) | (simp only [bI]; split <;> first | rfl | (simp_all; done) | omega) | (simp_all [bI]; done)) dX5_areModes_23
set_option maxHeartbeats 4000000 in
set_option maxRecDepth 100000 in
theorem c_X5_far (l : Launch) (E : GG)  (a : Int32) (b : Int32)  : Met l yX5_far wsX5_far (Rm 0 0 0) (pR E [.int a, .int b] ([])) (QcRead (m_far a b)) 0 0 (fun _ => False) := by
  refine ofR (by decide) rfl (Nat.le_of_ble_eq_true rfl) ?_
  intro p e s m below meth c hx hb hr hlocks hml hown hts hK hP ls hl
  have hl : lv_has ls 2 [(0, .int a), (1, .int b)] := hl
  refine lv_iload_n hx hb dX5_far_0 rfl (lv_at hl 0 rfl) ?_
  refine lv_iload_n hx hb dX5_far_1 rfl (lv_at hl 1 rfl) ?_
  refine lv_icmp_le (tgt := 11) hx hb dX5_far_2 (by decide) (fun c_1 => ?_) (fun c_1 => ?_)
  · skip
    refine lv_iload_n hx hb dX5_far_11 rfl (lv_at hl 1 rfl) ?_
    refine lv_iload_n hx hb dX5_far_12 rfl (lv_at hl 0 rfl) ?_
    refine lv_isub hx hb dX5_far_13 ?_
    exact r_ret hx hb hr hlocks (by first | rfl | (simp [m_far, c_1]; done) | (simp only [m_far, c_1, if_true, if_false, reduceIte, not_true_eq_false, not_false_eq_true]; done) | (simp only [m_far]; split <;> first | rfl | (simp_all; done) | omega) | (simp_all [m_far]; done)) dX5_far_14
  · skip
    refine lv_iload_n hx hb dX5_far_5 rfl (lv_at hl 0 rfl) ?_
    refine lv_iload_n hx hb dX5_far_6 rfl (lv_at hl 1 rfl) ?_
    refine lv_isub hx hb dX5_far_7 ?_
    refine lv_goto (tgt := 14) hx hb dX5_far_8 (by decide) ?_
    exact r_ret hx hb hr hlocks (by first | rfl | (simp [m_far, c_1]; done) | (simp only [m_far, c_1, if_true, if_false, reduceIte, not_true_eq_false, not_false_eq_true]; done) | (simp only [m_far]; split <;> first | rfl | (simp_all; done) | omega) | (simp_all [m_far]; done)) dX5_far_14
set_option maxHeartbeats 4000000 in
set_option maxRecDepth 100000 in
theorem c_X5_loses (l : Launch) (E : GG) (r : Nat → Nat) (v : Nat → Int32) (f : Nat → Nat → Int32) (B C : Nat → Int32) (a : Int32) (b : Int32)  : Met l yX5_loses wsX5_loses (Rm 0 0 0) (pR E [.ref (r 0), .int a, .int b] (MW E r v f B C)) (QcRead (m_loses f a b)) 0 0 (fun _ => False) := by
  refine ofR (by decide) rfl (Nat.le_of_ble_eq_true rfl) ?_
  intro p e s m below meth c hx hb hr hlocks hml hown hts hK hP ls hl
  have hl : lv_has ls 4 [(0, .ref (r 0)), (1, .int a), (2, .int b)] := hl
  refine w_join (fun x : Int32 => x = (if a = 1 then f 11 0 else if a = 2 then -(f 13 0) else 0)) (fun x => F0 m 30 ls (.int x :: [])) ?_ (fun J30 => ?_)
  · rintro _ rfl
    refine lv_istore_n (lv' := [(3, .int (if a = 1 then f 11 0 else if a = 2 then -(f 13 0) else 0)), (0, .ref (r 0)), (1, .int a), (2, .int b)]) hx hb dX5_loses_30 rfl hl (by decide) rfl (fun ls hl => ?_)
    refine lv_iload_n hx hb dX5_loses_31 rfl (lv_at hl 0 rfl) ?_
    refine w_join (fun x : Int32 => x = (if b = 1 then f 11 1 else if b = 2 then -(f 13 1) else 0)) (fun x => F0 m 62 ls (.int x :: [.int (if a = 1 then f 11 0 else if a = 2 then -(f 13 0) else 0)])) ?_ (fun J62 => ?_)
    · rintro _ rfl
      refine lv_iadd hx hb dX5_loses_62 ?_
      exact r_ret hx hb hr hlocks (by first | rfl | (simp []; done) | (simp_all; done)) dX5_loses_63
    · skip
      refine lv_iload_n hx hb dX5_loses_32 rfl (lv_at hl 3 rfl) ?_
      refine lv_iconst (v := 1) hx hb dX5_loses_33 (by decide) ?_
      refine lv_icmp_ne (tgt := 46) hx hb dX5_loses_34 (by decide) (fun c_1 => ?_) (fun c_1 => ?_)
      · skip
        refine lv_iload_n hx hb dX5_loses_46 rfl (lv_at hl 3 rfl) ?_
        refine lv_iconst (v := 2) hx hb dX5_loses_47 (by decide) ?_
        refine lv_icmp_ne (tgt := 61) hx hb dX5_loses_48 (by decide) (fun c_2 => ?_) (fun c_2 => ?_)
        · skip
          refine lv_iconst (v := 0) hx hb dX5_loses_61 (by decide) ?_
          exact J62 _ (by first | rfl | (simp [c_1, c_2]; done) | (simp_all; done))
        · skip
          refine lv_aload_n hx hb dX5_loses_51 rfl (lv_at hl 1 rfl) ?_
          refine va_get (D := E.1) (ci := 5) (v := .ref (r 13)) (C := RX5) (T := TX5) (N := 26) hx hb hts (fun _ h => (List.mem_cons_of_mem _ (List.mem_append_right _ h))) hown hK.1 hP 0 rfl rfl 13 (by decide) (hts _ (List.mem_of_getElem? (i := 2) rfl)) (fun _ h9 => h9) rfl dX5_loses_52 ?_
          refine lv_iconst (v := 1) hx hb dX5_loses_55 (by decide) ?_
          refine n_iald (f := f 13) hx hb hK.1 hP 6 0 rfl rfl (i := 1) (by omega) (by decide) dX5_loses_56 ?_
          refine lv_ineg hx hb dX5_loses_57 ?_
          refine lv_goto (tgt := 62) hx hb dX5_loses_58 (by decide) ?_
          exact J62 _ (by first | rfl | (simp [c_1, c_2]; done) | (simp_all; done))
      · skip
        refine lv_aload_n hx hb dX5_loses_37 rfl (lv_at hl 1 rfl) ?_
        refine va_get (D := E.1) (ci := 5) (v := .ref (r 11)) (C := RX5) (T := TX5) (N := 26) hx hb hts (fun _ h => (List.mem_cons_of_mem _ (List.mem_append_right _ h))) hown hK.1 hP 0 rfl rfl 11 (by decide) (hts _ (List.mem_of_getElem? (i := 1) rfl)) (fun _ h9 => h9) rfl dX5_loses_38 ?_
        refine lv_iconst (v := 1) hx hb dX5_loses_41 (by decide) ?_
        refine n_iald (f := f 11) hx hb hK.1 hP 4 0 rfl rfl (i := 1) (by omega) (by decide) dX5_loses_42 ?_
        refine lv_goto (tgt := 62) hx hb dX5_loses_43 (by decide) ?_
        exact J62 _ (by first | rfl | (simp [c_1]; done) | (simp_all; done))
  · skip
    refine lv_iload_n hx hb dX5_loses_0 rfl (lv_at hl 1 rfl) ?_
    refine lv_iconst (v := 1) hx hb dX5_loses_1 (by decide) ?_
    refine lv_icmp_ne (tgt := 14) hx hb dX5_loses_2 (by decide) (fun c_3 => ?_) (fun c_3 => ?_)
    · skip
      refine lv_iload_n hx hb dX5_loses_14 rfl (lv_at hl 1 rfl) ?_
      refine lv_iconst (v := 2) hx hb dX5_loses_15 (by decide) ?_
      refine lv_icmp_ne (tgt := 29) hx hb dX5_loses_16 (by decide) (fun c_4 => ?_) (fun c_4 => ?_)
      · skip
        refine lv_iconst (v := 0) hx hb dX5_loses_29 (by decide) ?_
        exact J30 _ (by first | rfl | (simp [c_3, c_4]; done) | (simp_all; done))
      · skip
        refine lv_aload_n hx hb dX5_loses_19 rfl (lv_at hl 0 rfl) ?_
        refine va_get (D := E.1) (ci := 5) (v := .ref (r 13)) (C := RX5) (T := TX5) (N := 26) hx hb hts (fun _ h => (List.mem_cons_of_mem _ (List.mem_append_right _ h))) hown hK.1 hP 0 rfl rfl 13 (by decide) (hts _ (List.mem_of_getElem? (i := 2) rfl)) (fun _ h9 => h9) rfl dX5_loses_20 ?_
        refine lv_iconst (v := 0) hx hb dX5_loses_23 (by decide) ?_
        refine n_iald (f := f 13) hx hb hK.1 hP 6 0 rfl rfl (i := 0) (by omega) (by decide) dX5_loses_24 ?_
        refine lv_ineg hx hb dX5_loses_25 ?_
        refine lv_goto (tgt := 30) hx hb dX5_loses_26 (by decide) ?_
        exact J30 _ (by first | rfl | (simp [c_3, c_4]; done) | (simp_all; done))
    · skip
      refine lv_aload_n hx hb dX5_loses_5 rfl (lv_at hl 0 rfl) ?_
      refine va_get (D := E.1) (ci := 5) (v := .ref (r 11)) (C := RX5) (T := TX5) (N := 26) hx hb hts (fun _ h => (List.mem_cons_of_mem _ (List.mem_append_right _ h))) hown hK.1 hP 0 rfl rfl 11 (by decide) (hts _ (List.mem_of_getElem? (i := 1) rfl)) (fun _ h9 => h9) rfl dX5_loses_6 ?_
      refine lv_iconst (v := 0) hx hb dX5_loses_9 (by decide) ?_
      refine n_iald (f := f 11) hx hb hK.1 hP 4 0 rfl rfl (i := 0) (by omega) (by decide) dX5_loses_10 ?_
      refine lv_goto (tgt := 30) hx hb dX5_loses_11 (by decide) ?_
      exact J30 _ (by first | rfl | (simp [c_3]; done) | (simp_all; done))
set_option maxHeartbeats 4000000 in
set_option maxRecDepth 100000 in
theorem c_X5_mayGo (l : Launch) (E : GG) (r : Nat → Nat) (v : Nat → Int32) (f : Nat → Nat → Int32) (B C : Nat → Int32) (k : Nat) (h : Nat) (p0 : Int32) (a : Int32) (hk : k < 2) (hh : h < 24) : Met l yX5_mayGo wsX5_mayGo (Rm 0 0 0) (pR E [.ref (r 0), .int (nI k), .int (nI h), .int p0, .int a] (MW E r v f B C)) (QcRead (bI (m_mayGo f k h p0 a))) 0 0 (fun _ => False) := by
  refine ofR (by decide) rfl (Nat.le_of_ble_eq_true rfl) ?_
  intro p e s m below meth c hx hb hr hlocks hml hown hts hK hP ls hl
  have hl : lv_has ls 5 [(0, .ref (r 0)), (1, .int (nI k)), (2, .int (nI h)), (3, .int p0), (4, .int a)] := hl
  refine lv_iload hx hb dX5_mayGo_0 (lv_at hl 4 rfl) ?_
  refine lv_if_eq (tgt := 19) hx hb dX5_mayGo_2 (by decide) (fun c_1 => ?_) (fun c_1 => ?_)
  · skip
    refine lv_iload_n hx hb dX5_mayGo_19 rfl (lv_at hl 3 rfl) ?_
    refine lv_if_eq (tgt := 34) hx hb dX5_mayGo_20 (by decide) (fun c_2 => ?_) (fun c_2 => ?_)
    · skip
      refine lv_iconst (v := 1) hx hb dX5_mayGo_34 (by decide) ?_
      refine lv_goto (tgt := 39) hx hb dX5_mayGo_35 (by decide) ?_
      exact z_ret hx hb hr hlocks rfl (by first | rfl | (simp [bI, m_mayGo, c_1, c_2]; done) | (simp only [bI, m_mayGo, c_1, c_2, if_true, if_false, reduceIte, not_true_eq_false, not_false_eq_true]; done) | (simp only [bI, m_mayGo]; split <;> first | rfl | (simp_all; done) | omega) | (simp_all [bI, m_mayGo]; done)) dX5_mayGo_39
    · skip
      refine lv_iload hx hb dX5_mayGo_23 (lv_at hl 4 rfl) ?_
      refine lv_if_eq (tgt := 34) hx hb dX5_mayGo_25 (by decide) (fun c_3 => ?_) (fun c_3 => ?_)
      · skip
        refine lv_iconst (v := 1) hx hb dX5_mayGo_34 (by decide) ?_
        refine lv_goto (tgt := 39) hx hb dX5_mayGo_35 (by decide) ?_
        exact z_ret hx hb hr hlocks rfl (by first | rfl | (simp [bI, m_mayGo, c_1, c_2, c_3]; done) | (simp only [bI, m_mayGo, c_1, c_2, c_3, if_true, if_false, reduceIte, not_true_eq_false, not_false_eq_true]; done) | (simp only [bI, m_mayGo]; split <;> first | rfl | (simp_all; done) | omega) | (simp_all [bI, m_mayGo]; done)) dX5_mayGo_39
      · skip
        refine lv_iload_n hx hb dX5_mayGo_28 rfl (lv_at hl 3 rfl) ?_
        refine lv_iload hx hb dX5_mayGo_29 (lv_at hl 4 rfl) ?_
        refine lv_icmp_ne (tgt := 38) hx hb dX5_mayGo_31 (by decide) (fun c_4 => ?_) (fun c_4 => ?_)
        · skip
          refine lv_iconst (v := 0) hx hb dX5_mayGo_38 (by decide) ?_
          exact z_ret hx hb hr hlocks rfl (by first | rfl | (simp [bI, m_mayGo, c_1, c_2, c_3, c_4]; done) | (simp only [bI, m_mayGo, c_1, c_2, c_3, c_4, if_true, if_false, reduceIte, not_true_eq_false, not_false_eq_true]; done) | (simp only [bI, m_mayGo]; split <;> first | rfl | (simp_all; done) | omega) | (simp_all [bI, m_mayGo]; done)) dX5_mayGo_39
        · skip
          refine lv_iconst (v := 1) hx hb dX5_mayGo_34 (by decide) ?_
          refine lv_goto (tgt := 39) hx hb dX5_mayGo_35 (by decide) ?_
          exact z_ret hx hb hr hlocks rfl (by first | rfl | (simp [bI, m_mayGo, c_1, c_2, c_3, c_4]; done) | (simp only [bI, m_mayGo, c_1, c_2, c_3, c_4, if_true, if_false, reduceIte, not_true_eq_false, not_false_eq_true]; done) | (simp only [bI, m_mayGo]; split <;> first | rfl | (simp_all; done) | omega) | (simp_all [bI, m_mayGo]; done)) dX5_mayGo_39
  · skip
    refine lv_aload_n hx hb dX5_mayGo_5 rfl (lv_at hl 0 rfl) ?_
    refine va_get (D := E.1) (ci := 5) (v := .ref (r 16)) (C := RX5) (T := TX5) (N := 26) hx hb hts (fun _ h => (List.mem_cons_of_mem _ (List.mem_append_right _ h))) hown hK.1 hP 0 rfl rfl 16 (by decide) (hts _ (List.mem_of_getElem? (i := 1) rfl)) (fun _ h9 => h9) rfl dX5_mayGo_6 ?_
    refine lv_bipush (v := 24) hx hb dX5_mayGo_9 (by decide) ?_
    refine lv_iload_n hx hb dX5_mayGo_11 rfl (lv_at hl 1 rfl) ?_
    refine lv_imul hx hb dX5_mayGo_12 ?_
    refine w_top (show (24 * (nI k)) = (nI (24 * k)) from pk_mul _ _) ?_
    refine lv_iload_n hx hb dX5_mayGo_13 rfl (lv_at hl 2 rfl) ?_
    refine lv_iadd hx hb dX5_mayGo_14 ?_
    refine w_top (show ((nI (24 * k)) + (nI h)) = (nI ((24 * k) + h)) from nI_add _ _) ?_
    refine n_zald (f := f 16) hx hb hK.1 hP 9 1 rfl rfl (i := (24 * k) + h) (by omega) (by decide) dX5_mayGo_15 ?_
    refine lv_if_ne (tgt := 38) hx hb dX5_mayGo_16 (by decide) (fun c_5 => ?_) (fun c_5 => ?_)
    · skip
      refine lv_iconst (v := 0) hx hb dX5_mayGo_38 (by decide) ?_
      exact z_ret hx hb hr hlocks rfl (by first | rfl | (simp [bI, m_mayGo, c_1, c_5]; done) | (simp only [bI, m_mayGo, c_1, c_5, if_true, if_false, reduceIte, not_true_eq_false, not_false_eq_true]; done) | (simp only [bI, m_mayGo]; split <;> first | rfl | (simp_all; done) | omega) | (simp_all [bI, m_mayGo]; done)) dX5_mayGo_39
    · skip
      refine lv_iload_n hx hb dX5_mayGo_19 rfl (lv_at hl 3 rfl) ?_
      refine lv_if_eq (tgt := 34) hx hb dX5_mayGo_20 (by decide) (fun c_6 => ?_) (fun c_6 => ?_)
      · skip
        refine lv_iconst (v := 1) hx hb dX5_mayGo_34 (by decide) ?_
        refine lv_goto (tgt := 39) hx hb dX5_mayGo_35 (by decide) ?_
        exact z_ret hx hb hr hlocks rfl (by first | rfl | (simp [bI, m_mayGo, c_1, c_5, c_6]; done) | (simp only [bI, m_mayGo, c_1, c_5, c_6, if_true, if_false, reduceIte, not_true_eq_false, not_false_eq_true]; done) | (simp only [bI, m_mayGo]; split <;> first | rfl | (simp_all; done) | omega) | (simp_all [bI, m_mayGo]; done)) dX5_mayGo_39
      · skip
        refine lv_iload hx hb dX5_mayGo_23 (lv_at hl 4 rfl) ?_
        refine lv_if_eq (tgt := 34) hx hb dX5_mayGo_25 (by decide) (fun c_7 => ?_) (fun c_7 => ?_)
        · skip
          refine lv_iconst (v := 1) hx hb dX5_mayGo_34 (by decide) ?_
          refine lv_goto (tgt := 39) hx hb dX5_mayGo_35 (by decide) ?_
          exact z_ret hx hb hr hlocks rfl (by first | rfl | (simp [bI, m_mayGo, c_1, c_5, c_6, c_7]; done) | (simp only [bI, m_mayGo, c_1, c_5, c_6, c_7, if_true, if_false, reduceIte, not_true_eq_false, not_false_eq_true]; done) | (simp only [bI, m_mayGo]; split <;> first | rfl | (simp_all; done) | omega) | (simp_all [bI, m_mayGo]; done)) dX5_mayGo_39
        · skip
          refine lv_iload_n hx hb dX5_mayGo_28 rfl (lv_at hl 3 rfl) ?_
          refine lv_iload hx hb dX5_mayGo_29 (lv_at hl 4 rfl) ?_
          refine lv_icmp_ne (tgt := 38) hx hb dX5_mayGo_31 (by decide) (fun c_8 => ?_) (fun c_8 => ?_)
          · skip
            refine lv_iconst (v := 0) hx hb dX5_mayGo_38 (by decide) ?_
            exact z_ret hx hb hr hlocks rfl (by first | rfl | (simp [bI, m_mayGo, c_1, c_5, c_6, c_7, c_8]; done) | (simp only [bI, m_mayGo, c_1, c_5, c_6, c_7, c_8, if_true, if_false, reduceIte, not_true_eq_false, not_false_eq_true]; done) | (simp only [bI, m_mayGo]; split <;> first | rfl | (simp_all; done) | omega) | (simp_all [bI, m_mayGo]; done)) dX5_mayGo_39
          · skip
            refine lv_iconst (v := 1) hx hb dX5_mayGo_34 (by decide) ?_
            refine lv_goto (tgt := 39) hx hb dX5_mayGo_35 (by decide) ?_
            exact z_ret hx hb hr hlocks rfl (by first | rfl | (simp [bI, m_mayGo, c_1, c_5, c_6, c_7, c_8]; done) | (simp only [bI, m_mayGo, c_1, c_5, c_6, c_7, c_8, if_true, if_false, reduceIte, not_true_eq_false, not_false_eq_true]; done) | (simp only [bI, m_mayGo]; split <;> first | rfl | (simp_all; done) | omega) | (simp_all [bI, m_mayGo]; done)) dX5_mayGo_39
set_option maxHeartbeats 4000000 in
set_option maxRecDepth 100000 in
theorem c_X5_isReady (l : Launch) (E : GG) (r : Nat → Nat) (v : Nat → Int32) (f : Nat → Nat → Int32) (B C : Nat → Int32) (k : Nat) (h : Nat) (a : Int32) (hk : k < 2) (hh : h < 24) : Met l yX5_isReady wsX5_isReady (Rm 0 0 0) (pR E [.ref (r 0), .int (nI k), .int (nI h), .int a] (MW E r v f B C)) (QcRead (bI (a = 0 ∧ f 16 (24 * k + h) = 0))) 0 0 (fun _ => False) := by
  refine ofR (by decide) rfl (Nat.le_of_ble_eq_true rfl) ?_
  intro p e s m below meth c hx hb hr hlocks hml hown hts hK hP ls hl
  have hl : lv_has ls 4 [(0, .ref (r 0)), (1, .int (nI k)), (2, .int (nI h)), (3, .int a)] := hl
  refine lv_iload_n hx hb dX5_isReady_0 rfl (lv_at hl 3 rfl) ?_
  refine lv_if_ne (tgt := 22) hx hb dX5_isReady_1 (by decide) (fun c_1 => ?_) (fun c_1 => ?_)
  · skip
    refine lv_iconst (v := 0) hx hb dX5_isReady_22 (by decide) ?_
    exact z_ret hx hb hr hlocks rfl (by first | rfl | (simp [bI, c_1]; done) | (simp only [bI, c_1, if_true, if_false, reduceIte, not_true_eq_false, not_false_eq_true]; done) | (simp only [bI]; split <;> first | rfl | (simp_all; done) | omega) | (simp_all [bI]; done)) dX5_isReady_23
  · skip
    refine lv_aload_n hx hb dX5_isReady_4 rfl (lv_at hl 0 rfl) ?_
    refine va_get (D := E.1) (ci := 5) (v := .ref (r 16)) (C := RX5) (T := TX5) (N := 26) hx hb hts (fun _ h => (List.mem_cons_of_mem _ (List.mem_append_right _ h))) hown hK.1 hP 0 rfl rfl 16 (by decide) (hts _ (List.mem_of_getElem? (i := 1) rfl)) (fun _ h9 => h9) rfl dX5_isReady_5 ?_
    refine lv_bipush (v := 24) hx hb dX5_isReady_8 (by decide) ?_
    refine lv_iload_n hx hb dX5_isReady_10 rfl (lv_at hl 1 rfl) ?_
    refine lv_imul hx hb dX5_isReady_11 ?_
    refine w_top (show (24 * (nI k)) = (nI (24 * k)) from pk_mul _ _) ?_
    refine lv_iload_n hx hb dX5_isReady_12 rfl (lv_at hl 2 rfl) ?_
    refine lv_iadd hx hb dX5_isReady_13 ?_
    refine w_top (show ((nI (24 * k)) + (nI h)) = (nI ((24 * k) + h)) from nI_add _ _) ?_
    refine n_zald (f := f 16) hx hb hK.1 hP 9 1 rfl rfl (i := (24 * k) + h) (by omega) (by decide) dX5_isReady_14 ?_
    refine lv_if_ne (tgt := 22) hx hb dX5_isReady_15 (by decide) (fun c_2 => ?_) (fun c_2 => ?_)
    · skip
      refine lv_iconst (v := 0) hx hb dX5_isReady_22 (by decide) ?_
      exact z_ret hx hb hr hlocks rfl (by first | rfl | (simp [bI, c_1, c_2]; done) | (simp only [bI, c_1, c_2, if_true, if_false, reduceIte, not_true_eq_false, not_false_eq_true]; done) | (simp only [bI]; split <;> first | rfl | (simp_all; done) | omega) | (simp_all [bI]; done)) dX5_isReady_23
    · skip
      refine lv_iconst (v := 1) hx hb dX5_isReady_18 (by decide) ?_
      refine lv_goto (tgt := 23) hx hb dX5_isReady_19 (by decide) ?_
      exact z_ret hx hb hr hlocks rfl (by first | rfl | (simp [bI, c_1, c_2]; done) | (simp only [bI, c_1, c_2, if_true, if_false, reduceIte, not_true_eq_false, not_false_eq_true]; done) | (simp only [bI]; split <;> first | rfl | (simp_all; done) | omega) | (simp_all [bI]; done)) dX5_isReady_23
set_option maxHeartbeats 4000000 in
set_option maxRecDepth 100000 in
theorem c_X5_isReserved (l : Launch) (E : GG) (r : Nat → Nat) (v : Nat → Int32) (f : Nat → Nat → Int32) (B C : Nat → Int32) (h : Nat) (u : Int32) (a : Int32) (b : Int32) (hh : h < 24) : Met l yX5_isReserved wsX5_isReserved (Rm 1 0 0) (pR E [.ref (r 0), .int (nI h), .int u, .int a, .int b] (MW E r v f B C)) (QcRead (bI (m_reserved f h u a b))) 0 0 (fun _ => False) := by
  refine ofR (by decide) rfl (Nat.le_of_ble_eq_true rfl) ?_
  intro p e s m below meth c hx hb hr hlocks hml hown hts hK hP ls hl
  have hl : lv_has ls 7 [(0, .ref (r 0)), (1, .int (nI h)), (2, .int u), (3, .int a), (4, .int b)] := hl
  refine w_join (fun x : Int32 => x = m_power f 0 h a) (fun x => F0 m 34 ls (.int x :: [])) ?_ (fun J34 => ?_)
  · rintro _ rfl
    refine w_join (fun x : Int32 => x = m_power f 1 h b) (fun x => F0 m 70 ls (.int x :: [.int (m_power f 0 h a)])) ?_ (fun J70 => ?_)
    · rintro _ rfl
      refine lv_iadd hx hb dX5_isReserved_70 ?_
      refine lv_istore (lv' := [(5, .int ((m_power f 0 h a) + (m_power f 1 h b))), (0, .ref (r 0)), (1, .int (nI h)), (2, .int u), (3, .int a), (4, .int b)]) hx hb dX5_isReserved_71 hl (by decide) rfl (fun ls hl => ?_)
      refine w_join (fun x : Int32 => x = m_units f 0 h a) (fun x => F0 m 98 ls (.int x :: [])) ?_ (fun J98 => ?_)
      · rintro _ rfl
        refine w_join (fun x : Int32 => x = m_units f 1 h b) (fun x => F0 m 125 ls (.int x :: [.int (m_units f 0 h a)])) ?_ (fun J125 => ?_)
        · rintro _ rfl
          refine lv_iadd hx hb dX5_isReserved_125 ?_
          refine lv_istore (lv' := [(6, .int ((m_units f 0 h a) + (m_units f 1 h b))), (5, .int ((m_power f 0 h a) + (m_power f 1 h b))), (0, .ref (r 0)), (1, .int (nI h)), (2, .int u), (3, .int a), (4, .int b)]) hx hb dX5_isReserved_126 hl (by decide) rfl (fun ls hl => ?_)
          refine lv_aload_n hx hb dX5_isReserved_128 rfl (lv_at hl 2 rfl) ?_
          refine va_get (D := E.1) (ci := 5) (v := .ref (r 10)) (C := RX5) (T := TX5) (N := 26) hx hb hts (fun _ h => (List.mem_cons_of_mem _ (List.mem_append_right _ h))) hown hK.1 hP 0 rfl rfl 10 (by decide) (hts _ (List.mem_of_getElem? (i := 4) rfl)) (fun _ h9 => h9) rfl dX5_isReserved_129 ?_
          refine lv_iload_n hx hb dX5_isReserved_132 rfl (lv_at hl 3 rfl) ?_
          refine n_iald (f := f 10) hx hb hK.1 hP 3 0 rfl rfl (i := h) (by omega) (by decide) dX5_isReserved_133 ?_
          refine lv_if_eq (tgt := 154) hx hb dX5_isReserved_134 (by decide) (fun c_1 => ?_) (fun c_1 => ?_)
          · skip
            refine lv_iconst (v := 1) hx hb dX5_isReserved_154 (by decide) ?_
            refine lv_goto (tgt := 159) hx hb dX5_isReserved_155 (by decide) ?_
            exact z_ret hx hb hr hlocks rfl (by first | rfl | (simp [bI, m_reserved, c_1]; done) | (simp only [bI, m_reserved, c_1, if_true, if_false, reduceIte, not_true_eq_false, not_false_eq_true]; done) | (simp only [bI, m_reserved]; split <;> first | rfl | (simp_all; done) | omega) | (simp_all [bI, m_reserved]; done)) dX5_isReserved_159
          · skip
            refine lv_iload hx hb dX5_isReserved_137 (lv_at hl 1 rfl) ?_
            refine lv_aload_n hx hb dX5_isReserved_139 rfl (lv_at hl 2 rfl) ?_
            refine va_get (D := E.1) (ci := 5) (v := .ref (r 10)) (C := RX5) (T := TX5) (N := 26) hx hb hts (fun _ h => (List.mem_cons_of_mem _ (List.mem_append_right _ h))) hown hK.1 hP 0 rfl rfl 10 (by decide) (hts _ (List.mem_of_getElem? (i := 4) rfl)) (fun _ h9 => h9) rfl dX5_isReserved_140 ?_
            refine lv_iload_n hx hb dX5_isReserved_143 rfl (lv_at hl 3 rfl) ?_
            refine n_iald (f := f 10) hx hb hK.1 hP 3 0 rfl rfl (i := h) (by omega) (by decide) dX5_isReserved_144 ?_
            refine lv_icmp_lt (tgt := 158) hx hb dX5_isReserved_145 (by decide) (fun c_2 => ?_) (fun c_2 => ?_)
            · skip
              refine lv_iconst (v := 0) hx hb dX5_isReserved_158 (by decide) ?_
              exact z_ret hx hb hr hlocks rfl (by first | rfl | (simp [bI, m_reserved, c_1, c_2]; done) | (simp only [bI, m_reserved, c_1, c_2, if_true, if_false, reduceIte, not_true_eq_false, not_false_eq_true]; done) | (simp only [bI, m_reserved]; split <;> first | rfl | (simp_all; done) | omega) | (simp_all [bI, m_reserved]; done)) dX5_isReserved_159
            · skip
              refine lv_iload_n hx hb dX5_isReserved_148 rfl (lv_at hl 4 rfl) ?_
              refine lv_iload hx hb dX5_isReserved_149 (lv_at hl 0 rfl) ?_
              refine lv_icmp_lt (tgt := 158) hx hb dX5_isReserved_151 (by decide) (fun c_3 => ?_) (fun c_3 => ?_)
              · skip
                refine lv_iconst (v := 0) hx hb dX5_isReserved_158 (by decide) ?_
                exact z_ret hx hb hr hlocks rfl (by first | rfl | (simp [bI, m_reserved, c_1, c_2, c_3]; done) | (simp only [bI, m_reserved, c_1, c_2, c_3, if_true, if_false, reduceIte, not_true_eq_false, not_false_eq_true]; done) | (simp only [bI, m_reserved]; split <;> first | rfl | (simp_all; done) | omega) | (simp_all [bI, m_reserved]; done)) dX5_isReserved_159
              · skip
                refine lv_iconst (v := 1) hx hb dX5_isReserved_154 (by decide) ?_
                refine lv_goto (tgt := 159) hx hb dX5_isReserved_155 (by decide) ?_
                exact z_ret hx hb hr hlocks rfl (by first | rfl | (simp [bI, m_reserved, c_1, c_2, c_3]; done) | (simp only [bI, m_reserved, c_1, c_2, c_3, if_true, if_false, reduceIte, not_true_eq_false, not_false_eq_true]; done) | (simp only [bI, m_reserved]; split <;> first | rfl | (simp_all; done) | omega) | (simp_all [bI, m_reserved]; done)) dX5_isReserved_159
        · skip
          refine lv_aload_n hx hb dX5_isReserved_98 rfl (lv_at hl 1 rfl) ?_
          refine lv_iconst (v := 1) hx hb dX5_isReserved_99 (by decide) ?_
          refine lv_iload_n hx hb dX5_isReserved_100 rfl (lv_at hl 2 rfl) ?_
          refine lv_iload hx hb dX5_isReserved_101 (lv_at hl 5 rfl) ?_
          refine cR_V ⟨hx, hb, hml, hown, hts⟩ (c_X5_isReady l E r v f B C 1 h b (by omega) (by omega)) (cwV 3 hts gX5_isReserved_X5_isReady rfl rfl rfl (by decide +kernel) ⟨Nat.le_of_ble_eq_true rfl, Nat.le_of_ble_eq_true rfl⟩) hK hP 5 0 rfl rfl rfl hl.1 rfl (Nat.le_of_ble_eq_true rfl) dX5_isReserved_103 ⟨Nat.le_of_ble_eq_true rfl, Nat.le_of_ble_eq_true rfl⟩ ?_
          refine b_if_ne (q := (b = 0 ∧ f 16 (24 * 1 + h) = 0)) (tgt := 115) hx hb dX5_isReserved_106 (by decide) (fun c_4 => ?_) (fun c_4 => ?_)
          · skip
            refine lv_aload_n hx hb dX5_isReserved_115 rfl (lv_at hl 1 rfl) ?_
            refine va_get (D := E.1) (ci := 5) (v := .ref (r 11)) (C := RX5) (T := TX5) (N := 26) hx hb hts (fun _ h => (List.mem_cons_of_mem _ (List.mem_append_right _ h))) hown hK.1 hP 0 rfl rfl 11 (by decide) (hts _ (List.mem_of_getElem? (i := 3) rfl)) (fun _ h9 => h9) rfl dX5_isReserved_116 ?_
            refine lv_iconst (v := 1) hx hb dX5_isReserved_119 (by decide) ?_
            refine n_iald (f := f 11) hx hb hK.1 hP 4 0 rfl rfl (i := 1) (by omega) (by decide) dX5_isReserved_120 ?_
            refine lv_goto (tgt := 125) hx hb dX5_isReserved_121 (by decide) ?_
            exact J125 _ (by first | rfl | (simp [m_units, c_4]; done) | (simp only [m_units, c_4, if_true, if_false, reduceIte, not_true_eq_false, not_false_eq_true]; done) | (simp only [m_units]; split <;> first | rfl | (simp_all; done) | omega) | (simp_all [m_units]; done))
          · skip
            refine lv_iload hx hb dX5_isReserved_109 (lv_at hl 5 rfl) ?_
            refine lv_iconst (v := 1) hx hb dX5_isReserved_111 (by decide) ?_
            refine lv_icmp_ne (tgt := 124) hx hb dX5_isReserved_112 (by decide) (fun c_5 => ?_) (fun c_5 => ?_)
            · skip
              refine lv_iconst (v := 0) hx hb dX5_isReserved_124 (by decide) ?_
              exact J125 _ (by first | rfl | (simp [m_units, c_4, c_5]; done) | (simp only [m_units, c_4, c_5, if_true, if_false, reduceIte, not_true_eq_false, not_false_eq_true]; done) | (simp only [m_units]; split <;> first | rfl | (simp_all; done) | omega) | (simp_all [m_units]; done))
            · skip
              refine lv_aload_n hx hb dX5_isReserved_115 rfl (lv_at hl 1 rfl) ?_
              refine va_get (D := E.1) (ci := 5) (v := .ref (r 11)) (C := RX5) (T := TX5) (N := 26) hx hb hts (fun _ h => (List.mem_cons_of_mem _ (List.mem_append_right _ h))) hown hK.1 hP 0 rfl rfl 11 (by decide) (hts _ (List.mem_of_getElem? (i := 3) rfl)) (fun _ h9 => h9) rfl dX5_isReserved_116 ?_
              refine lv_iconst (v := 1) hx hb dX5_isReserved_119 (by decide) ?_
              refine n_iald (f := f 11) hx hb hK.1 hP 4 0 rfl rfl (i := 1) (by omega) (by decide) dX5_isReserved_120 ?_
              refine lv_goto (tgt := 125) hx hb dX5_isReserved_121 (by decide) ?_
              exact J125 _ (by first | rfl | (simp [m_units, c_4, c_5]; done) | (simp only [m_units, c_4, c_5, if_true, if_false, reduceIte, not_true_eq_false, not_false_eq_true]; done) | (simp only [m_units]; split <;> first | rfl | (simp_all; done) | omega) | (simp_all [m_units]; done))
      · skip
        refine lv_aload_n hx hb dX5_isReserved_73 rfl (lv_at hl 1 rfl) ?_
        refine lv_iconst (v := 0) hx hb dX5_isReserved_74 (by decide) ?_
        refine lv_iload_n hx hb dX5_isReserved_75 rfl (lv_at hl 2 rfl) ?_
        refine lv_iload_n hx hb dX5_isReserved_76 rfl (lv_at hl 4 rfl) ?_
        refine cR_V ⟨hx, hb, hml, hown, hts⟩ (c_X5_isReady l E r v f B C 0 h a (by omega) (by omega)) (cwV 3 hts gX5_isReserved_X5_isReady rfl rfl rfl (by decide +kernel) ⟨Nat.le_of_ble_eq_true rfl, Nat.le_of_ble_eq_true rfl⟩) hK hP 5 0 rfl rfl rfl hl.1 rfl (Nat.le_of_ble_eq_true rfl) dX5_isReserved_77 ⟨Nat.le_of_ble_eq_true rfl, Nat.le_of_ble_eq_true rfl⟩ ?_
        refine b_if_ne (q := (a = 0 ∧ f 16 (24 * 0 + h) = 0)) (tgt := 88) hx hb dX5_isReserved_80 (by decide) (fun c_6 => ?_) (fun c_6 => ?_)
        · skip
          refine lv_aload_n hx hb dX5_isReserved_88 rfl (lv_at hl 1 rfl) ?_
          refine va_get (D := E.1) (ci := 5) (v := .ref (r 11)) (C := RX5) (T := TX5) (N := 26) hx hb hts (fun _ h => (List.mem_cons_of_mem _ (List.mem_append_right _ h))) hown hK.1 hP 0 rfl rfl 11 (by decide) (hts _ (List.mem_of_getElem? (i := 3) rfl)) (fun _ h9 => h9) rfl dX5_isReserved_89 ?_
          refine lv_iconst (v := 0) hx hb dX5_isReserved_92 (by decide) ?_
          refine n_iald (f := f 11) hx hb hK.1 hP 4 0 rfl rfl (i := 0) (by omega) (by decide) dX5_isReserved_93 ?_
          refine lv_goto (tgt := 98) hx hb dX5_isReserved_94 (by decide) ?_
          exact J98 _ (by first | rfl | (simp [m_units, c_6]; done) | (simp only [m_units, c_6, if_true, if_false, reduceIte, not_true_eq_false, not_false_eq_true]; done) | (simp only [m_units]; split <;> first | rfl | (simp_all; done) | omega) | (simp_all [m_units]; done))
        · skip
          refine lv_iload_n hx hb dX5_isReserved_83 rfl (lv_at hl 4 rfl) ?_
          refine lv_iconst (v := 1) hx hb dX5_isReserved_84 (by decide) ?_
          refine lv_icmp_ne (tgt := 97) hx hb dX5_isReserved_85 (by decide) (fun c_7 => ?_) (fun c_7 => ?_)
          · skip
            refine lv_iconst (v := 0) hx hb dX5_isReserved_97 (by decide) ?_
            exact J98 _ (by first | rfl | (simp [m_units, c_6, c_7]; done) | (simp only [m_units, c_6, c_7, if_true, if_false, reduceIte, not_true_eq_false, not_false_eq_true]; done) | (simp only [m_units]; split <;> first | rfl | (simp_all; done) | omega) | (simp_all [m_units]; done))
          · skip
            refine lv_aload_n hx hb dX5_isReserved_88 rfl (lv_at hl 1 rfl) ?_
            refine va_get (D := E.1) (ci := 5) (v := .ref (r 11)) (C := RX5) (T := TX5) (N := 26) hx hb hts (fun _ h => (List.mem_cons_of_mem _ (List.mem_append_right _ h))) hown hK.1 hP 0 rfl rfl 11 (by decide) (hts _ (List.mem_of_getElem? (i := 3) rfl)) (fun _ h9 => h9) rfl dX5_isReserved_89 ?_
            refine lv_iconst (v := 0) hx hb dX5_isReserved_92 (by decide) ?_
            refine n_iald (f := f 11) hx hb hK.1 hP 4 0 rfl rfl (i := 0) (by omega) (by decide) dX5_isReserved_93 ?_
            refine lv_goto (tgt := 98) hx hb dX5_isReserved_94 (by decide) ?_
            exact J98 _ (by first | rfl | (simp [m_units, c_6, c_7]; done) | (simp only [m_units, c_6, c_7, if_true, if_false, reduceIte, not_true_eq_false, not_false_eq_true]; done) | (simp only [m_units]; split <;> first | rfl | (simp_all; done) | omega) | (simp_all [m_units]; done))
    · skip
      refine lv_aload_n hx hb dX5_isReserved_34 rfl (lv_at hl 0 rfl) ?_
      refine lv_iconst (v := 1) hx hb dX5_isReserved_35 (by decide) ?_
      refine lv_iload_n hx hb dX5_isReserved_36 rfl (lv_at hl 1 rfl) ?_
      refine lv_iload hx hb dX5_isReserved_37 (lv_at hl 4 rfl) ?_
      refine cR_V ⟨hx, hb, hml, hown, hts⟩ (c_X5_isReady l E r v f B C 1 h b (by omega) (by omega)) (cwV 3 hts gX5_isReserved_X5_isReady rfl rfl rfl (by decide +kernel) ⟨Nat.le_of_ble_eq_true rfl, Nat.le_of_ble_eq_true rfl⟩) hK hP 5 0 rfl rfl rfl hl.1 rfl (Nat.le_of_ble_eq_true rfl) dX5_isReserved_39 ⟨Nat.le_of_ble_eq_true rfl, Nat.le_of_ble_eq_true rfl⟩ ?_
      refine b_if_eq (q := (b = 0 ∧ f 16 (24 * 1 + h) = 0)) (tgt := 54) hx hb dX5_isReserved_42 (by decide) (fun c_8 => ?_) (fun c_8 => ?_)
      · skip
        refine lv_iload hx hb dX5_isReserved_54 (lv_at hl 4 rfl) ?_
        refine lv_iconst (v := 2) hx hb dX5_isReserved_56 (by decide) ?_
        refine lv_icmp_ne (tgt := 69) hx hb dX5_isReserved_57 (by decide) (fun c_9 => ?_) (fun c_9 => ?_)
        · skip
          refine lv_iconst (v := 0) hx hb dX5_isReserved_69 (by decide) ?_
          exact J70 _ (by first | rfl | (simp [m_power, c_8, c_9]; done) | (simp only [m_power, c_8, c_9, if_true, if_false, reduceIte, not_true_eq_false, not_false_eq_true]; done) | (simp only [m_power]; split <;> first | rfl | (simp_all; done) | omega) | (simp_all [m_power]; done))
        · skip
          refine lv_aload_n hx hb dX5_isReserved_60 rfl (lv_at hl 0 rfl) ?_
          refine va_get (D := E.1) (ci := 5) (v := .ref (r 14)) (C := RX5) (T := TX5) (N := 26) hx hb hts (fun _ h => (List.mem_cons_of_mem _ (List.mem_append_right _ h))) hown hK.1 hP 0 rfl rfl 14 (by decide) (hts _ (List.mem_of_getElem? (i := 2) rfl)) (fun _ h9 => h9) rfl dX5_isReserved_61 ?_
          refine lv_iconst (v := 1) hx hb dX5_isReserved_64 (by decide) ?_
          refine n_iald (f := f 14) hx hb hK.1 hP 7 0 rfl rfl (i := 1) (by omega) (by decide) dX5_isReserved_65 ?_
          refine lv_goto (tgt := 70) hx hb dX5_isReserved_66 (by decide) ?_
          exact J70 _ (by first | rfl | (simp [m_power, c_8, c_9]; done) | (simp only [m_power, c_8, c_9, if_true, if_false, reduceIte, not_true_eq_false, not_false_eq_true]; done) | (simp only [m_power]; split <;> first | rfl | (simp_all; done) | omega) | (simp_all [m_power]; done))
      · skip
        refine lv_aload_n hx hb dX5_isReserved_45 rfl (lv_at hl 0 rfl) ?_
        refine va_get (D := E.1) (ci := 5) (v := .ref (r 12)) (C := RX5) (T := TX5) (N := 26) hx hb hts (fun _ h => (List.mem_cons_of_mem _ (List.mem_append_right _ h))) hown hK.1 hP 0 rfl rfl 12 (by decide) (hts _ (List.mem_of_getElem? (i := 1) rfl)) (fun _ h9 => h9) rfl dX5_isReserved_46 ?_
        refine lv_iconst (v := 1) hx hb dX5_isReserved_49 (by decide) ?_
        refine n_iald (f := f 12) hx hb hK.1 hP 5 0 rfl rfl (i := 1) (by omega) (by decide) dX5_isReserved_50 ?_
        refine lv_goto (tgt := 70) hx hb dX5_isReserved_51 (by decide) ?_
        exact J70 _ (by first | rfl | (simp [m_power, c_8]; done) | (simp only [m_power, c_8, if_true, if_false, reduceIte, not_true_eq_false, not_false_eq_true]; done) | (simp only [m_power]; split <;> first | rfl | (simp_all; done) | omega) | (simp_all [m_power]; done))
  · skip
    refine lv_aload_n hx hb dX5_isReserved_0 rfl (lv_at hl 0 rfl) ?_
    refine lv_iconst (v := 0) hx hb dX5_isReserved_1 (by decide) ?_
    refine lv_iload_n hx hb dX5_isReserved_2 rfl (lv_at hl 1 rfl) ?_
    refine lv_iload_n hx hb dX5_isReserved_3 rfl (lv_at hl 3 rfl) ?_
    refine cR_V ⟨hx, hb, hml, hown, hts⟩ (c_X5_isReady l E r v f B C 0 h a (by omega) (by omega)) (cwV 3 hts gX5_isReserved_X5_isReady rfl rfl rfl (by decide +kernel) ⟨Nat.le_of_ble_eq_true rfl, Nat.le_of_ble_eq_true rfl⟩) hK hP 5 0 rfl rfl rfl hl.1 rfl (Nat.le_of_ble_eq_true rfl) dX5_isReserved_4 ⟨Nat.le_of_ble_eq_true rfl, Nat.le_of_ble_eq_true rfl⟩ ?_
    refine b_if_eq (q := (a = 0 ∧ f 16 (24 * 0 + h) = 0)) (tgt := 19) hx hb dX5_isReserved_7 (by decide) (fun c_10 => ?_) (fun c_10 => ?_)
    · skip
      refine lv_iload_n hx hb dX5_isReserved_19 rfl (lv_at hl 3 rfl) ?_
      refine lv_iconst (v := 2) hx hb dX5_isReserved_20 (by decide) ?_
      refine lv_icmp_ne (tgt := 33) hx hb dX5_isReserved_21 (by decide) (fun c_11 => ?_) (fun c_11 => ?_)
      · skip
        refine lv_iconst (v := 0) hx hb dX5_isReserved_33 (by decide) ?_
        exact J34 _ (by first | rfl | (simp [m_power, c_10, c_11]; done) | (simp only [m_power, c_10, c_11, if_true, if_false, reduceIte, not_true_eq_false, not_false_eq_true]; done) | (simp only [m_power]; split <;> first | rfl | (simp_all; done) | omega) | (simp_all [m_power]; done))
      · skip
        refine lv_aload_n hx hb dX5_isReserved_24 rfl (lv_at hl 0 rfl) ?_
        refine va_get (D := E.1) (ci := 5) (v := .ref (r 14)) (C := RX5) (T := TX5) (N := 26) hx hb hts (fun _ h => (List.mem_cons_of_mem _ (List.mem_append_right _ h))) hown hK.1 hP 0 rfl rfl 14 (by decide) (hts _ (List.mem_of_getElem? (i := 2) rfl)) (fun _ h9 => h9) rfl dX5_isReserved_25 ?_
        refine lv_iconst (v := 0) hx hb dX5_isReserved_28 (by decide) ?_
        refine n_iald (f := f 14) hx hb hK.1 hP 7 0 rfl rfl (i := 0) (by omega) (by decide) dX5_isReserved_29 ?_
        refine lv_goto (tgt := 34) hx hb dX5_isReserved_30 (by decide) ?_
        exact J34 _ (by first | rfl | (simp [m_power, c_10, c_11]; done) | (simp only [m_power, c_10, c_11, if_true, if_false, reduceIte, not_true_eq_false, not_false_eq_true]; done) | (simp only [m_power]; split <;> first | rfl | (simp_all; done) | omega) | (simp_all [m_power]; done))
    · skip
      refine lv_aload_n hx hb dX5_isReserved_10 rfl (lv_at hl 0 rfl) ?_
      refine va_get (D := E.1) (ci := 5) (v := .ref (r 12)) (C := RX5) (T := TX5) (N := 26) hx hb hts (fun _ h => (List.mem_cons_of_mem _ (List.mem_append_right _ h))) hown hK.1 hP 0 rfl rfl 12 (by decide) (hts _ (List.mem_of_getElem? (i := 1) rfl)) (fun _ h9 => h9) rfl dX5_isReserved_11 ?_
      refine lv_iconst (v := 0) hx hb dX5_isReserved_14 (by decide) ?_
      refine n_iald (f := f 12) hx hb hK.1 hP 5 0 rfl rfl (i := 0) (by omega) (by decide) dX5_isReserved_15 ?_
      refine lv_goto (tgt := 34) hx hb dX5_isReserved_16 (by decide) ?_
      exact J34 _ (by first | rfl | (simp [m_power, c_10]; done) | (simp only [m_power, c_10, if_true, if_false, reduceIte, not_true_eq_false, not_false_eq_true]; done) | (simp only [m_power]; split <;> first | rfl | (simp_all; done) | omega) | (simp_all [m_power]; done))
set_option maxHeartbeats 4000000 in
set_option maxRecDepth 100000 in
theorem c_X5_isLegal (l : Launch) (E : GG) (r : Nat → Nat) (v : Nat → Int32) (f : Nat → Nat → Int32) (B C : Nat → Int32) (h : Nat) (u : Int32) (l1 : Int32) (p0 : Int32) (q0 : Int32) (a : Int32) (b : Int32) (hh : h < 24) : Met l yX5_isLegal wsX5_isLegal (Rm 2 0 0) (pR E [.ref (r 0), .int (nI h), .int u, .int l1, .int p0, .int q0, .int a, .int b] (MW E r v f B C)) (QcRead (bI (m_legal v f h u l1 p0 q0 a b))) 0 0 (fun _ => False) := by
  refine ofR (by decide) rfl (Nat.le_of_ble_eq_true rfl) ?_
  intro p e s m below meth c hx hb hr hlocks hml hown hts hK hP ls hl
  have hl : lv_has ls 12 [(0, .ref (r 0)), (1, .int (nI h)), (2, .int u), (3, .int l1), (4, .int p0), (5, .int q0), (6, .int a), (7, .int b)] := hl
  refine lv_aload_n hx hb dX5_isLegal_0 rfl (lv_at hl 0 rfl) ?_
  refine lv_iload hx hb dX5_isLegal_1 (lv_at hl 6 rfl) ?_
  refine lv_iload hx hb dX5_isLegal_3 (lv_at hl 7 rfl) ?_
  refine cR_V ⟨hx, hb, hml, hown, hts⟩ (c_X5_loses l E r v f B C a b) (cwV 2 hts gX5_isLegal_X5_loses rfl rfl rfl (by decide +kernel) ⟨Nat.le_of_ble_eq_true rfl, Nat.le_of_ble_eq_true rfl⟩) hK hP 5 0 rfl rfl rfl hl.1 rfl (Nat.le_of_ble_eq_true rfl) dX5_isLegal_5 ⟨Nat.le_of_ble_eq_true rfl, Nat.le_of_ble_eq_true rfl⟩ ?_
  refine lv_istore (lv' := [(8, .int (m_loses f a b)), (0, .ref (r 0)), (1, .int (nI h)), (2, .int u), (3, .int l1), (4, .int p0), (5, .int q0), (6, .int a), (7, .int b)]) hx hb dX5_isLegal_8 hl (by decide) rfl (fun ls hl => ?_)
  refine lv_iload_n hx hb dX5_isLegal_10 rfl (lv_at hl 3 rfl) ?_
  refine lv_aload_n hx hb dX5_isLegal_11 rfl (lv_at hl 1 rfl) ?_
  refine va_get (D := E.1) (ci := 5) (v := .ref (r 8)) (C := RX5) (T := TX5) (N := 26) hx hb hts (fun _ h => (List.mem_cons_of_mem _ (List.mem_append_right _ h))) hown hK.1 hP 0 rfl rfl 8 (by decide) (hts _ (List.mem_of_getElem? (i := 1) rfl)) (fun _ h9 => h9) rfl dX5_isLegal_12 ?_
  refine lv_iload_n hx hb dX5_isLegal_15 rfl (lv_at hl 2 rfl) ?_
  refine n_iald (f := f 8) hx hb hK.1 hP 1 0 rfl rfl (i := h) (by omega) (by decide) dX5_isLegal_16 ?_
  refine lv_iadd hx hb dX5_isLegal_17 ?_
  refine lv_iload hx hb dX5_isLegal_18 (lv_at hl 0 rfl) ?_
  refine lv_isub hx hb dX5_isLegal_20 ?_
  refine lv_istore (lv' := [(9, .int ((u + (f 8 h)) - (m_loses f a b))), (8, .int (m_loses f a b)), (0, .ref (r 0)), (1, .int (nI h)), (2, .int u), (3, .int l1), (4, .int p0), (5, .int q0), (6, .int a), (7, .int b)]) hx hb dX5_isLegal_21 hl (by decide) rfl (fun ls hl => ?_)
  refine lv_iload_n hx hb dX5_isLegal_23 rfl (lv_at hl 5 rfl) ?_
  refine lv_iload hx hb dX5_isLegal_24 (lv_at hl 1 rfl) ?_
  refine lv_iadd hx hb dX5_isLegal_26 ?_
  refine lv_aload_n hx hb dX5_isLegal_27 rfl (lv_at hl 2 rfl) ?_
  refine va_get (D := E.1) (ci := 5) (v := .ref (r 9)) (C := RX5) (T := TX5) (N := 26) hx hb hts (fun _ h => (List.mem_cons_of_mem _ (List.mem_append_right _ h))) hown hK.1 hP 0 rfl rfl 9 (by decide) (hts _ (List.mem_of_getElem? (i := 2) rfl)) (fun _ h9 => h9) rfl dX5_isLegal_28 ?_
  refine lv_iload_n hx hb dX5_isLegal_31 rfl (lv_at hl 3 rfl) ?_
  refine n_iald (f := f 9) hx hb hK.1 hP 2 0 rfl rfl (i := h) (by omega) (by decide) dX5_isLegal_32 ?_
  refine lv_isub hx hb dX5_isLegal_33 ?_
  refine lv_istore (lv' := [(10, .int ((l1 + (m_loses f a b)) - (f 9 h))), (9, .int ((u + (f 8 h)) - (m_loses f a b))), (8, .int (m_loses f a b)), (0, .ref (r 0)), (1, .int (nI h)), (2, .int u), (3, .int l1), (4, .int p0), (5, .int q0), (6, .int a), (7, .int b)]) hx hb dX5_isLegal_34 hl (by decide) rfl (fun ls hl => ?_)
  refine w_join (fun x : Int32 => x = bI (m_fits v f h u l1 a b)) (fun x => F0 m 93 ls (.int x :: [])) ?_ (fun J93 => ?_)
  · rintro _ rfl
    refine lv_istore (lv' := [(11, .int (bI (m_fits v f h u l1 a b))), (10, .int ((l1 + (m_loses f a b)) - (f 9 h))), (9, .int ((u + (f 8 h)) - (m_loses f a b))), (8, .int (m_loses f a b)), (0, .ref (r 0)), (1, .int (nI h)), (2, .int u), (3, .int l1), (4, .int p0), (5, .int q0), (6, .int a), (7, .int b)]) hx hb dX5_isLegal_93 hl (by decide) rfl (fun ls hl => ?_)
    refine lv_iload hx hb dX5_isLegal_95 (lv_at hl 0 rfl) ?_
    refine b_if_eq (q := (m_fits v f h u l1 a b)) (tgt := 143) hx hb dX5_isLegal_97 (by decide) (fun c_1 => ?_) (fun c_1 => ?_)
    · skip
      refine lv_iconst (v := 0) hx hb dX5_isLegal_143 (by decide) ?_
      exact z_ret hx hb hr hlocks rfl (by first | rfl | (simp [bI, m_legal, c_1]; done) | (simp only [bI, m_legal, c_1, if_true, if_false, reduceIte, not_true_eq_false, not_false_eq_true]; done) | (simp only [bI, m_legal]; split <;> first | rfl | (simp_all; done) | omega) | (simp_all [bI, m_legal]; done)) dX5_isLegal_144
    · skip
      refine lv_aload_n hx hb dX5_isLegal_100 rfl (lv_at hl 4 rfl) ?_
      refine lv_iconst (v := 0) hx hb dX5_isLegal_101 (by decide) ?_
      refine lv_iload_n hx hb dX5_isLegal_102 rfl (lv_at hl 5 rfl) ?_
      refine lv_iload hx hb dX5_isLegal_103 (lv_at hl 8 rfl) ?_
      refine lv_iload hx hb dX5_isLegal_105 (lv_at hl 10 rfl) ?_
      refine cR_V ⟨hx, hb, hml, hown, hts⟩ (c_X5_mayGo l E r v f B C 0 h p0 a (by omega) (by omega)) (cwV 4 hts gX5_isLegal_X5_mayGo rfl rfl rfl (by decide +kernel) ⟨Nat.le_of_ble_eq_true rfl, Nat.le_of_ble_eq_true rfl⟩) hK hP 5 0 rfl rfl rfl hl.1 rfl (Nat.le_of_ble_eq_true rfl) dX5_isLegal_107 ⟨Nat.le_of_ble_eq_true rfl, Nat.le_of_ble_eq_true rfl⟩ ?_
      refine b_if_eq (q := (m_mayGo f 0 h p0 a)) (tgt := 143) hx hb dX5_isLegal_110 (by decide) (fun c_2 => ?_) (fun c_2 => ?_)
      · skip
        refine lv_iconst (v := 0) hx hb dX5_isLegal_143 (by decide) ?_
        exact z_ret hx hb hr hlocks rfl (by first | rfl | (simp [bI, m_legal, c_1, c_2]; done) | (simp only [bI, m_legal, c_1, c_2, if_true, if_false, reduceIte, not_true_eq_false, not_false_eq_true]; done) | (simp only [bI, m_legal]; split <;> first | rfl | (simp_all; done) | omega) | (simp_all [bI, m_legal]; done)) dX5_isLegal_144
      · skip
        refine lv_aload_n hx hb dX5_isLegal_113 rfl (lv_at hl 4 rfl) ?_
        refine lv_iconst (v := 1) hx hb dX5_isLegal_114 (by decide) ?_
        refine lv_iload_n hx hb dX5_isLegal_115 rfl (lv_at hl 5 rfl) ?_
        refine lv_iload hx hb dX5_isLegal_116 (lv_at hl 9 rfl) ?_
        refine lv_iload hx hb dX5_isLegal_118 (lv_at hl 11 rfl) ?_
        refine cR_V ⟨hx, hb, hml, hown, hts⟩ (c_X5_mayGo l E r v f B C 1 h q0 b (by omega) (by omega)) (cwV 4 hts gX5_isLegal_X5_mayGo rfl rfl rfl (by decide +kernel) ⟨Nat.le_of_ble_eq_true rfl, Nat.le_of_ble_eq_true rfl⟩) hK hP 5 0 rfl rfl rfl hl.1 rfl (Nat.le_of_ble_eq_true rfl) dX5_isLegal_120 ⟨Nat.le_of_ble_eq_true rfl, Nat.le_of_ble_eq_true rfl⟩ ?_
        refine b_if_eq (q := (m_mayGo f 1 h q0 b)) (tgt := 143) hx hb dX5_isLegal_123 (by decide) (fun c_3 => ?_) (fun c_3 => ?_)
        · skip
          refine lv_iconst (v := 0) hx hb dX5_isLegal_143 (by decide) ?_
          exact z_ret hx hb hr hlocks rfl (by first | rfl | (simp [bI, m_legal, c_1, c_2, c_3]; done) | (simp only [bI, m_legal, c_1, c_2, c_3, if_true, if_false, reduceIte, not_true_eq_false, not_false_eq_true]; done) | (simp only [bI, m_legal]; split <;> first | rfl | (simp_all; done) | omega) | (simp_all [bI, m_legal]; done)) dX5_isLegal_144
        · skip
          refine lv_aload_n hx hb dX5_isLegal_126 rfl (lv_at hl 4 rfl) ?_
          refine lv_iload_n hx hb dX5_isLegal_127 rfl (lv_at hl 5 rfl) ?_
          refine lv_iload_n hx hb dX5_isLegal_128 rfl (lv_at hl 6 rfl) ?_
          refine lv_iload hx hb dX5_isLegal_129 (lv_at hl 10 rfl) ?_
          refine lv_iload hx hb dX5_isLegal_131 (lv_at hl 11 rfl) ?_
          refine cR_V ⟨hx, hb, hml, hown, hts⟩ (c_X5_isReserved l E r v f B C h u a b (by omega)) (cwV 4 hts gX5_isLegal_X5_isReserved rfl rfl rfl (by decide +kernel) ⟨Nat.le_of_ble_eq_true rfl, Nat.le_of_ble_eq_true rfl⟩) hK hP 5 0 rfl rfl rfl hl.1 rfl (Nat.le_of_ble_eq_true rfl) dX5_isLegal_133 ⟨Nat.le_of_ble_eq_true rfl, Nat.le_of_ble_eq_true rfl⟩ ?_
          refine b_if_eq (q := (m_reserved f h u a b)) (tgt := 143) hx hb dX5_isLegal_136 (by decide) (fun c_4 => ?_) (fun c_4 => ?_)
          · skip
            refine lv_iconst (v := 0) hx hb dX5_isLegal_143 (by decide) ?_
            exact z_ret hx hb hr hlocks rfl (by first | rfl | (simp [bI, m_legal, c_1, c_2, c_3, c_4]; done) | (simp only [bI, m_legal, c_1, c_2, c_3, c_4, if_true, if_false, reduceIte, not_true_eq_false, not_false_eq_true]; done) | (simp only [bI, m_legal]; split <;> first | rfl | (simp_all; done) | omega) | (simp_all [bI, m_legal]; done)) dX5_isLegal_144
          · skip
            refine lv_iconst (v := 1) hx hb dX5_isLegal_139 (by decide) ?_
            refine lv_goto (tgt := 144) hx hb dX5_isLegal_140 (by decide) ?_
            exact z_ret hx hb hr hlocks rfl (by first | rfl | (simp [bI, m_legal, c_1, c_2, c_3, c_4]; done) | (simp only [bI, m_legal, c_1, c_2, c_3, c_4, if_true, if_false, reduceIte, not_true_eq_false, not_false_eq_true]; done) | (simp only [bI, m_legal]; split <;> first | rfl | (simp_all; done) | omega) | (simp_all [bI, m_legal]; done)) dX5_isLegal_144
  · skip
    refine lv_iload hx hb dX5_isLegal_36 (lv_at hl 1 rfl) ?_
    refine lv_iconst (v := 0) hx hb dX5_isLegal_38 (by decide) ?_
    refine lv_aload_n hx hb dX5_isLegal_39 rfl (lv_at hl 3 rfl) ?_
    refine va_get (D := E.1) (ci := 5) (v := .int (v 2)) (C := RX5) (T := TX5) (N := 26) hx hb hts (fun _ h => (List.mem_cons_of_mem _ (List.mem_append_right _ h))) hown hK.1 hP 0 rfl rfl 2 (by decide) (hts _ (List.mem_of_getElem? (i := 3) rfl)) (fun _ h9 => h9) rfl dX5_isLegal_40 ?_
    refine cR_S ⟨hx, hb, hml, hown, hts⟩ (c_X5_within l E ((u + (f 8 h)) - (m_loses f a b)) 0 (v 2)) (va_cwS 3 hts gX5_isLegal_X5_within rfl rfl rfl (by decide +kernel) ⟨Nat.le_of_ble_eq_true rfl, Nat.le_of_ble_eq_true rfl⟩) hK nilP rfl hl.1 rfl (Nat.le_of_ble_eq_true rfl) dX5_isLegal_43 ⟨Nat.le_of_ble_eq_true rfl, Nat.le_of_ble_eq_true rfl⟩ ?_
    refine b_if_eq (q := (m_in ((u + (f 8 h)) - (m_loses f a b)) 0 (v 2))) (tgt := 92) hx hb dX5_isLegal_46 (by decide) (fun c_5 => ?_) (fun c_5 => ?_)
    · skip
      refine lv_iconst (v := 0) hx hb dX5_isLegal_92 (by decide) ?_
      exact J93 _ (by first | rfl | (simp [bI, m_fits, c_5]; done) | (simp only [bI, m_fits, c_5, if_true, if_false, reduceIte, not_true_eq_false, not_false_eq_true]; done) | (simp only [bI, m_fits]; split <;> first | rfl | (simp_all; done) | omega) | (simp_all [bI, m_fits]; done))
    · skip
      refine lv_iload hx hb dX5_isLegal_49 (lv_at hl 0 rfl) ?_
      refine lv_iconst (v := 0) hx hb dX5_isLegal_51 (by decide) ?_
      refine lv_aload_n hx hb dX5_isLegal_52 rfl (lv_at hl 3 rfl) ?_
      refine va_get (D := E.1) (ci := 5) (v := .int (v 3)) (C := RX5) (T := TX5) (N := 26) hx hb hts (fun _ h => (List.mem_cons_of_mem _ (List.mem_append_right _ h))) hown hK.1 hP 0 rfl rfl 3 (by decide) (hts _ (List.mem_of_getElem? (i := 4) rfl)) (fun _ h9 => h9) rfl dX5_isLegal_53 ?_
      refine cR_S ⟨hx, hb, hml, hown, hts⟩ (c_X5_within l E ((l1 + (m_loses f a b)) - (f 9 h)) 0 (v 3)) (va_cwS 3 hts gX5_isLegal_X5_within rfl rfl rfl (by decide +kernel) ⟨Nat.le_of_ble_eq_true rfl, Nat.le_of_ble_eq_true rfl⟩) hK nilP rfl hl.1 rfl (Nat.le_of_ble_eq_true rfl) dX5_isLegal_56 ⟨Nat.le_of_ble_eq_true rfl, Nat.le_of_ble_eq_true rfl⟩ ?_
      refine b_if_eq (q := (m_in ((l1 + (m_loses f a b)) - (f 9 h)) 0 (v 3))) (tgt := 92) hx hb dX5_isLegal_59 (by decide) (fun c_6 => ?_) (fun c_6 => ?_)
      · skip
        refine lv_iconst (v := 0) hx hb dX5_isLegal_92 (by decide) ?_
        exact J93 _ (by first | rfl | (simp [bI, m_fits, c_5, c_6]; done) | (simp only [bI, m_fits, c_5, c_6, if_true, if_false, reduceIte, not_true_eq_false, not_false_eq_true]; done) | (simp only [bI, m_fits]; split <;> first | rfl | (simp_all; done) | omega) | (simp_all [bI, m_fits]; done))
      · skip
        refine lv_iload hx hb dX5_isLegal_62 (lv_at hl 1 rfl) ?_
        refine lv_iload_n hx hb dX5_isLegal_64 rfl (lv_at hl 5 rfl) ?_
        refine cR_S ⟨hx, hb, hml, hown, hts⟩ (c_X5_far l E ((u + (f 8 h)) - (m_loses f a b)) u) (va_cwS 2 hts gX5_isLegal_X5_far rfl rfl rfl (by decide +kernel) ⟨Nat.le_of_ble_eq_true rfl, Nat.le_of_ble_eq_true rfl⟩) hK nilP rfl hl.1 rfl (Nat.le_of_ble_eq_true rfl) dX5_isLegal_65 ⟨Nat.le_of_ble_eq_true rfl, Nat.le_of_ble_eq_true rfl⟩ ?_
        refine lv_aload_n hx hb dX5_isLegal_68 rfl (lv_at hl 3 rfl) ?_
        refine va_get (D := E.1) (ci := 5) (v := .int (v 6)) (C := RX5) (T := TX5) (N := 26) hx hb hts (fun _ h => (List.mem_cons_of_mem _ (List.mem_append_right _ h))) hown hK.1 hP 0 rfl rfl 6 (by decide) (hts _ (List.mem_of_getElem? (i := 5) rfl)) (fun _ h9 => h9) rfl dX5_isLegal_69 ?_
        refine lv_icmp_gt (tgt := 92) hx hb dX5_isLegal_72 (by decide) (fun c_7 => ?_) (fun c_7 => ?_)
        · skip
          refine lv_iconst (v := 0) hx hb dX5_isLegal_92 (by decide) ?_
          exact J93 _ (by first | rfl | (simp [bI, m_fits, c_5, c_6, c_7]; done) | (simp only [bI, m_fits, c_5, c_6, c_7, if_true, if_false, reduceIte, not_true_eq_false, not_false_eq_true]; done) | (simp only [bI, m_fits]; split <;> first | rfl | (simp_all; done) | omega) | (simp_all [bI, m_fits]; done))
        · skip
          refine lv_iload hx hb dX5_isLegal_75 (lv_at hl 0 rfl) ?_
          refine lv_iload_n hx hb dX5_isLegal_77 rfl (lv_at hl 6 rfl) ?_
          refine cR_S ⟨hx, hb, hml, hown, hts⟩ (c_X5_far l E ((l1 + (m_loses f a b)) - (f 9 h)) l1) (va_cwS 2 hts gX5_isLegal_X5_far rfl rfl rfl (by decide +kernel) ⟨Nat.le_of_ble_eq_true rfl, Nat.le_of_ble_eq_true rfl⟩) hK nilP rfl hl.1 rfl (Nat.le_of_ble_eq_true rfl) dX5_isLegal_78 ⟨Nat.le_of_ble_eq_true rfl, Nat.le_of_ble_eq_true rfl⟩ ?_
          refine lv_aload_n hx hb dX5_isLegal_81 rfl (lv_at hl 3 rfl) ?_
          refine va_get (D := E.1) (ci := 5) (v := .int (v 7)) (C := RX5) (T := TX5) (N := 26) hx hb hts (fun _ h => (List.mem_cons_of_mem _ (List.mem_append_right _ h))) hown hK.1 hP 0 rfl rfl 7 (by decide) (hts _ (List.mem_of_getElem? (i := 6) rfl)) (fun _ h9 => h9) rfl dX5_isLegal_82 ?_
          refine lv_icmp_gt (tgt := 92) hx hb dX5_isLegal_85 (by decide) (fun c_8 => ?_) (fun c_8 => ?_)
          · skip
            refine lv_iconst (v := 0) hx hb dX5_isLegal_92 (by decide) ?_
            exact J93 _ (by first | rfl | (simp [bI, m_fits, c_5, c_6, c_7, c_8]; done) | (simp only [bI, m_fits, c_5, c_6, c_7, c_8, if_true, if_false, reduceIte, not_true_eq_false, not_false_eq_true]; done) | (simp only [bI, m_fits]; split <;> first | rfl | (simp_all; done) | omega) | (simp_all [bI, m_fits]; done))
          · skip
            refine lv_iconst (v := 1) hx hb dX5_isLegal_88 (by decide) ?_
            refine lv_goto (tgt := 93) hx hb dX5_isLegal_89 (by decide) ?_
            exact J93 _ (by first | rfl | (simp [bI, m_fits, c_5, c_6, c_7, c_8]; done) | (simp only [bI, m_fits, c_5, c_6, c_7, c_8, if_true, if_false, reduceIte, not_true_eq_false, not_false_eq_true]; done) | (simp only [bI, m_fits]; split <;> first | rfl | (simp_all; done) | omega) | (simp_all [bI, m_fits]; done))
set_option maxHeartbeats 4000000 in
set_option maxRecDepth 100000 in
theorem c_X5_money (l : Launch) (E : GG) (r : Nat → Nat) (v : Nat → Int32) (f : Nat → Nat → Int32) (B C : Nat → Int32) (w : Nat) (h : Nat) (p0 : Int32) (q0 : Int32) (a : Int32) (b : Int32) (hw : w < 3) (hh : h < 24) : Met l yX5_money wsX5_money (Rm 0 0 0) (pR E [.ref (r 0), .int (nI w), .int (nI h), .int p0, .int q0, .int a, .int b] (MW E r v f B C)) (QcRead (m_money f w h p0 q0 a b)) 0 0 (fun _ => False) := by
  refine ofR (by decide) rfl (Nat.le_of_ble_eq_true rfl) ?_
  intro p e s m below meth c hx hb hr hlocks hml hown hts hK hP ls hl
  have hl : lv_has ls 9 [(0, .ref (r 0)), (1, .int (nI w)), (2, .int (nI h)), (3, .int p0), (4, .int q0), (5, .int a), (6, .int b)] := hl
  refine w_join (fun x : Int32 => x = m_energy f 0 a) (fun x => F0 m 32 ls (.int x :: [])) ?_ (fun J32 => ?_)
  · rintro _ rfl
    refine w_join (fun x : Int32 => x = m_energy f 1 b) (fun x => F0 m 64 ls (.int x :: [.int (m_energy f 0 a)])) ?_ (fun J64 => ?_)
    · rintro _ rfl
      refine lv_iadd hx hb dX5_money_64 ?_
      refine lv_istore (lv' := [(7, .int ((m_energy f 0 a) + (m_energy f 1 b))), (0, .ref (r 0)), (1, .int (nI w)), (2, .int (nI h)), (3, .int p0), (4, .int q0), (5, .int a), (6, .int b)]) hx hb dX5_money_65 hl (by decide) rfl (fun ls hl => ?_)
      refine w_join (fun x : Int32 => x = m_start f 0 p0 a) (fun x => F0 m 86 ls (.int x :: [])) ?_ (fun J86 => ?_)
      · rintro _ rfl
        refine w_join (fun x : Int32 => x = m_start f 1 q0 b) (fun x => F0 m 106 ls (.int x :: [.int (m_start f 0 p0 a)])) ?_ (fun J106 => ?_)
        · rintro _ rfl
          refine lv_iadd hx hb dX5_money_106 ?_
          refine lv_istore (lv' := [(8, .int ((m_start f 0 p0 a) + (m_start f 1 q0 b))), (7, .int ((m_energy f 0 a) + (m_energy f 1 b))), (0, .ref (r 0)), (1, .int (nI w)), (2, .int (nI h)), (3, .int p0), (4, .int q0), (5, .int a), (6, .int b)]) hx hb dX5_money_107 hl (by decide) rfl (fun ls hl => ?_)
          refine lv_aload_n hx hb dX5_money_109 rfl (lv_at hl 2 rfl) ?_
          refine va_get (D := E.1) (ci := 5) (v := .ref (r 18)) (C := RX5) (T := TX5) (N := 26) hx hb hts (fun _ h => (List.mem_cons_of_mem _ (List.mem_append_right _ h))) hown hK.1 hP 0 rfl rfl 18 (by decide) (hts _ (List.mem_of_getElem? (i := 4) rfl)) (fun _ h9 => h9) rfl dX5_money_110 ?_
          refine lv_bipush (v := 24) hx hb dX5_money_113 (by decide) ?_
          refine lv_iload_n hx hb dX5_money_115 rfl (lv_at hl 3 rfl) ?_
          refine lv_imul hx hb dX5_money_116 ?_
          refine w_top (show (24 * (nI w)) = (nI (24 * w)) from pk_mul _ _) ?_
          refine lv_iload_n hx hb dX5_money_117 rfl (lv_at hl 4 rfl) ?_
          refine lv_iadd hx hb dX5_money_118 ?_
          refine w_top (show ((nI (24 * w)) + (nI h)) = (nI ((24 * w) + h)) from nI_add _ _) ?_
          refine n_iald (f := f 18) hx hb hK.1 hP 11 0 rfl rfl (i := (24 * w) + h) (by omega) (by decide) dX5_money_119 ?_
          refine lv_iload hx hb dX5_money_120 (lv_at hl 1 rfl) ?_
          refine lv_imul hx hb dX5_money_122 ?_
          refine lv_iload hx hb dX5_money_123 (lv_at hl 0 rfl) ?_
          refine lv_isub hx hb dX5_money_125 ?_
          exact r_ret hx hb hr hlocks (by first | rfl | (simp [m_money]; done) | (simp only [m_money, if_true, if_false, reduceIte, not_true_eq_false, not_false_eq_true]; done) | (simp only [m_money]; split <;> first | rfl | (simp_all; done) | omega) | (simp_all [m_money]; done)) dX5_money_126
        · skip
          refine lv_iload hx hb dX5_money_86 (lv_at hl 5 rfl) ?_
          refine lv_if_ne (tgt := 105) hx hb dX5_money_88 (by decide) (fun c_1 => ?_) (fun c_1 => ?_)
          · skip
            refine lv_iconst (v := 0) hx hb dX5_money_105 (by decide) ?_
            exact J106 _ (by first | rfl | (simp [m_start, c_1]; done) | (simp only [m_start, c_1, if_true, if_false, reduceIte, not_true_eq_false, not_false_eq_true]; done) | (simp only [m_start]; split <;> first | rfl | (simp_all; done) | omega) | (simp_all [m_start]; done))
          · skip
            refine lv_iload hx hb dX5_money_91 (lv_at hl 7 rfl) ?_
            refine lv_if_eq (tgt := 105) hx hb dX5_money_93 (by decide) (fun c_2 => ?_) (fun c_2 => ?_)
            · skip
              refine lv_iconst (v := 0) hx hb dX5_money_105 (by decide) ?_
              exact J106 _ (by first | rfl | (simp [m_start, c_1, c_2]; done) | (simp only [m_start, c_1, c_2, if_true, if_false, reduceIte, not_true_eq_false, not_false_eq_true]; done) | (simp only [m_start]; split <;> first | rfl | (simp_all; done) | omega) | (simp_all [m_start]; done))
            · skip
              refine lv_aload_n hx hb dX5_money_96 rfl (lv_at hl 1 rfl) ?_
              refine va_get (D := E.1) (ci := 5) (v := .ref (r 15)) (C := RX5) (T := TX5) (N := 26) hx hb hts (fun _ h => (List.mem_cons_of_mem _ (List.mem_append_right _ h))) hown hK.1 hP 0 rfl rfl 15 (by decide) (hts _ (List.mem_of_getElem? (i := 3) rfl)) (fun _ h9 => h9) rfl dX5_money_97 ?_
              refine lv_iconst (v := 1) hx hb dX5_money_100 (by decide) ?_
              refine n_iald (f := f 15) hx hb hK.1 hP 8 0 rfl rfl (i := 1) (by omega) (by decide) dX5_money_101 ?_
              refine lv_goto (tgt := 106) hx hb dX5_money_102 (by decide) ?_
              exact J106 _ (by first | rfl | (simp [m_start, c_1, c_2]; done) | (simp only [m_start, c_1, c_2, if_true, if_false, reduceIte, not_true_eq_false, not_false_eq_true]; done) | (simp only [m_start]; split <;> first | rfl | (simp_all; done) | omega) | (simp_all [m_start]; done))
      · skip
        refine lv_iload_n hx hb dX5_money_67 rfl (lv_at hl 4 rfl) ?_
        refine lv_if_ne (tgt := 85) hx hb dX5_money_68 (by decide) (fun c_3 => ?_) (fun c_3 => ?_)
        · skip
          refine lv_iconst (v := 0) hx hb dX5_money_85 (by decide) ?_
          exact J86 _ (by first | rfl | (simp [m_start, c_3]; done) | (simp only [m_start, c_3, if_true, if_false, reduceIte, not_true_eq_false, not_false_eq_true]; done) | (simp only [m_start]; split <;> first | rfl | (simp_all; done) | omega) | (simp_all [m_start]; done))
        · skip
          refine lv_iload hx hb dX5_money_71 (lv_at hl 6 rfl) ?_
          refine lv_if_eq (tgt := 85) hx hb dX5_money_73 (by decide) (fun c_4 => ?_) (fun c_4 => ?_)
          · skip
            refine lv_iconst (v := 0) hx hb dX5_money_85 (by decide) ?_
            exact J86 _ (by first | rfl | (simp [m_start, c_3, c_4]; done) | (simp only [m_start, c_3, c_4, if_true, if_false, reduceIte, not_true_eq_false, not_false_eq_true]; done) | (simp only [m_start]; split <;> first | rfl | (simp_all; done) | omega) | (simp_all [m_start]; done))
          · skip
            refine lv_aload_n hx hb dX5_money_76 rfl (lv_at hl 1 rfl) ?_
            refine va_get (D := E.1) (ci := 5) (v := .ref (r 15)) (C := RX5) (T := TX5) (N := 26) hx hb hts (fun _ h => (List.mem_cons_of_mem _ (List.mem_append_right _ h))) hown hK.1 hP 0 rfl rfl 15 (by decide) (hts _ (List.mem_of_getElem? (i := 3) rfl)) (fun _ h9 => h9) rfl dX5_money_77 ?_
            refine lv_iconst (v := 0) hx hb dX5_money_80 (by decide) ?_
            refine n_iald (f := f 15) hx hb hK.1 hP 8 0 rfl rfl (i := 0) (by omega) (by decide) dX5_money_81 ?_
            refine lv_goto (tgt := 86) hx hb dX5_money_82 (by decide) ?_
            exact J86 _ (by first | rfl | (simp [m_start, c_3, c_4]; done) | (simp only [m_start, c_3, c_4, if_true, if_false, reduceIte, not_true_eq_false, not_false_eq_true]; done) | (simp only [m_start]; split <;> first | rfl | (simp_all; done) | omega) | (simp_all [m_start]; done))
    · skip
      refine lv_iload hx hb dX5_money_32 (lv_at hl 6 rfl) ?_
      refine lv_iconst (v := 1) hx hb dX5_money_34 (by decide) ?_
      refine lv_icmp_ne (tgt := 47) hx hb dX5_money_35 (by decide) (fun c_5 => ?_) (fun c_5 => ?_)
      · skip
        refine lv_iload hx hb dX5_money_47 (lv_at hl 6 rfl) ?_
        refine lv_iconst (v := 2) hx hb dX5_money_49 (by decide) ?_
        refine lv_icmp_ne (tgt := 63) hx hb dX5_money_50 (by decide) (fun c_6 => ?_) (fun c_6 => ?_)
        · skip
          refine lv_iconst (v := 0) hx hb dX5_money_63 (by decide) ?_
          exact J64 _ (by first | rfl | (simp [m_energy, c_5, c_6]; done) | (simp only [m_energy, c_5, c_6, if_true, if_false, reduceIte, not_true_eq_false, not_false_eq_true]; done) | (simp only [m_energy]; split <;> first | rfl | (simp_all; done) | omega) | (simp_all [m_energy]; done))
        · skip
          refine lv_aload_n hx hb dX5_money_53 rfl (lv_at hl 0 rfl) ?_
          refine va_get (D := E.1) (ci := 5) (v := .ref (r 14)) (C := RX5) (T := TX5) (N := 26) hx hb hts (fun _ h => (List.mem_cons_of_mem _ (List.mem_append_right _ h))) hown hK.1 hP 0 rfl rfl 14 (by decide) (hts _ (List.mem_of_getElem? (i := 2) rfl)) (fun _ h9 => h9) rfl dX5_money_54 ?_
          refine lv_iconst (v := 1) hx hb dX5_money_57 (by decide) ?_
          refine n_iald (f := f 14) hx hb hK.1 hP 7 0 rfl rfl (i := 1) (by omega) (by decide) dX5_money_58 ?_
          refine lv_ineg hx hb dX5_money_59 ?_
          refine lv_goto (tgt := 64) hx hb dX5_money_60 (by decide) ?_
          exact J64 _ (by first | rfl | (simp [m_energy, c_5, c_6]; done) | (simp only [m_energy, c_5, c_6, if_true, if_false, reduceIte, not_true_eq_false, not_false_eq_true]; done) | (simp only [m_energy]; split <;> first | rfl | (simp_all; done) | omega) | (simp_all [m_energy]; done))
      · skip
        refine lv_aload_n hx hb dX5_money_38 rfl (lv_at hl 0 rfl) ?_
        refine va_get (D := E.1) (ci := 5) (v := .ref (r 12)) (C := RX5) (T := TX5) (N := 26) hx hb hts (fun _ h => (List.mem_cons_of_mem _ (List.mem_append_right _ h))) hown hK.1 hP 0 rfl rfl 12 (by decide) (hts _ (List.mem_of_getElem? (i := 1) rfl)) (fun _ h9 => h9) rfl dX5_money_39 ?_
        refine lv_iconst (v := 1) hx hb dX5_money_42 (by decide) ?_
        refine n_iald (f := f 12) hx hb hK.1 hP 5 0 rfl rfl (i := 1) (by omega) (by decide) dX5_money_43 ?_
        refine lv_goto (tgt := 64) hx hb dX5_money_44 (by decide) ?_
        exact J64 _ (by first | rfl | (simp [m_energy, c_5]; done) | (simp only [m_energy, c_5, if_true, if_false, reduceIte, not_true_eq_false, not_false_eq_true]; done) | (simp only [m_energy]; split <;> first | rfl | (simp_all; done) | omega) | (simp_all [m_energy]; done))
  · skip
    refine lv_iload hx hb dX5_money_0 (lv_at hl 5 rfl) ?_
    refine lv_iconst (v := 1) hx hb dX5_money_2 (by decide) ?_
    refine lv_icmp_ne (tgt := 15) hx hb dX5_money_3 (by decide) (fun c_7 => ?_) (fun c_7 => ?_)
    · skip
      refine lv_iload hx hb dX5_money_15 (lv_at hl 5 rfl) ?_
      refine lv_iconst (v := 2) hx hb dX5_money_17 (by decide) ?_
      refine lv_icmp_ne (tgt := 31) hx hb dX5_money_18 (by decide) (fun c_8 => ?_) (fun c_8 => ?_)
      · skip
        refine lv_iconst (v := 0) hx hb dX5_money_31 (by decide) ?_
        exact J32 _ (by first | rfl | (simp [m_energy, c_7, c_8]; done) | (simp only [m_energy, c_7, c_8, if_true, if_false, reduceIte, not_true_eq_false, not_false_eq_true]; done) | (simp only [m_energy]; split <;> first | rfl | (simp_all; done) | omega) | (simp_all [m_energy]; done))
      · skip
        refine lv_aload_n hx hb dX5_money_21 rfl (lv_at hl 0 rfl) ?_
        refine va_get (D := E.1) (ci := 5) (v := .ref (r 14)) (C := RX5) (T := TX5) (N := 26) hx hb hts (fun _ h => (List.mem_cons_of_mem _ (List.mem_append_right _ h))) hown hK.1 hP 0 rfl rfl 14 (by decide) (hts _ (List.mem_of_getElem? (i := 2) rfl)) (fun _ h9 => h9) rfl dX5_money_22 ?_
        refine lv_iconst (v := 0) hx hb dX5_money_25 (by decide) ?_
        refine n_iald (f := f 14) hx hb hK.1 hP 7 0 rfl rfl (i := 0) (by omega) (by decide) dX5_money_26 ?_
        refine lv_ineg hx hb dX5_money_27 ?_
        refine lv_goto (tgt := 32) hx hb dX5_money_28 (by decide) ?_
        exact J32 _ (by first | rfl | (simp [m_energy, c_7, c_8]; done) | (simp only [m_energy, c_7, c_8, if_true, if_false, reduceIte, not_true_eq_false, not_false_eq_true]; done) | (simp only [m_energy]; split <;> first | rfl | (simp_all; done) | omega) | (simp_all [m_energy]; done))
    · skip
      refine lv_aload_n hx hb dX5_money_6 rfl (lv_at hl 0 rfl) ?_
      refine va_get (D := E.1) (ci := 5) (v := .ref (r 12)) (C := RX5) (T := TX5) (N := 26) hx hb hts (fun _ h => (List.mem_cons_of_mem _ (List.mem_append_right _ h))) hown hK.1 hP 0 rfl rfl 12 (by decide) (hts _ (List.mem_of_getElem? (i := 1) rfl)) (fun _ h9 => h9) rfl dX5_money_7 ?_
      refine lv_iconst (v := 0) hx hb dX5_money_10 (by decide) ?_
      refine n_iald (f := f 12) hx hb hK.1 hP 5 0 rfl rfl (i := 0) (by omega) (by decide) dX5_money_11 ?_
      refine lv_goto (tgt := 32) hx hb dX5_money_12 (by decide) ?_
      exact J32 _ (by first | rfl | (simp [m_energy, c_7]; done) | (simp only [m_energy, c_7, if_true, if_false, reduceIte, not_true_eq_false, not_false_eq_true]; done) | (simp only [m_energy]; split <;> first | rfl | (simp_all; done) | omega) | (simp_all [m_energy]; done))
end
section
theorem Int32_ge {x lo : Int32} (h : ¬ x < lo) : lo.toInt ≤ x.toInt := by
  rcases Int.lt_or_le x.toInt lo.toInt with q | q
  · exact absurd (Int32.lt_iff_toInt_lt.mpr q) h
  · exact q
theorem in_nat {x hi : Int32} (h : m_in x 0 hi) (h40 : hi.toInt ≤ 40) : x = nI x.toNatClampNeg ∧ x.toNatClampNeg ≤ 40 := by
  have h1 := Int32_ge h.1
  have h2 := Int32_ge h.2
  have h0 : (0 : Int32).toInt = 0 := rfl
  obtain ⟨j, hj, e⟩ := nI_of (x := x) h.1
  have h3 : (j : Int) ≤ 40 := by
    have := nI_toInt hj
    rw [e, this] at h2
    omega
  rw [e, nI_clamp hj]
  exact ⟨rfl, by omega⟩
def m_to (f : Nat → Nat → Int32) (h : Nat) (u a b : Int32) : Nat := (u + f 8 h - m_loses f a b).toNatClampNeg
theorem m_to_eq {v : Nat → Int32} {f : Nat → Nat → Int32} {h : Nat} {u l p q a b : Int32} (hl : m_legal v f h u l p q a b) (h40 : (v 2).toInt ≤ 40) : u + f 8 h - m_loses f a b = nI (m_to f h u a b) := (in_nat hl.1.1 h40).1
theorem m_to_le {v : Nat → Int32} {f : Nat → Nat → Int32} {h : Nat} {u l p q a b : Int32} (hl : m_legal v f h u l p q a b) (h40 : (v 2).toInt ≤ 40) : m_to f h u a b ≤ 40 := (in_nat hl.1.1 h40).2
/-- NEVER -/
abbrev nev : Int32 := -1000000000
/-- the reference's value of a state from an hour on, in a world / for all -/
abbrev m_leg (v : Nat → Int32) (f : Nat → Nat → Int32) (h s : Nat) (t : Int32) (a b : Nat) : Prop := m_legal v f h (nI (s / 9)) (t - nI (s / 9)) (nI ((s / 3) % 3)) (nI (s % 3)) (nI a) (nI b)
abbrev m_mon (f : Nat → Nat → Int32) (w h s a b : Nat) : Int32 := m_money f w h (nI ((s / 3) % 3)) (nI (s % 3)) (nI a) (nI b)
abbrev m_then (f : Nat → Nat → Int32) (h s a b : Nat) : Nat := 9 * m_to f h (nI (s / 9)) (nI a) (nI b) + 3 * a + b
noncomputable def m_br (v : Nat → Int32) (f : Nat → Nat → Int32) (h s : Nat) (t : Int32) (a b : Nat) (nx : Nat → Int32) (fin : Int32 → Int32) : Int32 := @ite Int32 (m_leg v f h s t a b) (Classical.propDecidable _) (if nx (m_then f h s a b) = nev then nev else fin (nx (m_then f h s a b))) nev
abbrev m_finW (f : Nat → Nat → Int32) (w h s a b : Nat) (x : Int32) : Int32 := x + m_mon f w h s a b
abbrev m_finA (f : Nat → Nat → Int32) (h s a b : Nat) (x : Int32) : Int32 := x + f 17 0 * m_mon f 0 h s a b + f 17 1 * m_mon f 1 h s a b + f 17 2 * m_mon f 2 h s a b
noncomputable abbrev m_brW (v : Nat → Int32) (f : Nat → Nat → Int32) (B : Nat → Int32) (w h s : Nat) (t : Int32) (a b : Nat) : Int32 := m_br v f h s t a b (fun k => B (9225 * w + 369 * (h + 1) + k)) (m_finW f w h s a b)
noncomputable abbrev m_brA (v : Nat → Int32) (f : Nat → Nat → Int32) (C : Nat → Int32) (h s : Nat) (t : Int32) (a b : Nat) : Int32 := m_br v f h s t a b (fun k => C (369 * (h + 1) + k)) (m_finA f h s a b)
def m_mx (x y : Int32) : Int32 := if x ≤ y then y else x
theorem m_mx_le {x y : Int32} (h : x ≤ y) : y = m_mx x y := (if_pos h).symm
theorem m_mx_gt {x y : Int32} (h : ¬ x ≤ y) : x = m_mx x y := (if_neg h).symm
def m_b9 (g : Nat → Nat → Int32) : Int32 := m_mx (g 2 2) (m_mx (g 2 1) (m_mx (g 2 0) (m_mx (g 1 2) (m_mx (g 1 1) (m_mx (g 1 0) (m_mx (g 0 2) (m_mx (g 0 1) (m_mx (g 0 0) nev))))))))
def m_wt (f : Nat → Nat → Int32) (B : Nat → Int32) (h s : Nat) : Int32 := if B (0 + 369 * h + s) = nev then nev else if B (9225 + 369 * h + s) = nev then nev else if B (18450 + 369 * h + s) = nev then nev else 0 + f 17 0 * B (0 + 369 * h + s) + f 17 1 * B (9225 + 369 * h + s) + f 17 2 * B (18450 + 369 * h + s)
set_option maxHeartbeats 4000000 in
set_option maxRecDepth 100000 in
theorem c_X5_weighed (l : Launch) (E : GG) (r : Nat → Nat) (v : Nat → Int32) (f : Nat → Nat → Int32) (B C : Nat → Int32) (h : Nat) (s1 : Nat) (hh : h < 25) (hs : s1 < 369) : Met l yX5_weighed wsX5_weighed (Rm 0 0 0) (pR E [.ref (r 0), .int (nI h), .int (nI s1)] (MW E r v f B C)) (QcRead (m_wt f B h s1)) 0 0 (fun _ => False) := by
  refine ofR (by decide) rfl (Nat.le_of_ble_eq_true rfl) ?_
  intro p e s m below meth c hx hb hr hlocks hml hown hts hK hP ls hl
  have hl : lv_has ls 6 [(0, .ref (r 0)), (1, .int (nI h)), (2, .int (nI s1))] := hl
  refine lv_iconst (v := 0) hx hb dX5_weighed_0 (by decide) ?_
  refine lv_istore_n (lv' := [(3, .int 0), (0, .ref (r 0)), (1, .int (nI h)), (2, .int (nI s1))]) hx hb dX5_weighed_1 rfl hl (by decide) rfl (fun ls hl => ?_)
  refine lv_iconst (v := 0) hx hb dX5_weighed_2 (by decide) ?_
  refine lv_istore (lv' := [(4, .int 0), (3, .int 0), (0, .ref (r 0)), (1, .int (nI h)), (2, .int (nI s1))]) hx hb dX5_weighed_3 hl (by decide) rfl (fun ls hl => ?_)
  refine lv_iload hx hb dX5_weighed_5 (lv_at hl 0 rfl) ?_
  refine lv_iconst (v := 3) hx hb dX5_weighed_7 (by decide) ?_
  refine n_icmp_ge (tgt := 61) (a := 0) (b := 3) hx hb dX5_weighed_8 (by decide) (by omega) (by omega) (fun c_1 => ?_) (fun c_1 => ?_)
  · skip
    exact absurd c_1 (by decide)
  · skip
    refine lv_aload_n hx hb dX5_weighed_11 rfl (lv_at hl 2 rfl) ?_
    refine va_get (D := E.1) (ci := 5) (v := .ref (r 24)) (C := RX5) (T := TX5) (N := 26) hx hb hts (fun _ h => (List.mem_cons_of_mem _ (List.mem_append_right _ h))) hown hK.1 hP 0 rfl rfl 24 (by decide) (hts _ (List.mem_of_getElem? (i := 1) rfl)) (fun _ h9 => h9) rfl dX5_weighed_12 ?_
    refine lv_sipush (v := 9225) hx hb dX5_weighed_15 (by decide) ?_
    refine lv_iload hx hb dX5_weighed_18 (lv_at hl 0 rfl) ?_
    refine lv_imul hx hb dX5_weighed_20 ?_
    refine w_top (show (9225 * 0) = (nI 0) from pk_mul _ _) ?_
    refine lv_sipush (v := 369) hx hb dX5_weighed_21 (by decide) ?_
    refine lv_iload_n hx hb dX5_weighed_24 rfl (lv_at hl 3 rfl) ?_
    refine lv_imul hx hb dX5_weighed_25 ?_
    refine w_top (show (369 * (nI h)) = (nI (369 * h)) from pk_mul _ _) ?_
    refine lv_iadd hx hb dX5_weighed_26 ?_
    refine w_top (show ((nI 0) + (nI (369 * h))) = (nI (0 + (369 * h))) from nI_add _ _) ?_
    refine lv_iload_n hx hb dX5_weighed_27 rfl (lv_at hl 4 rfl) ?_
    refine lv_iadd hx hb dX5_weighed_28 ?_
    refine w_top (show ((nI (0 + (369 * h))) + (nI s1)) = (nI ((0 + (369 * h)) + s1)) from nI_add _ _) ?_
    refine n_iald (f := B) hx hb hK.1 hP 14 0 rfl rfl (i := (0 + (369 * h)) + s1) (by omega) (by decide) dX5_weighed_29 ?_
    refine lv_istore (lv' := [(5, .int (B ((0 + (369 * h)) + s1))), (4, .int 0), (3, .int 0), (0, .ref (r 0)), (1, .int (nI h)), (2, .int (nI s1))]) hx hb dX5_weighed_30 hl (by decide) rfl (fun ls hl => ?_)
    refine lv_iload hx hb dX5_weighed_32 (lv_at hl 0 rfl) ?_
    refine lv_ldc hx hb hown (hts _ (List.mem_of_getElem? (i := 2) rfl)) dX5_weighed_34 ?_
    refine lv_icmp_ne (tgt := 42) hx hb dX5_weighed_36 (by decide) (fun c_2 => ?_) (fun c_2 => ?_)
    · skip
      refine lv_iload_n hx hb dX5_weighed_42 rfl (lv_at hl 2 rfl) ?_
      refine lv_aload_n hx hb dX5_weighed_43 rfl (lv_at hl 3 rfl) ?_
      refine va_get (D := E.1) (ci := 5) (v := .ref (r 17)) (C := RX5) (T := TX5) (N := 26) hx hb hts (fun _ h => (List.mem_cons_of_mem _ (List.mem_append_right _ h))) hown hK.1 hP 0 rfl rfl 17 (by decide) (hts _ (List.mem_of_getElem? (i := 3) rfl)) (fun _ h9 => h9) rfl dX5_weighed_44 ?_
      refine lv_iload hx hb dX5_weighed_47 (lv_at hl 1 rfl) ?_
      refine n_iald (f := f 17) hx hb hK.1 hP 10 0 rfl rfl (i := 0) (by omega) (by decide) dX5_weighed_49 ?_
      refine lv_iload hx hb dX5_weighed_50 (lv_at hl 0 rfl) ?_
      refine lv_imul hx hb dX5_weighed_52 ?_
      refine lv_iadd hx hb dX5_weighed_53 ?_
      refine lv_istore_n (lv' := [(3, .int (0 + ((f 17 0) * (B ((0 + (369 * h)) + s1))))), (5, .int (B ((0 + (369 * h)) + s1))), (4, .int 0), (0, .ref (r 0)), (1, .int (nI h)), (2, .int (nI s1))]) hx hb dX5_weighed_54 rfl hl (by decide) rfl (fun ls hl => ?_)
      refine lv_iinc (v := (nI 1)) (lv' := [(4, .int (nI 1)), (3, .int (0 + ((f 17 0) * (B ((0 + (369 * h)) + s1))))), (5, .int (B ((0 + (369 * h)) + s1))), (0, .ref (r 0)), (1, .int (nI h)), (2, .int (nI s1))]) hx hb dX5_weighed_55 hl (k := 2) rfl (nI_1 _) (by decide) rfl (fun ls hl => ?_)
      refine lv_goto (tgt := 5) hx hb dX5_weighed_58 (by decide) ?_
      refine lv_iload hx hb dX5_weighed_5 (lv_at hl 0 rfl) ?_
      refine lv_iconst (v := 3) hx hb dX5_weighed_7 (by decide) ?_
      refine n_icmp_ge (tgt := 61) (a := 1) (b := 3) hx hb dX5_weighed_8 (by decide) (by omega) (by omega) (fun c_3 => ?_) (fun c_3 => ?_)
      · skip
        exact absurd c_3 (by decide)
      · skip
        refine lv_aload_n hx hb dX5_weighed_11 rfl (lv_at hl 3 rfl) ?_
        refine va_get (D := E.1) (ci := 5) (v := .ref (r 24)) (C := RX5) (T := TX5) (N := 26) hx hb hts (fun _ h => (List.mem_cons_of_mem _ (List.mem_append_right _ h))) hown hK.1 hP 0 rfl rfl 24 (by decide) (hts _ (List.mem_of_getElem? (i := 1) rfl)) (fun _ h9 => h9) rfl dX5_weighed_12 ?_
        refine lv_sipush (v := 9225) hx hb dX5_weighed_15 (by decide) ?_
        refine lv_iload hx hb dX5_weighed_18 (lv_at hl 0 rfl) ?_
        refine lv_imul hx hb dX5_weighed_20 ?_
        refine w_top (show (9225 * (nI 1)) = (nI 9225) from pk_mul _ _) ?_
        refine lv_sipush (v := 369) hx hb dX5_weighed_21 (by decide) ?_
        refine lv_iload_n hx hb dX5_weighed_24 rfl (lv_at hl 4 rfl) ?_
        refine lv_imul hx hb dX5_weighed_25 ?_
        refine w_top (show (369 * (nI h)) = (nI (369 * h)) from pk_mul _ _) ?_
        refine lv_iadd hx hb dX5_weighed_26 ?_
        refine w_top (show ((nI 9225) + (nI (369 * h))) = (nI (9225 + (369 * h))) from nI_add _ _) ?_
        refine lv_iload_n hx hb dX5_weighed_27 rfl (lv_at hl 5 rfl) ?_
        refine lv_iadd hx hb dX5_weighed_28 ?_
        refine w_top (show ((nI (9225 + (369 * h))) + (nI s1)) = (nI ((9225 + (369 * h)) + s1)) from nI_add _ _) ?_
        refine n_iald (f := B) hx hb hK.1 hP 14 0 rfl rfl (i := (9225 + (369 * h)) + s1) (by omega) (by decide) dX5_weighed_29 ?_
        refine lv_istore (lv' := [(5, .int (B ((9225 + (369 * h)) + s1))), (4, .int (nI 1)), (3, .int (0 + ((f 17 0) * (B ((0 + (369 * h)) + s1))))), (0, .ref (r 0)), (1, .int (nI h)), (2, .int (nI s1))]) hx hb dX5_weighed_30 hl (by decide) rfl (fun ls hl => ?_)
        refine lv_iload hx hb dX5_weighed_32 (lv_at hl 0 rfl) ?_
        refine lv_ldc hx hb hown (hts _ (List.mem_of_getElem? (i := 2) rfl)) dX5_weighed_34 ?_
        refine lv_icmp_ne (tgt := 42) hx hb dX5_weighed_36 (by decide) (fun c_4 => ?_) (fun c_4 => ?_)
        · skip
          refine lv_iload_n hx hb dX5_weighed_42 rfl (lv_at hl 2 rfl) ?_
          refine lv_aload_n hx hb dX5_weighed_43 rfl (lv_at hl 3 rfl) ?_
          refine va_get (D := E.1) (ci := 5) (v := .ref (r 17)) (C := RX5) (T := TX5) (N := 26) hx hb hts (fun _ h => (List.mem_cons_of_mem _ (List.mem_append_right _ h))) hown hK.1 hP 0 rfl rfl 17 (by decide) (hts _ (List.mem_of_getElem? (i := 3) rfl)) (fun _ h9 => h9) rfl dX5_weighed_44 ?_
          refine lv_iload hx hb dX5_weighed_47 (lv_at hl 1 rfl) ?_
          refine n_iald (f := f 17) hx hb hK.1 hP 10 0 rfl rfl (i := 1) (by omega) (by decide) dX5_weighed_49 ?_
          refine lv_iload hx hb dX5_weighed_50 (lv_at hl 0 rfl) ?_
          refine lv_imul hx hb dX5_weighed_52 ?_
          refine lv_iadd hx hb dX5_weighed_53 ?_
          refine lv_istore_n (lv' := [(3, .int ((0 + ((f 17 0) * (B ((0 + (369 * h)) + s1)))) + ((f 17 1) * (B ((9225 + (369 * h)) + s1))))), (5, .int (B ((9225 + (369 * h)) + s1))), (4, .int (nI 1)), (0, .ref (r 0)), (1, .int (nI h)), (2, .int (nI s1))]) hx hb dX5_weighed_54 rfl hl (by decide) rfl (fun ls hl => ?_)
          refine lv_iinc (v := (nI 2)) (lv' := [(4, .int (nI 2)), (3, .int ((0 + ((f 17 0) * (B ((0 + (369 * h)) + s1)))) + ((f 17 1) * (B ((9225 + (369 * h)) + s1))))), (5, .int (B ((9225 + (369 * h)) + s1))), (0, .ref (r 0)), (1, .int (nI h)), (2, .int (nI s1))]) hx hb dX5_weighed_55 hl (k := 2) rfl (nI_1 _) (by decide) rfl (fun ls hl => ?_)
          refine lv_goto (tgt := 5) hx hb dX5_weighed_58 (by decide) ?_
          refine lv_iload hx hb dX5_weighed_5 (lv_at hl 0 rfl) ?_
          refine lv_iconst (v := 3) hx hb dX5_weighed_7 (by decide) ?_
          refine n_icmp_ge (tgt := 61) (a := 2) (b := 3) hx hb dX5_weighed_8 (by decide) (by omega) (by omega) (fun c_5 => ?_) (fun c_5 => ?_)
          · skip
            exact absurd c_5 (by decide)
          · skip
            refine lv_aload_n hx hb dX5_weighed_11 rfl (lv_at hl 3 rfl) ?_
            refine va_get (D := E.1) (ci := 5) (v := .ref (r 24)) (C := RX5) (T := TX5) (N := 26) hx hb hts (fun _ h => (List.mem_cons_of_mem _ (List.mem_append_right _ h))) hown hK.1 hP 0 rfl rfl 24 (by decide) (hts _ (List.mem_of_getElem? (i := 1) rfl)) (fun _ h9 => h9) rfl dX5_weighed_12 ?_
            refine lv_sipush (v := 9225) hx hb dX5_weighed_15 (by decide) ?_
            refine lv_iload hx hb dX5_weighed_18 (lv_at hl 0 rfl) ?_
            refine lv_imul hx hb dX5_weighed_20 ?_
            refine w_top (show (9225 * (nI 2)) = (nI 18450) from pk_mul _ _) ?_
            refine lv_sipush (v := 369) hx hb dX5_weighed_21 (by decide) ?_
            refine lv_iload_n hx hb dX5_weighed_24 rfl (lv_at hl 4 rfl) ?_
            refine lv_imul hx hb dX5_weighed_25 ?_
            refine w_top (show (369 * (nI h)) = (nI (369 * h)) from pk_mul _ _) ?_
            refine lv_iadd hx hb dX5_weighed_26 ?_
            refine w_top (show ((nI 18450) + (nI (369 * h))) = (nI (18450 + (369 * h))) from nI_add _ _) ?_
            refine lv_iload_n hx hb dX5_weighed_27 rfl (lv_at hl 5 rfl) ?_
            refine lv_iadd hx hb dX5_weighed_28 ?_
            refine w_top (show ((nI (18450 + (369 * h))) + (nI s1)) = (nI ((18450 + (369 * h)) + s1)) from nI_add _ _) ?_
            refine n_iald (f := B) hx hb hK.1 hP 14 0 rfl rfl (i := (18450 + (369 * h)) + s1) (by omega) (by decide) dX5_weighed_29 ?_
            refine lv_istore (lv' := [(5, .int (B ((18450 + (369 * h)) + s1))), (4, .int (nI 2)), (3, .int ((0 + ((f 17 0) * (B ((0 + (369 * h)) + s1)))) + ((f 17 1) * (B ((9225 + (369 * h)) + s1))))), (0, .ref (r 0)), (1, .int (nI h)), (2, .int (nI s1))]) hx hb dX5_weighed_30 hl (by decide) rfl (fun ls hl => ?_)
            refine lv_iload hx hb dX5_weighed_32 (lv_at hl 0 rfl) ?_
            refine lv_ldc hx hb hown (hts _ (List.mem_of_getElem? (i := 2) rfl)) dX5_weighed_34 ?_
            refine lv_icmp_ne (tgt := 42) hx hb dX5_weighed_36 (by decide) (fun c_6 => ?_) (fun c_6 => ?_)
            · skip
              refine lv_iload_n hx hb dX5_weighed_42 rfl (lv_at hl 2 rfl) ?_
              refine lv_aload_n hx hb dX5_weighed_43 rfl (lv_at hl 3 rfl) ?_
              refine va_get (D := E.1) (ci := 5) (v := .ref (r 17)) (C := RX5) (T := TX5) (N := 26) hx hb hts (fun _ h => (List.mem_cons_of_mem _ (List.mem_append_right _ h))) hown hK.1 hP 0 rfl rfl 17 (by decide) (hts _ (List.mem_of_getElem? (i := 3) rfl)) (fun _ h9 => h9) rfl dX5_weighed_44 ?_
              refine lv_iload hx hb dX5_weighed_47 (lv_at hl 1 rfl) ?_
              refine n_iald (f := f 17) hx hb hK.1 hP 10 0 rfl rfl (i := 2) (by omega) (by decide) dX5_weighed_49 ?_
              refine lv_iload hx hb dX5_weighed_50 (lv_at hl 0 rfl) ?_
              refine lv_imul hx hb dX5_weighed_52 ?_
              refine lv_iadd hx hb dX5_weighed_53 ?_
              refine lv_istore_n (lv' := [(3, .int (((0 + ((f 17 0) * (B ((0 + (369 * h)) + s1)))) + ((f 17 1) * (B ((9225 + (369 * h)) + s1)))) + ((f 17 2) * (B ((18450 + (369 * h)) + s1))))), (5, .int (B ((18450 + (369 * h)) + s1))), (4, .int (nI 2)), (0, .ref (r 0)), (1, .int (nI h)), (2, .int (nI s1))]) hx hb dX5_weighed_54 rfl hl (by decide) rfl (fun ls hl => ?_)
              refine lv_iinc (v := (nI 3)) (lv' := [(4, .int (nI 3)), (3, .int (((0 + ((f 17 0) * (B ((0 + (369 * h)) + s1)))) + ((f 17 1) * (B ((9225 + (369 * h)) + s1)))) + ((f 17 2) * (B ((18450 + (369 * h)) + s1))))), (5, .int (B ((18450 + (369 * h)) + s1))), (0, .ref (r 0)), (1, .int (nI h)), (2, .int (nI s1))]) hx hb dX5_weighed_55 hl (k := 2) rfl (nI_1 _) (by decide) rfl (fun ls hl => ?_)
              refine lv_goto (tgt := 5) hx hb dX5_weighed_58 (by decide) ?_
              refine lv_iload hx hb dX5_weighed_5 (lv_at hl 0 rfl) ?_
              refine lv_iconst (v := 3) hx hb dX5_weighed_7 (by decide) ?_
              refine n_icmp_ge (tgt := 61) (a := 3) (b := 3) hx hb dX5_weighed_8 (by decide) (by omega) (by omega) (fun c_7 => ?_) (fun c_7 => ?_)
              · skip
                refine lv_iload_n hx hb dX5_weighed_61 rfl (lv_at hl 1 rfl) ?_
                exact r_ret hx hb hr hlocks (by first | rfl | (simp [m_wt, c_1, c_2, c_3, c_4, c_5, c_6, c_7]; done) | (simp only [m_wt, c_1, c_2, c_3, c_4, c_5, c_6, c_7, if_true, if_false, reduceIte, not_true_eq_false, not_false_eq_true]; done) | (simp only [m_wt]; split <;> first | rfl | (simp_all; done) | omega) | (simp_all [m_wt]; done)) dX5_weighed_62
              · skip
                exact absurd c_7 (by decide)
            · skip
              refine lv_ldc hx hb hown (hts _ (List.mem_of_getElem? (i := 2) rfl)) dX5_weighed_39 ?_
              exact r_ret hx hb hr hlocks (by first | rfl | (simp [m_wt, c_1, c_2, c_3, c_4, c_5, c_6]; done) | (simp only [m_wt, c_1, c_2, c_3, c_4, c_5, c_6, if_true, if_false, reduceIte, not_true_eq_false, not_false_eq_true]; done) | (simp only [m_wt]; split <;> first | rfl | (simp_all; done) | omega) | (simp_all [m_wt]; done)) dX5_weighed_41
        · skip
          refine lv_ldc hx hb hown (hts _ (List.mem_of_getElem? (i := 2) rfl)) dX5_weighed_39 ?_
          exact r_ret hx hb hr hlocks (by first | rfl | (simp [m_wt, c_1, c_2, c_3, c_4]; done) | (simp only [m_wt, c_1, c_2, c_3, c_4, if_true, if_false, reduceIte, not_true_eq_false, not_false_eq_true]; done) | (simp only [m_wt]; split <;> first | rfl | (simp_all; done) | omega) | (simp_all [m_wt]; done)) dX5_weighed_41
    · skip
      refine lv_ldc hx hb hown (hts _ (List.mem_of_getElem? (i := 2) rfl)) dX5_weighed_39 ?_
      exact r_ret hx hb hr hlocks (by first | rfl | (simp [m_wt, c_1, c_2]; done) | (simp only [m_wt, c_1, c_2, if_true, if_false, reduceIte, not_true_eq_false, not_false_eq_true]; done) | (simp only [m_wt]; split <;> first | rfl | (simp_all; done) | omega) | (simp_all [m_wt]; done)) dX5_weighed_41
end
section
set_option maxHeartbeats 4000000 in
set_option maxRecDepth 100000 in
theorem c_X5_bringsW (l : Launch) (E : GG) (r : Nat → Nat) (v : Nat → Int32) (f : Nat → Nat → Int32) (B C : Nat → Int32) (w : Nat) (h : Nat) (s1 : Nat) (t : Int32) (a : Nat) (b : Nat) (hw : w < 3) (hh : h < 24) (hs : s1 < 369) (ha : a < 3) (hb3 : b < 3) (h40 : (v 2).toInt ≤ 40) : Met l yX5_brings wsX5_brings (Rm 3 0 0) (pR E [.ref (r 0), .int (nI w), .int (nI h), .int (nI s1), .int t, .int (nI a), .int (nI b)] (MW E r v f B C)) (QcRead (m_brW v f B w h s1 t a b)) 0 0 (fun _ => False) := by
  refine ofR (by decide) rfl (Nat.le_of_ble_eq_true rfl) ?_
  intro p e s m below meth c hx hb hr hlocks hml hown hts hK hP ls hl
  have hl : lv_has ls 13 [(0, .ref (r 0)), (1, .int (nI w)), (2, .int (nI h)), (3, .int (nI s1)), (4, .int t), (5, .int (nI a)), (6, .int (nI b))] := hl
  refine lv_iload_n hx hb dX5_brings_0 rfl (lv_at hl 3 rfl) ?_
  refine lv_bipush (v := 9) hx hb dX5_brings_1 (by decide) ?_
  refine lv_idiv hx hb dX5_brings_3 (by decide) ?_
  refine w_top (show ((nI s1) / 9) = (nI (s1 / 9)) from pk_div (a := s1) (d := 9) (by omega) (by decide) (by decide)) ?_
  refine lv_istore (lv' := [(7, .int (nI (s1 / 9))), (0, .ref (r 0)), (1, .int (nI w)), (2, .int (nI h)), (3, .int (nI s1)), (4, .int t), (5, .int (nI a)), (6, .int (nI b))]) hx hb dX5_brings_4 hl (by decide) rfl (fun ls hl => ?_)
  refine lv_iload_n hx hb dX5_brings_6 rfl (lv_at hl 4 rfl) ?_
  refine lv_iconst (v := 3) hx hb dX5_brings_7 (by decide) ?_
  refine lv_idiv hx hb dX5_brings_8 (by decide) ?_
  refine w_top (show ((nI s1) / 3) = (nI (s1 / 3)) from pk_div (a := s1) (d := 3) (by omega) (by decide) (by decide)) ?_
  refine lv_iconst (v := 3) hx hb dX5_brings_9 (by decide) ?_
  refine lv_irem hx hb dX5_brings_10 (by decide) ?_
  refine w_top (show ((nI (s1 / 3)) - (nI (s1 / 3)) / 3 * 3) = (nI ((s1 / 3) % 3)) from pk_rem (a := s1 / 3) (d := 3) (by omega) (by decide) (by decide)) ?_
  refine lv_istore (lv' := [(8, .int (nI ((s1 / 3) % 3))), (7, .int (nI (s1 / 9))), (0, .ref (r 0)), (1, .int (nI w)), (2, .int (nI h)), (3, .int (nI s1)), (4, .int t), (5, .int (nI a)), (6, .int (nI b))]) hx hb dX5_brings_11 hl (by decide) rfl (fun ls hl => ?_)
  refine lv_iload_n hx hb dX5_brings_13 rfl (lv_at hl 5 rfl) ?_
  refine lv_iconst (v := 3) hx hb dX5_brings_14 (by decide) ?_
  refine lv_irem hx hb dX5_brings_15 (by decide) ?_
  refine w_top (show ((nI s1) - (nI s1) / 3 * 3) = (nI (s1 % 3)) from pk_rem (a := s1) (d := 3) (by omega) (by decide) (by decide)) ?_
  refine lv_istore (lv' := [(9, .int (nI (s1 % 3))), (8, .int (nI ((s1 / 3) % 3))), (7, .int (nI (s1 / 9))), (0, .ref (r 0)), (1, .int (nI w)), (2, .int (nI h)), (3, .int (nI s1)), (4, .int t), (5, .int (nI a)), (6, .int (nI b))]) hx hb dX5_brings_16 hl (by decide) rfl (fun ls hl => ?_)
  refine lv_aload_n hx hb dX5_brings_18 rfl (lv_at hl 3 rfl) ?_
  refine lv_iload_n hx hb dX5_brings_19 rfl (lv_at hl 5 rfl) ?_
  refine lv_iload hx hb dX5_brings_20 (lv_at hl 2 rfl) ?_
  refine lv_iload hx hb dX5_brings_22 (lv_at hl 7 rfl) ?_
  refine lv_iload hx hb dX5_brings_24 (lv_at hl 2 rfl) ?_
  refine lv_isub hx hb dX5_brings_26 ?_
  refine lv_iload hx hb dX5_brings_27 (lv_at hl 1 rfl) ?_
  refine lv_iload hx hb dX5_brings_29 (lv_at hl 0 rfl) ?_
  refine lv_iload hx hb dX5_brings_31 (lv_at hl 8 rfl) ?_
  refine lv_iload hx hb dX5_brings_33 (lv_at hl 9 rfl) ?_
  refine cR_V ⟨hx, hb, hml, hown, hts⟩ (c_X5_isLegal l E r v f B C h (nI (s1 / 9)) (t - (nI (s1 / 9))) (nI ((s1 / 3) % 3)) (nI (s1 % 3)) (nI a) (nI b) (by omega)) (cwV 7 hts gX5_brings_X5_isLegal rfl rfl rfl (by decide +kernel) ⟨Nat.le_of_ble_eq_true rfl, Nat.le_of_ble_eq_true rfl⟩) hK hP 5 0 rfl rfl rfl hl.1 rfl (Nat.le_of_ble_eq_true rfl) dX5_brings_35 ⟨Nat.le_of_ble_eq_true rfl, Nat.le_of_ble_eq_true rfl⟩ ?_
  refine b_if_ne (q := (m_legal v f h (nI (s1 / 9)) (t - (nI (s1 / 9))) (nI ((s1 / 3) % 3)) (nI (s1 % 3)) (nI a) (nI b))) (tgt := 44) hx hb dX5_brings_38 (by decide) (fun c_1 => ?_) (fun c_1 => ?_)
  · skip
    have hto := m_to_le c_1 h40
    refine lv_bipush (v := 9) hx hb dX5_brings_44 (by decide) ?_
    refine lv_iload hx hb dX5_brings_46 (lv_at hl 2 rfl) ?_
    refine lv_aload_n hx hb dX5_brings_48 rfl (lv_at hl 3 rfl) ?_
    refine va_get (D := E.1) (ci := 5) (v := .ref (r 8)) (C := RX5) (T := TX5) (N := 26) hx hb hts (fun _ h => (List.mem_cons_of_mem _ (List.mem_append_right _ h))) hown hK.1 hP 0 rfl rfl 8 (by decide) (hts _ (List.mem_of_getElem? (i := 2) rfl)) (fun _ h9 => h9) rfl dX5_brings_49 ?_
    refine lv_iload_n hx hb dX5_brings_52 rfl (lv_at hl 5 rfl) ?_
    refine n_iald (f := f 8) hx hb hK.1 hP 1 0 rfl rfl (i := h) (by omega) (by decide) dX5_brings_53 ?_
    refine lv_iadd hx hb dX5_brings_54 ?_
    refine lv_aload_n hx hb dX5_brings_55 rfl (lv_at hl 3 rfl) ?_
    refine lv_iload hx hb dX5_brings_56 (lv_at hl 8 rfl) ?_
    refine lv_iload hx hb dX5_brings_58 (lv_at hl 9 rfl) ?_
    refine cR_V ⟨hx, hb, hml, hown, hts⟩ (c_X5_loses l E r v f B C (nI a) (nI b)) (cwV 2 hts gX5_brings_X5_loses rfl rfl rfl (by decide +kernel) ⟨Nat.le_of_ble_eq_true rfl, Nat.le_of_ble_eq_true rfl⟩) hK hP 5 0 rfl rfl rfl hl.1 rfl (Nat.le_of_ble_eq_true rfl) dX5_brings_60 ⟨Nat.le_of_ble_eq_true rfl, Nat.le_of_ble_eq_true rfl⟩ ?_
    refine lv_isub hx hb dX5_brings_63 ?_
    refine w_top (show (((nI (s1 / 9)) + (f 8 h)) - (m_loses f (nI a) (nI b))) = (nI (m_to f h (nI (s1 / 9)) (nI a) (nI b))) from (m_to_eq c_1 h40)) ?_
    refine lv_imul hx hb dX5_brings_64 ?_
    refine w_top (show (9 * (nI (m_to f h (nI (s1 / 9)) (nI a) (nI b)))) = (nI (9 * (m_to f h (nI (s1 / 9)) (nI a) (nI b)))) from pk_mul _ _) ?_
    refine lv_iconst (v := 3) hx hb dX5_brings_65 (by decide) ?_
    refine lv_iload hx hb dX5_brings_66 (lv_at hl 8 rfl) ?_
    refine lv_imul hx hb dX5_brings_68 ?_
    refine w_top (show (3 * (nI a)) = (nI (3 * a)) from pk_mul _ _) ?_
    refine lv_iadd hx hb dX5_brings_69 ?_
    refine w_top (show ((nI (9 * (m_to f h (nI (s1 / 9)) (nI a) (nI b)))) + (nI (3 * a))) = (nI ((9 * (m_to f h (nI (s1 / 9)) (nI a) (nI b))) + (3 * a))) from nI_add _ _) ?_
    refine lv_iload hx hb dX5_brings_70 (lv_at hl 9 rfl) ?_
    refine lv_iadd hx hb dX5_brings_72 ?_
    refine w_top (show ((nI ((9 * (m_to f h (nI (s1 / 9)) (nI a) (nI b))) + (3 * a))) + (nI b)) = (nI (((9 * (m_to f h (nI (s1 / 9)) (nI a) (nI b))) + (3 * a)) + b)) from nI_add _ _) ?_
    refine lv_istore (lv' := [(10, .int (nI (((9 * (m_to f h (nI (s1 / 9)) (nI a) (nI b))) + (3 * a)) + b))), (9, .int (nI (s1 % 3))), (8, .int (nI ((s1 / 3) % 3))), (7, .int (nI (s1 / 9))), (0, .ref (r 0)), (1, .int (nI w)), (2, .int (nI h)), (3, .int (nI s1)), (4, .int t), (5, .int (nI a)), (6, .int (nI b))]) hx hb dX5_brings_73 hl (by decide) rfl (fun ls hl => ?_)
    refine lv_iload_n hx hb dX5_brings_75 rfl (lv_at hl 5 rfl) ?_
    refine n_if_lt (tgt := 132) (a := w) hx hb dX5_brings_76 (by decide) (by omega) (fun c_2 => ?_) (fun c_2 => ?_)
    · skip
      exact absurd c_2 (Nat.not_lt_zero _)
    · skip
      refine lv_aload_n hx hb dX5_brings_79 rfl (lv_at hl 4 rfl) ?_
      refine va_get (D := E.1) (ci := 5) (v := .ref (r 24)) (C := RX5) (T := TX5) (N := 26) hx hb hts (fun _ h => (List.mem_cons_of_mem _ (List.mem_append_right _ h))) hown hK.1 hP 0 rfl rfl 24 (by decide) (hts _ (List.mem_of_getElem? (i := 3) rfl)) (fun _ h9 => h9) rfl dX5_brings_80 ?_
      refine lv_sipush (v := 9225) hx hb dX5_brings_83 (by decide) ?_
      refine lv_iload_n hx hb dX5_brings_86 rfl (lv_at hl 5 rfl) ?_
      refine lv_imul hx hb dX5_brings_87 ?_
      refine w_top (show (9225 * (nI w)) = (nI (9225 * w)) from pk_mul _ _) ?_
      refine lv_sipush (v := 369) hx hb dX5_brings_88 (by decide) ?_
      refine lv_iload_n hx hb dX5_brings_91 rfl (lv_at hl 6 rfl) ?_
      refine lv_iconst (v := 1) hx hb dX5_brings_92 (by decide) ?_
      refine lv_iadd hx hb dX5_brings_93 ?_
      refine w_top (show ((nI h) + 1) = (nI (h + 1)) from nI_add _ _) ?_
      refine lv_imul hx hb dX5_brings_94 ?_
      refine w_top (show (369 * (nI (h + 1))) = (nI (369 * (h + 1))) from pk_mul _ _) ?_
      refine lv_iadd hx hb dX5_brings_95 ?_
      refine w_top (show ((nI (9225 * w)) + (nI (369 * (h + 1)))) = (nI ((9225 * w) + (369 * (h + 1)))) from nI_add _ _) ?_
      refine lv_iload hx hb dX5_brings_96 (lv_at hl 0 rfl) ?_
      refine lv_iadd hx hb dX5_brings_98 ?_
      refine w_top (show ((nI ((9225 * w) + (369 * (h + 1)))) + (nI (((9 * (m_to f h (nI (s1 / 9)) (nI a) (nI b))) + (3 * a)) + b))) = (nI (((9225 * w) + (369 * (h + 1))) + (((9 * (m_to f h (nI (s1 / 9)) (nI a) (nI b))) + (3 * a)) + b))) from nI_add _ _) ?_
      refine n_iald (f := B) hx hb hK.1 hP 14 0 rfl rfl (i := ((9225 * w) + (369 * (h + 1))) + (((9 * (m_to f h (nI (s1 / 9)) (nI a) (nI b))) + (3 * a)) + b)) (by omega) (by decide) dX5_brings_99 ?_
      refine lv_istore (lv' := [(11, .int (B (((9225 * w) + (369 * (h + 1))) + (((9 * (m_to f h (nI (s1 / 9)) (nI a) (nI b))) + (3 * a)) + b)))), (10, .int (nI (((9 * (m_to f h (nI (s1 / 9)) (nI a) (nI b))) + (3 * a)) + b))), (9, .int (nI (s1 % 3))), (8, .int (nI ((s1 / 3) % 3))), (7, .int (nI (s1 / 9))), (0, .ref (r 0)), (1, .int (nI w)), (2, .int (nI h)), (3, .int (nI s1)), (4, .int t), (5, .int (nI a)), (6, .int (nI b))]) hx hb dX5_brings_100 hl (by decide) rfl (fun ls hl => ?_)
      refine lv_iload hx hb dX5_brings_102 (lv_at hl 0 rfl) ?_
      refine lv_ldc hx hb hown (hts _ (List.mem_of_getElem? (i := 1) rfl)) dX5_brings_104 ?_
      refine lv_icmp_ne (tgt := 114) hx hb dX5_brings_106 (by decide) (fun c_3 => ?_) (fun c_3 => ?_)
      · skip
        refine lv_iload hx hb dX5_brings_114 (lv_at hl 0 rfl) ?_
        refine lv_aload_n hx hb dX5_brings_116 rfl (lv_at hl 5 rfl) ?_
        refine lv_iload_n hx hb dX5_brings_117 rfl (lv_at hl 6 rfl) ?_
        refine lv_iload_n hx hb dX5_brings_118 rfl (lv_at hl 7 rfl) ?_
        refine lv_iload hx hb dX5_brings_119 (lv_at hl 3 rfl) ?_
        refine lv_iload hx hb dX5_brings_121 (lv_at hl 2 rfl) ?_
        refine lv_iload hx hb dX5_brings_123 (lv_at hl 10 rfl) ?_
        refine lv_iload hx hb dX5_brings_125 (lv_at hl 11 rfl) ?_
        refine cR_V ⟨hx, hb, hml, hown, hts⟩ (c_X5_money l E r v f B C w h (nI ((s1 / 3) % 3)) (nI (s1 % 3)) (nI a) (nI b) (by omega) (by omega)) (cwV 6 hts gX5_brings_X5_money rfl rfl rfl (by decide +kernel) ⟨Nat.le_of_ble_eq_true rfl, Nat.le_of_ble_eq_true rfl⟩) hK hP 5 0 rfl rfl rfl hl.1 rfl (Nat.le_of_ble_eq_true rfl) dX5_brings_127 ⟨Nat.le_of_ble_eq_true rfl, Nat.le_of_ble_eq_true rfl⟩ ?_
        refine lv_iadd hx hb dX5_brings_130 ?_
        exact r_ret hx hb hr hlocks (by first | rfl | (simp [m_br, m_finW, c_1, c_2, c_3]; done) | (simp only [m_br, m_finW, c_1, c_2, c_3, if_true, if_false, reduceIte, not_true_eq_false, not_false_eq_true]; done) | (simp only [m_br, m_finW]; split <;> first | rfl | (simp_all; done) | omega) | (simp_all [m_br, m_finW]; done)) dX5_brings_131
      · skip
        refine lv_ldc hx hb hown (hts _ (List.mem_of_getElem? (i := 1) rfl)) dX5_brings_109 ?_
        refine lv_goto (tgt := 131) hx hb dX5_brings_111 (by decide) ?_
        exact r_ret hx hb hr hlocks (by first | rfl | (simp [m_br, m_finW, c_1, c_2, c_3]; done) | (simp only [m_br, m_finW, c_1, c_2, c_3, if_true, if_false, reduceIte, not_true_eq_false, not_false_eq_true]; done) | (simp only [m_br, m_finW]; split <;> first | rfl | (simp_all; done) | omega) | (simp_all [m_br, m_finW]; done)) dX5_brings_131
  · skip
    refine lv_ldc hx hb hown (hts _ (List.mem_of_getElem? (i := 1) rfl)) dX5_brings_41 ?_
    exact r_ret hx hb hr hlocks (by first | rfl | (simp [m_br, m_finW, c_1]; done) | (simp only [m_br, m_finW, c_1, if_true, if_false, reduceIte, not_true_eq_false, not_false_eq_true]; done) | (simp only [m_br, m_finW]; split <;> first | rfl | (simp_all; done) | omega) | (simp_all [m_br, m_finW]; done)) dX5_brings_43
end
section
set_option maxHeartbeats 4000000 in
set_option maxRecDepth 100000 in
theorem c_X5_bringsA (l : Launch) (E : GG) (r : Nat → Nat) (v : Nat → Int32) (f : Nat → Nat → Int32) (B C : Nat → Int32) (h : Nat) (s1 : Nat) (t : Int32) (a : Nat) (b : Nat) (hh : h < 24) (hs : s1 < 369) (ha : a < 3) (hb3 : b < 3) (h40 : (v 2).toInt ≤ 40) : Met l yX5_brings wsX5_brings (Rm 3 0 0) (pR E [.ref (r 0), .int (-1), .int (nI h), .int (nI s1), .int t, .int (nI a), .int (nI b)] (MW E r v f B C)) (QcRead (m_brA v f C h s1 t a b)) 0 0 (fun _ => False) := by
  refine ofR (by decide) rfl (Nat.le_of_ble_eq_true rfl) ?_
  intro p e s m below meth c hx hb hr hlocks hml hown hts hK hP ls hl
  have hl : lv_has ls 13 [(0, .ref (r 0)), (1, .int (-1)), (2, .int (nI h)), (3, .int (nI s1)), (4, .int t), (5, .int (nI a)), (6, .int (nI b))] := hl
  refine lv_iload_n hx hb dX5_brings_0 rfl (lv_at hl 3 rfl) ?_
  refine lv_bipush (v := 9) hx hb dX5_brings_1 (by decide) ?_
  refine lv_idiv hx hb dX5_brings_3 (by decide) ?_
  refine w_top (show ((nI s1) / 9) = (nI (s1 / 9)) from pk_div (a := s1) (d := 9) (by omega) (by decide) (by decide)) ?_
  refine lv_istore (lv' := [(7, .int (nI (s1 / 9))), (0, .ref (r 0)), (1, .int (-1)), (2, .int (nI h)), (3, .int (nI s1)), (4, .int t), (5, .int (nI a)), (6, .int (nI b))]) hx hb dX5_brings_4 hl (by decide) rfl (fun ls hl => ?_)
  refine lv_iload_n hx hb dX5_brings_6 rfl (lv_at hl 4 rfl) ?_
  refine lv_iconst (v := 3) hx hb dX5_brings_7 (by decide) ?_
  refine lv_idiv hx hb dX5_brings_8 (by decide) ?_
  refine w_top (show ((nI s1) / 3) = (nI (s1 / 3)) from pk_div (a := s1) (d := 3) (by omega) (by decide) (by decide)) ?_
  refine lv_iconst (v := 3) hx hb dX5_brings_9 (by decide) ?_
  refine lv_irem hx hb dX5_brings_10 (by decide) ?_
  refine w_top (show ((nI (s1 / 3)) - (nI (s1 / 3)) / 3 * 3) = (nI ((s1 / 3) % 3)) from pk_rem (a := s1 / 3) (d := 3) (by omega) (by decide) (by decide)) ?_
  refine lv_istore (lv' := [(8, .int (nI ((s1 / 3) % 3))), (7, .int (nI (s1 / 9))), (0, .ref (r 0)), (1, .int (-1)), (2, .int (nI h)), (3, .int (nI s1)), (4, .int t), (5, .int (nI a)), (6, .int (nI b))]) hx hb dX5_brings_11 hl (by decide) rfl (fun ls hl => ?_)
  refine lv_iload_n hx hb dX5_brings_13 rfl (lv_at hl 5 rfl) ?_
  refine lv_iconst (v := 3) hx hb dX5_brings_14 (by decide) ?_
  refine lv_irem hx hb dX5_brings_15 (by decide) ?_
  refine w_top (show ((nI s1) - (nI s1) / 3 * 3) = (nI (s1 % 3)) from pk_rem (a := s1) (d := 3) (by omega) (by decide) (by decide)) ?_
  refine lv_istore (lv' := [(9, .int (nI (s1 % 3))), (8, .int (nI ((s1 / 3) % 3))), (7, .int (nI (s1 / 9))), (0, .ref (r 0)), (1, .int (-1)), (2, .int (nI h)), (3, .int (nI s1)), (4, .int t), (5, .int (nI a)), (6, .int (nI b))]) hx hb dX5_brings_16 hl (by decide) rfl (fun ls hl => ?_)
  refine lv_aload_n hx hb dX5_brings_18 rfl (lv_at hl 3 rfl) ?_
  refine lv_iload_n hx hb dX5_brings_19 rfl (lv_at hl 5 rfl) ?_
  refine lv_iload hx hb dX5_brings_20 (lv_at hl 2 rfl) ?_
  refine lv_iload hx hb dX5_brings_22 (lv_at hl 7 rfl) ?_
  refine lv_iload hx hb dX5_brings_24 (lv_at hl 2 rfl) ?_
  refine lv_isub hx hb dX5_brings_26 ?_
  refine lv_iload hx hb dX5_brings_27 (lv_at hl 1 rfl) ?_
  refine lv_iload hx hb dX5_brings_29 (lv_at hl 0 rfl) ?_
  refine lv_iload hx hb dX5_brings_31 (lv_at hl 8 rfl) ?_
  refine lv_iload hx hb dX5_brings_33 (lv_at hl 9 rfl) ?_
  refine cR_V ⟨hx, hb, hml, hown, hts⟩ (c_X5_isLegal l E r v f B C h (nI (s1 / 9)) (t - (nI (s1 / 9))) (nI ((s1 / 3) % 3)) (nI (s1 % 3)) (nI a) (nI b) (by omega)) (cwV 7 hts gX5_brings_X5_isLegal rfl rfl rfl (by decide +kernel) ⟨Nat.le_of_ble_eq_true rfl, Nat.le_of_ble_eq_true rfl⟩) hK hP 5 0 rfl rfl rfl hl.1 rfl (Nat.le_of_ble_eq_true rfl) dX5_brings_35 ⟨Nat.le_of_ble_eq_true rfl, Nat.le_of_ble_eq_true rfl⟩ ?_
  refine b_if_ne (q := (m_legal v f h (nI (s1 / 9)) (t - (nI (s1 / 9))) (nI ((s1 / 3) % 3)) (nI (s1 % 3)) (nI a) (nI b))) (tgt := 44) hx hb dX5_brings_38 (by decide) (fun c_1 => ?_) (fun c_1 => ?_)
  · skip
    have hto := m_to_le c_1 h40
    refine lv_bipush (v := 9) hx hb dX5_brings_44 (by decide) ?_
    refine lv_iload hx hb dX5_brings_46 (lv_at hl 2 rfl) ?_
    refine lv_aload_n hx hb dX5_brings_48 rfl (lv_at hl 3 rfl) ?_
    refine va_get (D := E.1) (ci := 5) (v := .ref (r 8)) (C := RX5) (T := TX5) (N := 26) hx hb hts (fun _ h => (List.mem_cons_of_mem _ (List.mem_append_right _ h))) hown hK.1 hP 0 rfl rfl 8 (by decide) (hts _ (List.mem_of_getElem? (i := 2) rfl)) (fun _ h9 => h9) rfl dX5_brings_49 ?_
    refine lv_iload_n hx hb dX5_brings_52 rfl (lv_at hl 5 rfl) ?_
    refine n_iald (f := f 8) hx hb hK.1 hP 1 0 rfl rfl (i := h) (by omega) (by decide) dX5_brings_53 ?_
    refine lv_iadd hx hb dX5_brings_54 ?_
    refine lv_aload_n hx hb dX5_brings_55 rfl (lv_at hl 3 rfl) ?_
    refine lv_iload hx hb dX5_brings_56 (lv_at hl 8 rfl) ?_
    refine lv_iload hx hb dX5_brings_58 (lv_at hl 9 rfl) ?_
    refine cR_V ⟨hx, hb, hml, hown, hts⟩ (c_X5_loses l E r v f B C (nI a) (nI b)) (cwV 2 hts gX5_brings_X5_loses rfl rfl rfl (by decide +kernel) ⟨Nat.le_of_ble_eq_true rfl, Nat.le_of_ble_eq_true rfl⟩) hK hP 5 0 rfl rfl rfl hl.1 rfl (Nat.le_of_ble_eq_true rfl) dX5_brings_60 ⟨Nat.le_of_ble_eq_true rfl, Nat.le_of_ble_eq_true rfl⟩ ?_
    refine lv_isub hx hb dX5_brings_63 ?_
    refine w_top (show (((nI (s1 / 9)) + (f 8 h)) - (m_loses f (nI a) (nI b))) = (nI (m_to f h (nI (s1 / 9)) (nI a) (nI b))) from (m_to_eq c_1 h40)) ?_
    refine lv_imul hx hb dX5_brings_64 ?_
    refine w_top (show (9 * (nI (m_to f h (nI (s1 / 9)) (nI a) (nI b)))) = (nI (9 * (m_to f h (nI (s1 / 9)) (nI a) (nI b)))) from pk_mul _ _) ?_
    refine lv_iconst (v := 3) hx hb dX5_brings_65 (by decide) ?_
    refine lv_iload hx hb dX5_brings_66 (lv_at hl 8 rfl) ?_
    refine lv_imul hx hb dX5_brings_68 ?_
    refine w_top (show (3 * (nI a)) = (nI (3 * a)) from pk_mul _ _) ?_
    refine lv_iadd hx hb dX5_brings_69 ?_
    refine w_top (show ((nI (9 * (m_to f h (nI (s1 / 9)) (nI a) (nI b)))) + (nI (3 * a))) = (nI ((9 * (m_to f h (nI (s1 / 9)) (nI a) (nI b))) + (3 * a))) from nI_add _ _) ?_
    refine lv_iload hx hb dX5_brings_70 (lv_at hl 9 rfl) ?_
    refine lv_iadd hx hb dX5_brings_72 ?_
    refine w_top (show ((nI ((9 * (m_to f h (nI (s1 / 9)) (nI a) (nI b))) + (3 * a))) + (nI b)) = (nI (((9 * (m_to f h (nI (s1 / 9)) (nI a) (nI b))) + (3 * a)) + b)) from nI_add _ _) ?_
    refine lv_istore (lv' := [(10, .int (nI (((9 * (m_to f h (nI (s1 / 9)) (nI a) (nI b))) + (3 * a)) + b))), (9, .int (nI (s1 % 3))), (8, .int (nI ((s1 / 3) % 3))), (7, .int (nI (s1 / 9))), (0, .ref (r 0)), (1, .int (-1)), (2, .int (nI h)), (3, .int (nI s1)), (4, .int t), (5, .int (nI a)), (6, .int (nI b))]) hx hb dX5_brings_73 hl (by decide) rfl (fun ls hl => ?_)
    refine lv_iload_n hx hb dX5_brings_75 rfl (lv_at hl 5 rfl) ?_
    refine lv_if_lt (tgt := 132) hx hb dX5_brings_76 (by decide) (fun c_2 => ?_) (fun c_2 => ?_)
    · skip
      refine lv_aload_n hx hb dX5_brings_132 rfl (lv_at hl 4 rfl) ?_
      refine va_get (D := E.1) (ci := 5) (v := .ref (r 25)) (C := RX5) (T := TX5) (N := 26) hx hb hts (fun _ h => (List.mem_cons_of_mem _ (List.mem_append_right _ h))) hown hK.1 hP 0 rfl rfl 25 (by decide) (hts _ (List.mem_of_getElem? (i := 4) rfl)) (fun _ h9 => h9) rfl dX5_brings_133 ?_
      refine lv_sipush (v := 369) hx hb dX5_brings_136 (by decide) ?_
      refine lv_iload_n hx hb dX5_brings_139 rfl (lv_at hl 6 rfl) ?_
      refine lv_iconst (v := 1) hx hb dX5_brings_140 (by decide) ?_
      refine lv_iadd hx hb dX5_brings_141 ?_
      refine w_top (show ((nI h) + 1) = (nI (h + 1)) from nI_add _ _) ?_
      refine lv_imul hx hb dX5_brings_142 ?_
      refine w_top (show (369 * (nI (h + 1))) = (nI (369 * (h + 1))) from pk_mul _ _) ?_
      refine lv_iload hx hb dX5_brings_143 (lv_at hl 0 rfl) ?_
      refine lv_iadd hx hb dX5_brings_145 ?_
      refine w_top (show ((nI (369 * (h + 1))) + (nI (((9 * (m_to f h (nI (s1 / 9)) (nI a) (nI b))) + (3 * a)) + b))) = (nI ((369 * (h + 1)) + (((9 * (m_to f h (nI (s1 / 9)) (nI a) (nI b))) + (3 * a)) + b))) from nI_add _ _) ?_
      refine n_iald (f := C) hx hb hK.1 hP 15 0 rfl rfl (i := (369 * (h + 1)) + (((9 * (m_to f h (nI (s1 / 9)) (nI a) (nI b))) + (3 * a)) + b)) (by omega) (by decide) dX5_brings_146 ?_
      refine lv_istore (lv' := [(11, .int (C ((369 * (h + 1)) + (((9 * (m_to f h (nI (s1 / 9)) (nI a) (nI b))) + (3 * a)) + b)))), (10, .int (nI (((9 * (m_to f h (nI (s1 / 9)) (nI a) (nI b))) + (3 * a)) + b))), (9, .int (nI (s1 % 3))), (8, .int (nI ((s1 / 3) % 3))), (7, .int (nI (s1 / 9))), (0, .ref (r 0)), (1, .int (-1)), (2, .int (nI h)), (3, .int (nI s1)), (4, .int t), (5, .int (nI a)), (6, .int (nI b))]) hx hb dX5_brings_147 hl (by decide) rfl (fun ls hl => ?_)
      refine lv_iload hx hb dX5_brings_149 (lv_at hl 0 rfl) ?_
      refine lv_ldc hx hb hown (hts _ (List.mem_of_getElem? (i := 1) rfl)) dX5_brings_151 ?_
      refine lv_icmp_ne (tgt := 159) hx hb dX5_brings_153 (by decide) (fun c_3 => ?_) (fun c_3 => ?_)
      · skip
        refine lv_iconst (v := 0) hx hb dX5_brings_159 (by decide) ?_
        refine lv_istore (lv' := [(12, .int 0), (11, .int (C ((369 * (h + 1)) + (((9 * (m_to f h (nI (s1 / 9)) (nI a) (nI b))) + (3 * a)) + b)))), (10, .int (nI (((9 * (m_to f h (nI (s1 / 9)) (nI a) (nI b))) + (3 * a)) + b))), (9, .int (nI (s1 % 3))), (8, .int (nI ((s1 / 3) % 3))), (7, .int (nI (s1 / 9))), (0, .ref (r 0)), (1, .int (-1)), (2, .int (nI h)), (3, .int (nI s1)), (4, .int t), (5, .int (nI a)), (6, .int (nI b))]) hx hb dX5_brings_160 hl (by decide) rfl (fun ls hl => ?_)
        refine lv_iload hx hb dX5_brings_162 (lv_at hl 0 rfl) ?_
        refine lv_iconst (v := 3) hx hb dX5_brings_164 (by decide) ?_
        refine n_icmp_ge (tgt := 202) (a := 0) (b := 3) hx hb dX5_brings_165 (by decide) (by omega) (by omega) (fun c_4 => ?_) (fun c_4 => ?_)
        · skip
          exact absurd c_4 (by decide)
        · skip
          refine lv_iload hx hb dX5_brings_168 (lv_at hl 1 rfl) ?_
          refine lv_aload_n hx hb dX5_brings_170 rfl (lv_at hl 6 rfl) ?_
          refine va_get (D := E.1) (ci := 5) (v := .ref (r 17)) (C := RX5) (T := TX5) (N := 26) hx hb hts (fun _ h => (List.mem_cons_of_mem _ (List.mem_append_right _ h))) hown hK.1 hP 0 rfl rfl 17 (by decide) (hts _ (List.mem_of_getElem? (i := 5) rfl)) (fun _ h9 => h9) rfl dX5_brings_171 ?_
          refine lv_iload hx hb dX5_brings_174 (lv_at hl 0 rfl) ?_
          refine n_iald (f := f 17) hx hb hK.1 hP 10 0 rfl rfl (i := 0) (by omega) (by decide) dX5_brings_176 ?_
          refine lv_aload_n hx hb dX5_brings_177 rfl (lv_at hl 6 rfl) ?_
          refine lv_iload hx hb dX5_brings_178 (lv_at hl 0 rfl) ?_
          refine lv_iload_n hx hb dX5_brings_180 rfl (lv_at hl 8 rfl) ?_
          refine lv_iload hx hb dX5_brings_181 (lv_at hl 4 rfl) ?_
          refine lv_iload hx hb dX5_brings_183 (lv_at hl 3 rfl) ?_
          refine lv_iload hx hb dX5_brings_185 (lv_at hl 11 rfl) ?_
          refine lv_iload hx hb dX5_brings_187 (lv_at hl 12 rfl) ?_
          refine cR_V ⟨hx, hb, hml, hown, hts⟩ (c_X5_money l E r v f B C 0 h (nI ((s1 / 3) % 3)) (nI (s1 % 3)) (nI a) (nI b) (by omega) (by omega)) (cwV 6 hts gX5_brings_X5_money rfl rfl rfl (by decide +kernel) ⟨Nat.le_of_ble_eq_true rfl, Nat.le_of_ble_eq_true rfl⟩) hK hP 5 0 rfl rfl rfl hl.1 rfl (Nat.le_of_ble_eq_true rfl) dX5_brings_189 ⟨Nat.le_of_ble_eq_true rfl, Nat.le_of_ble_eq_true rfl⟩ ?_
          refine lv_imul hx hb dX5_brings_192 ?_
          refine lv_iadd hx hb dX5_brings_193 ?_
          refine lv_istore (lv' := [(11, .int ((C ((369 * (h + 1)) + (((9 * (m_to f h (nI (s1 / 9)) (nI a) (nI b))) + (3 * a)) + b))) + ((f 17 0) * (m_money f 0 h (nI ((s1 / 3) % 3)) (nI (s1 % 3)) (nI a) (nI b))))), (12, .int 0), (10, .int (nI (((9 * (m_to f h (nI (s1 / 9)) (nI a) (nI b))) + (3 * a)) + b))), (9, .int (nI (s1 % 3))), (8, .int (nI ((s1 / 3) % 3))), (7, .int (nI (s1 / 9))), (0, .ref (r 0)), (1, .int (-1)), (2, .int (nI h)), (3, .int (nI s1)), (4, .int t), (5, .int (nI a)), (6, .int (nI b))]) hx hb dX5_brings_194 hl (by decide) rfl (fun ls hl => ?_)
          refine lv_iinc (v := (nI 1)) (lv' := [(12, .int (nI 1)), (11, .int ((C ((369 * (h + 1)) + (((9 * (m_to f h (nI (s1 / 9)) (nI a) (nI b))) + (3 * a)) + b))) + ((f 17 0) * (m_money f 0 h (nI ((s1 / 3) % 3)) (nI (s1 % 3)) (nI a) (nI b))))), (10, .int (nI (((9 * (m_to f h (nI (s1 / 9)) (nI a) (nI b))) + (3 * a)) + b))), (9, .int (nI (s1 % 3))), (8, .int (nI ((s1 / 3) % 3))), (7, .int (nI (s1 / 9))), (0, .ref (r 0)), (1, .int (-1)), (2, .int (nI h)), (3, .int (nI s1)), (4, .int t), (5, .int (nI a)), (6, .int (nI b))]) hx hb dX5_brings_196 hl (k := 1) rfl (nI_1 _) (by decide) rfl (fun ls hl => ?_)
          refine lv_goto (tgt := 162) hx hb dX5_brings_199 (by decide) ?_
          refine lv_iload hx hb dX5_brings_162 (lv_at hl 0 rfl) ?_
          refine lv_iconst (v := 3) hx hb dX5_brings_164 (by decide) ?_
          refine n_icmp_ge (tgt := 202) (a := 1) (b := 3) hx hb dX5_brings_165 (by decide) (by omega) (by omega) (fun c_5 => ?_) (fun c_5 => ?_)
          · skip
            exact absurd c_5 (by decide)
          · skip
            refine lv_iload hx hb dX5_brings_168 (lv_at hl 1 rfl) ?_
            refine lv_aload_n hx hb dX5_brings_170 rfl (lv_at hl 6 rfl) ?_
            refine va_get (D := E.1) (ci := 5) (v := .ref (r 17)) (C := RX5) (T := TX5) (N := 26) hx hb hts (fun _ h => (List.mem_cons_of_mem _ (List.mem_append_right _ h))) hown hK.1 hP 0 rfl rfl 17 (by decide) (hts _ (List.mem_of_getElem? (i := 5) rfl)) (fun _ h9 => h9) rfl dX5_brings_171 ?_
            refine lv_iload hx hb dX5_brings_174 (lv_at hl 0 rfl) ?_
            refine n_iald (f := f 17) hx hb hK.1 hP 10 0 rfl rfl (i := 1) (by omega) (by decide) dX5_brings_176 ?_
            refine lv_aload_n hx hb dX5_brings_177 rfl (lv_at hl 6 rfl) ?_
            refine lv_iload hx hb dX5_brings_178 (lv_at hl 0 rfl) ?_
            refine lv_iload_n hx hb dX5_brings_180 rfl (lv_at hl 8 rfl) ?_
            refine lv_iload hx hb dX5_brings_181 (lv_at hl 4 rfl) ?_
            refine lv_iload hx hb dX5_brings_183 (lv_at hl 3 rfl) ?_
            refine lv_iload hx hb dX5_brings_185 (lv_at hl 11 rfl) ?_
            refine lv_iload hx hb dX5_brings_187 (lv_at hl 12 rfl) ?_
            refine cR_V ⟨hx, hb, hml, hown, hts⟩ (c_X5_money l E r v f B C 1 h (nI ((s1 / 3) % 3)) (nI (s1 % 3)) (nI a) (nI b) (by omega) (by omega)) (cwV 6 hts gX5_brings_X5_money rfl rfl rfl (by decide +kernel) ⟨Nat.le_of_ble_eq_true rfl, Nat.le_of_ble_eq_true rfl⟩) hK hP 5 0 rfl rfl rfl hl.1 rfl (Nat.le_of_ble_eq_true rfl) dX5_brings_189 ⟨Nat.le_of_ble_eq_true rfl, Nat.le_of_ble_eq_true rfl⟩ ?_
            refine lv_imul hx hb dX5_brings_192 ?_
            refine lv_iadd hx hb dX5_brings_193 ?_
            refine lv_istore (lv' := [(11, .int (((C ((369 * (h + 1)) + (((9 * (m_to f h (nI (s1 / 9)) (nI a) (nI b))) + (3 * a)) + b))) + ((f 17 0) * (m_money f 0 h (nI ((s1 / 3) % 3)) (nI (s1 % 3)) (nI a) (nI b)))) + ((f 17 1) * (m_money f 1 h (nI ((s1 / 3) % 3)) (nI (s1 % 3)) (nI a) (nI b))))), (12, .int (nI 1)), (10, .int (nI (((9 * (m_to f h (nI (s1 / 9)) (nI a) (nI b))) + (3 * a)) + b))), (9, .int (nI (s1 % 3))), (8, .int (nI ((s1 / 3) % 3))), (7, .int (nI (s1 / 9))), (0, .ref (r 0)), (1, .int (-1)), (2, .int (nI h)), (3, .int (nI s1)), (4, .int t), (5, .int (nI a)), (6, .int (nI b))]) hx hb dX5_brings_194 hl (by decide) rfl (fun ls hl => ?_)
            refine lv_iinc (v := (nI 2)) (lv' := [(12, .int (nI 2)), (11, .int (((C ((369 * (h + 1)) + (((9 * (m_to f h (nI (s1 / 9)) (nI a) (nI b))) + (3 * a)) + b))) + ((f 17 0) * (m_money f 0 h (nI ((s1 / 3) % 3)) (nI (s1 % 3)) (nI a) (nI b)))) + ((f 17 1) * (m_money f 1 h (nI ((s1 / 3) % 3)) (nI (s1 % 3)) (nI a) (nI b))))), (10, .int (nI (((9 * (m_to f h (nI (s1 / 9)) (nI a) (nI b))) + (3 * a)) + b))), (9, .int (nI (s1 % 3))), (8, .int (nI ((s1 / 3) % 3))), (7, .int (nI (s1 / 9))), (0, .ref (r 0)), (1, .int (-1)), (2, .int (nI h)), (3, .int (nI s1)), (4, .int t), (5, .int (nI a)), (6, .int (nI b))]) hx hb dX5_brings_196 hl (k := 1) rfl (nI_1 _) (by decide) rfl (fun ls hl => ?_)
            refine lv_goto (tgt := 162) hx hb dX5_brings_199 (by decide) ?_
            refine lv_iload hx hb dX5_brings_162 (lv_at hl 0 rfl) ?_
            refine lv_iconst (v := 3) hx hb dX5_brings_164 (by decide) ?_
            refine n_icmp_ge (tgt := 202) (a := 2) (b := 3) hx hb dX5_brings_165 (by decide) (by omega) (by omega) (fun c_6 => ?_) (fun c_6 => ?_)
            · skip
              exact absurd c_6 (by decide)
            · skip
              refine lv_iload hx hb dX5_brings_168 (lv_at hl 1 rfl) ?_
              refine lv_aload_n hx hb dX5_brings_170 rfl (lv_at hl 6 rfl) ?_
              refine va_get (D := E.1) (ci := 5) (v := .ref (r 17)) (C := RX5) (T := TX5) (N := 26) hx hb hts (fun _ h => (List.mem_cons_of_mem _ (List.mem_append_right _ h))) hown hK.1 hP 0 rfl rfl 17 (by decide) (hts _ (List.mem_of_getElem? (i := 5) rfl)) (fun _ h9 => h9) rfl dX5_brings_171 ?_
              refine lv_iload hx hb dX5_brings_174 (lv_at hl 0 rfl) ?_
              refine n_iald (f := f 17) hx hb hK.1 hP 10 0 rfl rfl (i := 2) (by omega) (by decide) dX5_brings_176 ?_
              refine lv_aload_n hx hb dX5_brings_177 rfl (lv_at hl 6 rfl) ?_
              refine lv_iload hx hb dX5_brings_178 (lv_at hl 0 rfl) ?_
              refine lv_iload_n hx hb dX5_brings_180 rfl (lv_at hl 8 rfl) ?_
              refine lv_iload hx hb dX5_brings_181 (lv_at hl 4 rfl) ?_
              refine lv_iload hx hb dX5_brings_183 (lv_at hl 3 rfl) ?_
              refine lv_iload hx hb dX5_brings_185 (lv_at hl 11 rfl) ?_
              refine lv_iload hx hb dX5_brings_187 (lv_at hl 12 rfl) ?_
              refine cR_V ⟨hx, hb, hml, hown, hts⟩ (c_X5_money l E r v f B C 2 h (nI ((s1 / 3) % 3)) (nI (s1 % 3)) (nI a) (nI b) (by omega) (by omega)) (cwV 6 hts gX5_brings_X5_money rfl rfl rfl (by decide +kernel) ⟨Nat.le_of_ble_eq_true rfl, Nat.le_of_ble_eq_true rfl⟩) hK hP 5 0 rfl rfl rfl hl.1 rfl (Nat.le_of_ble_eq_true rfl) dX5_brings_189 ⟨Nat.le_of_ble_eq_true rfl, Nat.le_of_ble_eq_true rfl⟩ ?_
              refine lv_imul hx hb dX5_brings_192 ?_
              refine lv_iadd hx hb dX5_brings_193 ?_
              refine lv_istore (lv' := [(11, .int ((((C ((369 * (h + 1)) + (((9 * (m_to f h (nI (s1 / 9)) (nI a) (nI b))) + (3 * a)) + b))) + ((f 17 0) * (m_money f 0 h (nI ((s1 / 3) % 3)) (nI (s1 % 3)) (nI a) (nI b)))) + ((f 17 1) * (m_money f 1 h (nI ((s1 / 3) % 3)) (nI (s1 % 3)) (nI a) (nI b)))) + ((f 17 2) * (m_money f 2 h (nI ((s1 / 3) % 3)) (nI (s1 % 3)) (nI a) (nI b))))), (12, .int (nI 2)), (10, .int (nI (((9 * (m_to f h (nI (s1 / 9)) (nI a) (nI b))) + (3 * a)) + b))), (9, .int (nI (s1 % 3))), (8, .int (nI ((s1 / 3) % 3))), (7, .int (nI (s1 / 9))), (0, .ref (r 0)), (1, .int (-1)), (2, .int (nI h)), (3, .int (nI s1)), (4, .int t), (5, .int (nI a)), (6, .int (nI b))]) hx hb dX5_brings_194 hl (by decide) rfl (fun ls hl => ?_)
              refine lv_iinc (v := (nI 3)) (lv' := [(12, .int (nI 3)), (11, .int ((((C ((369 * (h + 1)) + (((9 * (m_to f h (nI (s1 / 9)) (nI a) (nI b))) + (3 * a)) + b))) + ((f 17 0) * (m_money f 0 h (nI ((s1 / 3) % 3)) (nI (s1 % 3)) (nI a) (nI b)))) + ((f 17 1) * (m_money f 1 h (nI ((s1 / 3) % 3)) (nI (s1 % 3)) (nI a) (nI b)))) + ((f 17 2) * (m_money f 2 h (nI ((s1 / 3) % 3)) (nI (s1 % 3)) (nI a) (nI b))))), (10, .int (nI (((9 * (m_to f h (nI (s1 / 9)) (nI a) (nI b))) + (3 * a)) + b))), (9, .int (nI (s1 % 3))), (8, .int (nI ((s1 / 3) % 3))), (7, .int (nI (s1 / 9))), (0, .ref (r 0)), (1, .int (-1)), (2, .int (nI h)), (3, .int (nI s1)), (4, .int t), (5, .int (nI a)), (6, .int (nI b))]) hx hb dX5_brings_196 hl (k := 1) rfl (nI_1 _) (by decide) rfl (fun ls hl => ?_)
              refine lv_goto (tgt := 162) hx hb dX5_brings_199 (by decide) ?_
              refine lv_iload hx hb dX5_brings_162 (lv_at hl 0 rfl) ?_
              refine lv_iconst (v := 3) hx hb dX5_brings_164 (by decide) ?_
              refine n_icmp_ge (tgt := 202) (a := 3) (b := 3) hx hb dX5_brings_165 (by decide) (by omega) (by omega) (fun c_7 => ?_) (fun c_7 => ?_)
              · skip
                refine lv_iload hx hb dX5_brings_202 (lv_at hl 1 rfl) ?_
                exact r_ret hx hb hr hlocks (by first | rfl | (simp [m_br, m_finA, c_1, c_2, c_3, c_4, c_5, c_6, c_7]; done) | (simp only [m_br, m_finA, c_1, c_2, c_3, c_4, c_5, c_6, c_7, if_true, if_false, reduceIte, not_true_eq_false, not_false_eq_true]; done) | (simp only [m_br, m_finA]; split <;> first | rfl | (simp_all; done) | omega) | (simp_all [m_br, m_finA]; done)) dX5_brings_204
              · skip
                exact absurd c_7 (by decide)
      · skip
        refine lv_ldc hx hb hown (hts _ (List.mem_of_getElem? (i := 1) rfl)) dX5_brings_156 ?_
        exact r_ret hx hb hr hlocks (by first | rfl | (simp [m_br, m_finA, c_1, c_2, c_3]; done) | (simp only [m_br, m_finA, c_1, c_2, c_3, if_true, if_false, reduceIte, not_true_eq_false, not_false_eq_true]; done) | (simp only [m_br, m_finA]; split <;> first | rfl | (simp_all; done) | omega) | (simp_all [m_br, m_finA]; done)) dX5_brings_158
    · skip
      exact absurd c_2 (by decide)
  · skip
    refine lv_ldc hx hb hown (hts _ (List.mem_of_getElem? (i := 1) rfl)) dX5_brings_41 ?_
    exact r_ret hx hb hr hlocks (by first | rfl | (simp [m_br, m_finA, c_1]; done) | (simp only [m_br, m_finA, c_1, if_true, if_false, reduceIte, not_true_eq_false, not_false_eq_true]; done) | (simp only [m_br, m_finA]; split <;> first | rfl | (simp_all; done) | omega) | (simp_all [m_br, m_finA]; done)) dX5_brings_43
end
section
set_option maxHeartbeats 4000000 in
set_option maxRecDepth 100000 in
theorem c_X5_bestOfW (l : Launch) (E : GG) (r : Nat → Nat) (v : Nat → Int32) (f : Nat → Nat → Int32) (B C : Nat → Int32) (w : Nat) (h : Nat) (s1 : Nat) (t : Int32) (hw : w < 3) (hh : h < 24) (hs : s1 < 369) (h40 : (v 2).toInt ≤ 40) : Met l yX5_bestOf wsX5_bestOf (Rm 4 0 0) (pR E [.ref (r 0), .int (nI w), .int (nI h), .int (nI s1), .int t] (MW E r v f B C)) (QcRead (m_b9 (m_brW v f B w h s1 t))) 0 0 (fun _ => False) := by
  refine ofR (by decide) rfl (Nat.le_of_ble_eq_true rfl) ?_
  intro p e s m below meth c hx hb hr hlocks hml hown hts hK hP ls hl
  have hl : lv_has ls 9 [(0, .ref (r 0)), (1, .int (nI w)), (2, .int (nI h)), (3, .int (nI s1)), (4, .int t)] := hl
  refine lv_ldc hx hb hown (hts _ (List.mem_of_getElem? (i := 1) rfl)) dX5_bestOf_0 ?_
  refine lv_istore (lv' := [(5, .int (-1000000000)), (0, .ref (r 0)), (1, .int (nI w)), (2, .int (nI h)), (3, .int (nI s1)), (4, .int t)]) hx hb dX5_bestOf_2 hl (by decide) rfl (fun ls hl => ?_)
  refine lv_iconst (v := 0) hx hb dX5_bestOf_4 (by decide) ?_
  refine lv_istore (lv' := [(6, .int 0), (5, .int (-1000000000)), (0, .ref (r 0)), (1, .int (nI w)), (2, .int (nI h)), (3, .int (nI s1)), (4, .int t)]) hx hb dX5_bestOf_5 hl (by decide) rfl (fun ls hl => ?_)
  refine lv_iload hx hb dX5_bestOf_7 (lv_at hl 0 rfl) ?_
  refine lv_iconst (v := 3) hx hb dX5_bestOf_9 (by decide) ?_
  refine n_icmp_ge (tgt := 65) (a := 0) (b := 3) hx hb dX5_bestOf_10 (by decide) (by omega) (by omega) (fun c_1 => ?_) (fun c_1 => ?_)
  · skip
    exact absurd c_1 (by decide)
  · skip
    refine lv_iconst (v := 0) hx hb dX5_bestOf_13 (by decide) ?_
    refine lv_istore (lv' := [(7, .int 0), (6, .int 0), (5, .int (-1000000000)), (0, .ref (r 0)), (1, .int (nI w)), (2, .int (nI h)), (3, .int (nI s1)), (4, .int t)]) hx hb dX5_bestOf_14 hl (by decide) rfl (fun ls hl => ?_)
    refine lv_iload hx hb dX5_bestOf_16 (lv_at hl 0 rfl) ?_
    refine lv_iconst (v := 3) hx hb dX5_bestOf_18 (by decide) ?_
    refine n_icmp_ge (tgt := 59) (a := 0) (b := 3) hx hb dX5_bestOf_19 (by decide) (by omega) (by omega) (fun c_2 => ?_) (fun c_2 => ?_)
    · skip
      exact absurd c_2 (by decide)
    · skip
      refine lv_aload_n hx hb dX5_bestOf_22 rfl (lv_at hl 3 rfl) ?_
      refine lv_iload_n hx hb dX5_bestOf_23 rfl (lv_at hl 4 rfl) ?_
      refine lv_iload_n hx hb dX5_bestOf_24 rfl (lv_at hl 5 rfl) ?_
      refine lv_iload_n hx hb dX5_bestOf_25 rfl (lv_at hl 6 rfl) ?_
      refine lv_iload hx hb dX5_bestOf_26 (lv_at hl 7 rfl) ?_
      refine lv_iload hx hb dX5_bestOf_28 (lv_at hl 1 rfl) ?_
      refine lv_iload hx hb dX5_bestOf_30 (lv_at hl 0 rfl) ?_
      refine cR_V ⟨hx, hb, hml, hown, hts⟩ (c_X5_bringsW l E r v f B C w h s1 t 0 0 (by omega) (by omega) (by omega) (by omega) (by omega) h40) (cwV 6 hts gX5_bestOf_X5_brings rfl rfl rfl (by decide +kernel) ⟨Nat.le_of_ble_eq_true rfl, Nat.le_of_ble_eq_true rfl⟩) hK hP 5 0 rfl rfl rfl hl.1 rfl (Nat.le_of_ble_eq_true rfl) dX5_bestOf_32 ⟨Nat.le_of_ble_eq_true rfl, Nat.le_of_ble_eq_true rfl⟩ ?_
      refine lv_istore (lv' := [(8, .int (m_brW v f B w h s1 t 0 0)), (7, .int 0), (6, .int 0), (5, .int (-1000000000)), (0, .ref (r 0)), (1, .int (nI w)), (2, .int (nI h)), (3, .int (nI s1)), (4, .int t)]) hx hb dX5_bestOf_35 hl (by decide) rfl (fun ls hl => ?_)
      refine w_join (fun x : Int32 => x = m_mx (m_brW v f B w h s1 t 0 0) (-1000000000)) (fun x => F0 m 51 ls (.int x :: [])) ?_ (fun J51 => ?_)
      · intro x_3 ex_3
        refine lv_istore (lv' := [(5, .int x_3), (8, .int (m_brW v f B w h s1 t 0 0)), (7, .int 0), (6, .int 0), (0, .ref (r 0)), (1, .int (nI w)), (2, .int (nI h)), (3, .int (nI s1)), (4, .int t)]) hx hb dX5_bestOf_51 hl (by decide) rfl (fun ls hl => ?_)
        refine lv_iinc (v := (nI 1)) (lv' := [(7, .int (nI 1)), (5, .int x_3), (8, .int (m_brW v f B w h s1 t 0 0)), (6, .int 0), (0, .ref (r 0)), (1, .int (nI w)), (2, .int (nI h)), (3, .int (nI s1)), (4, .int t)]) hx hb dX5_bestOf_53 hl (k := 2) rfl (nI_1 _) (by decide) rfl (fun ls hl => ?_)
        refine lv_goto (tgt := 16) hx hb dX5_bestOf_56 (by decide) ?_
        refine lv_iload hx hb dX5_bestOf_16 (lv_at hl 0 rfl) ?_
        refine lv_iconst (v := 3) hx hb dX5_bestOf_18 (by decide) ?_
        refine n_icmp_ge (tgt := 59) (a := 1) (b := 3) hx hb dX5_bestOf_19 (by decide) (by omega) (by omega) (fun c_4 => ?_) (fun c_4 => ?_)
        · skip
          exact absurd c_4 (by decide)
        · skip
          refine lv_aload_n hx hb dX5_bestOf_22 rfl (lv_at hl 4 rfl) ?_
          refine lv_iload_n hx hb dX5_bestOf_23 rfl (lv_at hl 5 rfl) ?_
          refine lv_iload_n hx hb dX5_bestOf_24 rfl (lv_at hl 6 rfl) ?_
          refine lv_iload_n hx hb dX5_bestOf_25 rfl (lv_at hl 7 rfl) ?_
          refine lv_iload hx hb dX5_bestOf_26 (lv_at hl 8 rfl) ?_
          refine lv_iload hx hb dX5_bestOf_28 (lv_at hl 3 rfl) ?_
          refine lv_iload hx hb dX5_bestOf_30 (lv_at hl 0 rfl) ?_
          refine cR_V ⟨hx, hb, hml, hown, hts⟩ (c_X5_bringsW l E r v f B C w h s1 t 0 1 (by omega) (by omega) (by omega) (by omega) (by omega) h40) (cwV 6 hts gX5_bestOf_X5_brings rfl rfl rfl (by decide +kernel) ⟨Nat.le_of_ble_eq_true rfl, Nat.le_of_ble_eq_true rfl⟩) hK hP 5 0 rfl rfl rfl hl.1 rfl (Nat.le_of_ble_eq_true rfl) dX5_bestOf_32 ⟨Nat.le_of_ble_eq_true rfl, Nat.le_of_ble_eq_true rfl⟩ ?_
          refine lv_istore (lv' := [(8, .int (m_brW v f B w h s1 t 0 1)), (7, .int (nI 1)), (5, .int x_3), (6, .int 0), (0, .ref (r 0)), (1, .int (nI w)), (2, .int (nI h)), (3, .int (nI s1)), (4, .int t)]) hx hb dX5_bestOf_35 hl (by decide) rfl (fun ls hl => ?_)
          refine w_join (fun x : Int32 => x = m_mx (m_brW v f B w h s1 t 0 1) x_3) (fun x => F0 m 51 ls (.int x :: [])) ?_ (fun J51 => ?_)
          · intro x_5 ex_5
            refine lv_istore (lv' := [(5, .int x_5), (8, .int (m_brW v f B w h s1 t 0 1)), (7, .int (nI 1)), (6, .int 0), (0, .ref (r 0)), (1, .int (nI w)), (2, .int (nI h)), (3, .int (nI s1)), (4, .int t)]) hx hb dX5_bestOf_51 hl (by decide) rfl (fun ls hl => ?_)
            refine lv_iinc (v := (nI 2)) (lv' := [(7, .int (nI 2)), (5, .int x_5), (8, .int (m_brW v f B w h s1 t 0 1)), (6, .int 0), (0, .ref (r 0)), (1, .int (nI w)), (2, .int (nI h)), (3, .int (nI s1)), (4, .int t)]) hx hb dX5_bestOf_53 hl (k := 2) rfl (nI_1 _) (by decide) rfl (fun ls hl => ?_)
            refine lv_goto (tgt := 16) hx hb dX5_bestOf_56 (by decide) ?_
            refine lv_iload hx hb dX5_bestOf_16 (lv_at hl 0 rfl) ?_
            refine lv_iconst (v := 3) hx hb dX5_bestOf_18 (by decide) ?_
            refine n_icmp_ge (tgt := 59) (a := 2) (b := 3) hx hb dX5_bestOf_19 (by decide) (by omega) (by omega) (fun c_6 => ?_) (fun c_6 => ?_)
            · skip
              exact absurd c_6 (by decide)
            · skip
              refine lv_aload_n hx hb dX5_bestOf_22 rfl (lv_at hl 4 rfl) ?_
              refine lv_iload_n hx hb dX5_bestOf_23 rfl (lv_at hl 5 rfl) ?_
              refine lv_iload_n hx hb dX5_bestOf_24 rfl (lv_at hl 6 rfl) ?_
              refine lv_iload_n hx hb dX5_bestOf_25 rfl (lv_at hl 7 rfl) ?_
              refine lv_iload hx hb dX5_bestOf_26 (lv_at hl 8 rfl) ?_
              refine lv_iload hx hb dX5_bestOf_28 (lv_at hl 3 rfl) ?_
              refine lv_iload hx hb dX5_bestOf_30 (lv_at hl 0 rfl) ?_
              refine cR_V ⟨hx, hb, hml, hown, hts⟩ (c_X5_bringsW l E r v f B C w h s1 t 0 2 (by omega) (by omega) (by omega) (by omega) (by omega) h40) (cwV 6 hts gX5_bestOf_X5_brings rfl rfl rfl (by decide +kernel) ⟨Nat.le_of_ble_eq_true rfl, Nat.le_of_ble_eq_true rfl⟩) hK hP 5 0 rfl rfl rfl hl.1 rfl (Nat.le_of_ble_eq_true rfl) dX5_bestOf_32 ⟨Nat.le_of_ble_eq_true rfl, Nat.le_of_ble_eq_true rfl⟩ ?_
              refine lv_istore (lv' := [(8, .int (m_brW v f B w h s1 t 0 2)), (7, .int (nI 2)), (5, .int x_5), (6, .int 0), (0, .ref (r 0)), (1, .int (nI w)), (2, .int (nI h)), (3, .int (nI s1)), (4, .int t)]) hx hb dX5_bestOf_35 hl (by decide) rfl (fun ls hl => ?_)
              refine w_join (fun x : Int32 => x = m_mx (m_brW v f B w h s1 t 0 2) x_5) (fun x => F0 m 51 ls (.int x :: [])) ?_ (fun J51 => ?_)
              · intro x_7 ex_7
                refine lv_istore (lv' := [(5, .int x_7), (8, .int (m_brW v f B w h s1 t 0 2)), (7, .int (nI 2)), (6, .int 0), (0, .ref (r 0)), (1, .int (nI w)), (2, .int (nI h)), (3, .int (nI s1)), (4, .int t)]) hx hb dX5_bestOf_51 hl (by decide) rfl (fun ls hl => ?_)
                refine lv_iinc (v := (nI 3)) (lv' := [(7, .int (nI 3)), (5, .int x_7), (8, .int (m_brW v f B w h s1 t 0 2)), (6, .int 0), (0, .ref (r 0)), (1, .int (nI w)), (2, .int (nI h)), (3, .int (nI s1)), (4, .int t)]) hx hb dX5_bestOf_53 hl (k := 2) rfl (nI_1 _) (by decide) rfl (fun ls hl => ?_)
                refine lv_goto (tgt := 16) hx hb dX5_bestOf_56 (by decide) ?_
                refine lv_iload hx hb dX5_bestOf_16 (lv_at hl 0 rfl) ?_
                refine lv_iconst (v := 3) hx hb dX5_bestOf_18 (by decide) ?_
                refine n_icmp_ge (tgt := 59) (a := 3) (b := 3) hx hb dX5_bestOf_19 (by decide) (by omega) (by omega) (fun c_8 => ?_) (fun c_8 => ?_)
                · skip
                  refine lv_iinc (v := (nI 1)) (lv' := [(6, .int (nI 1)), (7, .int (nI 3)), (5, .int x_7), (8, .int (m_brW v f B w h s1 t 0 2)), (0, .ref (r 0)), (1, .int (nI w)), (2, .int (nI h)), (3, .int (nI s1)), (4, .int t)]) hx hb dX5_bestOf_59 hl (k := 3) rfl (nI_1 _) (by decide) rfl (fun ls hl => ?_)
                  refine lv_goto (tgt := 7) hx hb dX5_bestOf_62 (by decide) ?_
                  refine lv_iload hx hb dX5_bestOf_7 (lv_at hl 0 rfl) ?_
                  refine lv_iconst (v := 3) hx hb dX5_bestOf_9 (by decide) ?_
                  refine n_icmp_ge (tgt := 65) (a := 1) (b := 3) hx hb dX5_bestOf_10 (by decide) (by omega) (by omega) (fun c_9 => ?_) (fun c_9 => ?_)
                  · skip
                    exact absurd c_9 (by decide)
                  · skip
                    refine lv_iconst (v := 0) hx hb dX5_bestOf_13 (by decide) ?_
                    refine lv_istore (lv' := [(7, .int 0), (6, .int (nI 1)), (5, .int x_7), (8, .int (m_brW v f B w h s1 t 0 2)), (0, .ref (r 0)), (1, .int (nI w)), (2, .int (nI h)), (3, .int (nI s1)), (4, .int t)]) hx hb dX5_bestOf_14 hl (by decide) rfl (fun ls hl => ?_)
                    refine lv_iload hx hb dX5_bestOf_16 (lv_at hl 0 rfl) ?_
                    refine lv_iconst (v := 3) hx hb dX5_bestOf_18 (by decide) ?_
                    refine n_icmp_ge (tgt := 59) (a := 0) (b := 3) hx hb dX5_bestOf_19 (by decide) (by omega) (by omega) (fun c_10 => ?_) (fun c_10 => ?_)
                    · skip
                      exact absurd c_10 (by decide)
                    · skip
                      refine lv_aload_n hx hb dX5_bestOf_22 rfl (lv_at hl 4 rfl) ?_
                      refine lv_iload_n hx hb dX5_bestOf_23 rfl (lv_at hl 5 rfl) ?_
                      refine lv_iload_n hx hb dX5_bestOf_24 rfl (lv_at hl 6 rfl) ?_
                      refine lv_iload_n hx hb dX5_bestOf_25 rfl (lv_at hl 7 rfl) ?_
                      refine lv_iload hx hb dX5_bestOf_26 (lv_at hl 8 rfl) ?_
                      refine lv_iload hx hb dX5_bestOf_28 (lv_at hl 1 rfl) ?_
                      refine lv_iload hx hb dX5_bestOf_30 (lv_at hl 0 rfl) ?_
                      refine cR_V ⟨hx, hb, hml, hown, hts⟩ (c_X5_bringsW l E r v f B C w h s1 t 1 0 (by omega) (by omega) (by omega) (by omega) (by omega) h40) (cwV 6 hts gX5_bestOf_X5_brings rfl rfl rfl (by decide +kernel) ⟨Nat.le_of_ble_eq_true rfl, Nat.le_of_ble_eq_true rfl⟩) hK hP 5 0 rfl rfl rfl hl.1 rfl (Nat.le_of_ble_eq_true rfl) dX5_bestOf_32 ⟨Nat.le_of_ble_eq_true rfl, Nat.le_of_ble_eq_true rfl⟩ ?_
                      refine lv_istore (lv' := [(8, .int (m_brW v f B w h s1 t 1 0)), (7, .int 0), (6, .int (nI 1)), (5, .int x_7), (0, .ref (r 0)), (1, .int (nI w)), (2, .int (nI h)), (3, .int (nI s1)), (4, .int t)]) hx hb dX5_bestOf_35 hl (by decide) rfl (fun ls hl => ?_)
                      refine w_join (fun x : Int32 => x = m_mx (m_brW v f B w h s1 t 1 0) x_7) (fun x => F0 m 51 ls (.int x :: [])) ?_ (fun J51 => ?_)
                      · intro x_11 ex_11
                        refine lv_istore (lv' := [(5, .int x_11), (8, .int (m_brW v f B w h s1 t 1 0)), (7, .int 0), (6, .int (nI 1)), (0, .ref (r 0)), (1, .int (nI w)), (2, .int (nI h)), (3, .int (nI s1)), (4, .int t)]) hx hb dX5_bestOf_51 hl (by decide) rfl (fun ls hl => ?_)
                        refine lv_iinc (v := (nI 1)) (lv' := [(7, .int (nI 1)), (5, .int x_11), (8, .int (m_brW v f B w h s1 t 1 0)), (6, .int (nI 1)), (0, .ref (r 0)), (1, .int (nI w)), (2, .int (nI h)), (3, .int (nI s1)), (4, .int t)]) hx hb dX5_bestOf_53 hl (k := 2) rfl (nI_1 _) (by decide) rfl (fun ls hl => ?_)
                        refine lv_goto (tgt := 16) hx hb dX5_bestOf_56 (by decide) ?_
                        refine lv_iload hx hb dX5_bestOf_16 (lv_at hl 0 rfl) ?_
                        refine lv_iconst (v := 3) hx hb dX5_bestOf_18 (by decide) ?_
                        refine n_icmp_ge (tgt := 59) (a := 1) (b := 3) hx hb dX5_bestOf_19 (by decide) (by omega) (by omega) (fun c_12 => ?_) (fun c_12 => ?_)
                        · skip
                          exact absurd c_12 (by decide)
                        · skip
                          refine lv_aload_n hx hb dX5_bestOf_22 rfl (lv_at hl 4 rfl) ?_
                          refine lv_iload_n hx hb dX5_bestOf_23 rfl (lv_at hl 5 rfl) ?_
                          refine lv_iload_n hx hb dX5_bestOf_24 rfl (lv_at hl 6 rfl) ?_
                          refine lv_iload_n hx hb dX5_bestOf_25 rfl (lv_at hl 7 rfl) ?_
                          refine lv_iload hx hb dX5_bestOf_26 (lv_at hl 8 rfl) ?_
                          refine lv_iload hx hb dX5_bestOf_28 (lv_at hl 3 rfl) ?_
                          refine lv_iload hx hb dX5_bestOf_30 (lv_at hl 0 rfl) ?_
                          refine cR_V ⟨hx, hb, hml, hown, hts⟩ (c_X5_bringsW l E r v f B C w h s1 t 1 1 (by omega) (by omega) (by omega) (by omega) (by omega) h40) (cwV 6 hts gX5_bestOf_X5_brings rfl rfl rfl (by decide +kernel) ⟨Nat.le_of_ble_eq_true rfl, Nat.le_of_ble_eq_true rfl⟩) hK hP 5 0 rfl rfl rfl hl.1 rfl (Nat.le_of_ble_eq_true rfl) dX5_bestOf_32 ⟨Nat.le_of_ble_eq_true rfl, Nat.le_of_ble_eq_true rfl⟩ ?_
                          refine lv_istore (lv' := [(8, .int (m_brW v f B w h s1 t 1 1)), (7, .int (nI 1)), (5, .int x_11), (6, .int (nI 1)), (0, .ref (r 0)), (1, .int (nI w)), (2, .int (nI h)), (3, .int (nI s1)), (4, .int t)]) hx hb dX5_bestOf_35 hl (by decide) rfl (fun ls hl => ?_)
                          refine w_join (fun x : Int32 => x = m_mx (m_brW v f B w h s1 t 1 1) x_11) (fun x => F0 m 51 ls (.int x :: [])) ?_ (fun J51 => ?_)
                          · intro x_13 ex_13
                            refine lv_istore (lv' := [(5, .int x_13), (8, .int (m_brW v f B w h s1 t 1 1)), (7, .int (nI 1)), (6, .int (nI 1)), (0, .ref (r 0)), (1, .int (nI w)), (2, .int (nI h)), (3, .int (nI s1)), (4, .int t)]) hx hb dX5_bestOf_51 hl (by decide) rfl (fun ls hl => ?_)
                            refine lv_iinc (v := (nI 2)) (lv' := [(7, .int (nI 2)), (5, .int x_13), (8, .int (m_brW v f B w h s1 t 1 1)), (6, .int (nI 1)), (0, .ref (r 0)), (1, .int (nI w)), (2, .int (nI h)), (3, .int (nI s1)), (4, .int t)]) hx hb dX5_bestOf_53 hl (k := 2) rfl (nI_1 _) (by decide) rfl (fun ls hl => ?_)
                            refine lv_goto (tgt := 16) hx hb dX5_bestOf_56 (by decide) ?_
                            refine lv_iload hx hb dX5_bestOf_16 (lv_at hl 0 rfl) ?_
                            refine lv_iconst (v := 3) hx hb dX5_bestOf_18 (by decide) ?_
                            refine n_icmp_ge (tgt := 59) (a := 2) (b := 3) hx hb dX5_bestOf_19 (by decide) (by omega) (by omega) (fun c_14 => ?_) (fun c_14 => ?_)
                            · skip
                              exact absurd c_14 (by decide)
                            · skip
                              refine lv_aload_n hx hb dX5_bestOf_22 rfl (lv_at hl 4 rfl) ?_
                              refine lv_iload_n hx hb dX5_bestOf_23 rfl (lv_at hl 5 rfl) ?_
                              refine lv_iload_n hx hb dX5_bestOf_24 rfl (lv_at hl 6 rfl) ?_
                              refine lv_iload_n hx hb dX5_bestOf_25 rfl (lv_at hl 7 rfl) ?_
                              refine lv_iload hx hb dX5_bestOf_26 (lv_at hl 8 rfl) ?_
                              refine lv_iload hx hb dX5_bestOf_28 (lv_at hl 3 rfl) ?_
                              refine lv_iload hx hb dX5_bestOf_30 (lv_at hl 0 rfl) ?_
                              refine cR_V ⟨hx, hb, hml, hown, hts⟩ (c_X5_bringsW l E r v f B C w h s1 t 1 2 (by omega) (by omega) (by omega) (by omega) (by omega) h40) (cwV 6 hts gX5_bestOf_X5_brings rfl rfl rfl (by decide +kernel) ⟨Nat.le_of_ble_eq_true rfl, Nat.le_of_ble_eq_true rfl⟩) hK hP 5 0 rfl rfl rfl hl.1 rfl (Nat.le_of_ble_eq_true rfl) dX5_bestOf_32 ⟨Nat.le_of_ble_eq_true rfl, Nat.le_of_ble_eq_true rfl⟩ ?_
                              refine lv_istore (lv' := [(8, .int (m_brW v f B w h s1 t 1 2)), (7, .int (nI 2)), (5, .int x_13), (6, .int (nI 1)), (0, .ref (r 0)), (1, .int (nI w)), (2, .int (nI h)), (3, .int (nI s1)), (4, .int t)]) hx hb dX5_bestOf_35 hl (by decide) rfl (fun ls hl => ?_)
                              refine w_join (fun x : Int32 => x = m_mx (m_brW v f B w h s1 t 1 2) x_13) (fun x => F0 m 51 ls (.int x :: [])) ?_ (fun J51 => ?_)
                              · intro x_15 ex_15
                                refine lv_istore (lv' := [(5, .int x_15), (8, .int (m_brW v f B w h s1 t 1 2)), (7, .int (nI 2)), (6, .int (nI 1)), (0, .ref (r 0)), (1, .int (nI w)), (2, .int (nI h)), (3, .int (nI s1)), (4, .int t)]) hx hb dX5_bestOf_51 hl (by decide) rfl (fun ls hl => ?_)
                                refine lv_iinc (v := (nI 3)) (lv' := [(7, .int (nI 3)), (5, .int x_15), (8, .int (m_brW v f B w h s1 t 1 2)), (6, .int (nI 1)), (0, .ref (r 0)), (1, .int (nI w)), (2, .int (nI h)), (3, .int (nI s1)), (4, .int t)]) hx hb dX5_bestOf_53 hl (k := 2) rfl (nI_1 _) (by decide) rfl (fun ls hl => ?_)
                                refine lv_goto (tgt := 16) hx hb dX5_bestOf_56 (by decide) ?_
                                refine lv_iload hx hb dX5_bestOf_16 (lv_at hl 0 rfl) ?_
                                refine lv_iconst (v := 3) hx hb dX5_bestOf_18 (by decide) ?_
                                refine n_icmp_ge (tgt := 59) (a := 3) (b := 3) hx hb dX5_bestOf_19 (by decide) (by omega) (by omega) (fun c_16 => ?_) (fun c_16 => ?_)
                                · skip
                                  refine lv_iinc (v := (nI 2)) (lv' := [(6, .int (nI 2)), (7, .int (nI 3)), (5, .int x_15), (8, .int (m_brW v f B w h s1 t 1 2)), (0, .ref (r 0)), (1, .int (nI w)), (2, .int (nI h)), (3, .int (nI s1)), (4, .int t)]) hx hb dX5_bestOf_59 hl (k := 3) rfl (nI_1 _) (by decide) rfl (fun ls hl => ?_)
                                  refine lv_goto (tgt := 7) hx hb dX5_bestOf_62 (by decide) ?_
                                  refine lv_iload hx hb dX5_bestOf_7 (lv_at hl 0 rfl) ?_
                                  refine lv_iconst (v := 3) hx hb dX5_bestOf_9 (by decide) ?_
                                  refine n_icmp_ge (tgt := 65) (a := 2) (b := 3) hx hb dX5_bestOf_10 (by decide) (by omega) (by omega) (fun c_17 => ?_) (fun c_17 => ?_)
                                  · skip
                                    exact absurd c_17 (by decide)
                                  · skip
                                    refine lv_iconst (v := 0) hx hb dX5_bestOf_13 (by decide) ?_
                                    refine lv_istore (lv' := [(7, .int 0), (6, .int (nI 2)), (5, .int x_15), (8, .int (m_brW v f B w h s1 t 1 2)), (0, .ref (r 0)), (1, .int (nI w)), (2, .int (nI h)), (3, .int (nI s1)), (4, .int t)]) hx hb dX5_bestOf_14 hl (by decide) rfl (fun ls hl => ?_)
                                    refine lv_iload hx hb dX5_bestOf_16 (lv_at hl 0 rfl) ?_
                                    refine lv_iconst (v := 3) hx hb dX5_bestOf_18 (by decide) ?_
                                    refine n_icmp_ge (tgt := 59) (a := 0) (b := 3) hx hb dX5_bestOf_19 (by decide) (by omega) (by omega) (fun c_18 => ?_) (fun c_18 => ?_)
                                    · skip
                                      exact absurd c_18 (by decide)
                                    · skip
                                      refine lv_aload_n hx hb dX5_bestOf_22 rfl (lv_at hl 4 rfl) ?_
                                      refine lv_iload_n hx hb dX5_bestOf_23 rfl (lv_at hl 5 rfl) ?_
                                      refine lv_iload_n hx hb dX5_bestOf_24 rfl (lv_at hl 6 rfl) ?_
                                      refine lv_iload_n hx hb dX5_bestOf_25 rfl (lv_at hl 7 rfl) ?_
                                      refine lv_iload hx hb dX5_bestOf_26 (lv_at hl 8 rfl) ?_
                                      refine lv_iload hx hb dX5_bestOf_28 (lv_at hl 1 rfl) ?_
                                      refine lv_iload hx hb dX5_bestOf_30 (lv_at hl 0 rfl) ?_
                                      refine cR_V ⟨hx, hb, hml, hown, hts⟩ (c_X5_bringsW l E r v f B C w h s1 t 2 0 (by omega) (by omega) (by omega) (by omega) (by omega) h40) (cwV 6 hts gX5_bestOf_X5_brings rfl rfl rfl (by decide +kernel) ⟨Nat.le_of_ble_eq_true rfl, Nat.le_of_ble_eq_true rfl⟩) hK hP 5 0 rfl rfl rfl hl.1 rfl (Nat.le_of_ble_eq_true rfl) dX5_bestOf_32 ⟨Nat.le_of_ble_eq_true rfl, Nat.le_of_ble_eq_true rfl⟩ ?_
                                      refine lv_istore (lv' := [(8, .int (m_brW v f B w h s1 t 2 0)), (7, .int 0), (6, .int (nI 2)), (5, .int x_15), (0, .ref (r 0)), (1, .int (nI w)), (2, .int (nI h)), (3, .int (nI s1)), (4, .int t)]) hx hb dX5_bestOf_35 hl (by decide) rfl (fun ls hl => ?_)
                                      refine w_join (fun x : Int32 => x = m_mx (m_brW v f B w h s1 t 2 0) x_15) (fun x => F0 m 51 ls (.int x :: [])) ?_ (fun J51 => ?_)
                                      · intro x_19 ex_19
                                        refine lv_istore (lv' := [(5, .int x_19), (8, .int (m_brW v f B w h s1 t 2 0)), (7, .int 0), (6, .int (nI 2)), (0, .ref (r 0)), (1, .int (nI w)), (2, .int (nI h)), (3, .int (nI s1)), (4, .int t)]) hx hb dX5_bestOf_51 hl (by decide) rfl (fun ls hl => ?_)
                                        refine lv_iinc (v := (nI 1)) (lv' := [(7, .int (nI 1)), (5, .int x_19), (8, .int (m_brW v f B w h s1 t 2 0)), (6, .int (nI 2)), (0, .ref (r 0)), (1, .int (nI w)), (2, .int (nI h)), (3, .int (nI s1)), (4, .int t)]) hx hb dX5_bestOf_53 hl (k := 2) rfl (nI_1 _) (by decide) rfl (fun ls hl => ?_)
                                        refine lv_goto (tgt := 16) hx hb dX5_bestOf_56 (by decide) ?_
                                        refine lv_iload hx hb dX5_bestOf_16 (lv_at hl 0 rfl) ?_
                                        refine lv_iconst (v := 3) hx hb dX5_bestOf_18 (by decide) ?_
                                        refine n_icmp_ge (tgt := 59) (a := 1) (b := 3) hx hb dX5_bestOf_19 (by decide) (by omega) (by omega) (fun c_20 => ?_) (fun c_20 => ?_)
                                        · skip
                                          exact absurd c_20 (by decide)
                                        · skip
                                          refine lv_aload_n hx hb dX5_bestOf_22 rfl (lv_at hl 4 rfl) ?_
                                          refine lv_iload_n hx hb dX5_bestOf_23 rfl (lv_at hl 5 rfl) ?_
                                          refine lv_iload_n hx hb dX5_bestOf_24 rfl (lv_at hl 6 rfl) ?_
                                          refine lv_iload_n hx hb dX5_bestOf_25 rfl (lv_at hl 7 rfl) ?_
                                          refine lv_iload hx hb dX5_bestOf_26 (lv_at hl 8 rfl) ?_
                                          refine lv_iload hx hb dX5_bestOf_28 (lv_at hl 3 rfl) ?_
                                          refine lv_iload hx hb dX5_bestOf_30 (lv_at hl 0 rfl) ?_
                                          refine cR_V ⟨hx, hb, hml, hown, hts⟩ (c_X5_bringsW l E r v f B C w h s1 t 2 1 (by omega) (by omega) (by omega) (by omega) (by omega) h40) (cwV 6 hts gX5_bestOf_X5_brings rfl rfl rfl (by decide +kernel) ⟨Nat.le_of_ble_eq_true rfl, Nat.le_of_ble_eq_true rfl⟩) hK hP 5 0 rfl rfl rfl hl.1 rfl (Nat.le_of_ble_eq_true rfl) dX5_bestOf_32 ⟨Nat.le_of_ble_eq_true rfl, Nat.le_of_ble_eq_true rfl⟩ ?_
                                          refine lv_istore (lv' := [(8, .int (m_brW v f B w h s1 t 2 1)), (7, .int (nI 1)), (5, .int x_19), (6, .int (nI 2)), (0, .ref (r 0)), (1, .int (nI w)), (2, .int (nI h)), (3, .int (nI s1)), (4, .int t)]) hx hb dX5_bestOf_35 hl (by decide) rfl (fun ls hl => ?_)
                                          refine w_join (fun x : Int32 => x = m_mx (m_brW v f B w h s1 t 2 1) x_19) (fun x => F0 m 51 ls (.int x :: [])) ?_ (fun J51 => ?_)
                                          · intro x_21 ex_21
                                            refine lv_istore (lv' := [(5, .int x_21), (8, .int (m_brW v f B w h s1 t 2 1)), (7, .int (nI 1)), (6, .int (nI 2)), (0, .ref (r 0)), (1, .int (nI w)), (2, .int (nI h)), (3, .int (nI s1)), (4, .int t)]) hx hb dX5_bestOf_51 hl (by decide) rfl (fun ls hl => ?_)
                                            refine lv_iinc (v := (nI 2)) (lv' := [(7, .int (nI 2)), (5, .int x_21), (8, .int (m_brW v f B w h s1 t 2 1)), (6, .int (nI 2)), (0, .ref (r 0)), (1, .int (nI w)), (2, .int (nI h)), (3, .int (nI s1)), (4, .int t)]) hx hb dX5_bestOf_53 hl (k := 2) rfl (nI_1 _) (by decide) rfl (fun ls hl => ?_)
                                            refine lv_goto (tgt := 16) hx hb dX5_bestOf_56 (by decide) ?_
                                            refine lv_iload hx hb dX5_bestOf_16 (lv_at hl 0 rfl) ?_
                                            refine lv_iconst (v := 3) hx hb dX5_bestOf_18 (by decide) ?_
                                            refine n_icmp_ge (tgt := 59) (a := 2) (b := 3) hx hb dX5_bestOf_19 (by decide) (by omega) (by omega) (fun c_22 => ?_) (fun c_22 => ?_)
                                            · skip
                                              exact absurd c_22 (by decide)
                                            · skip
                                              refine lv_aload_n hx hb dX5_bestOf_22 rfl (lv_at hl 4 rfl) ?_
                                              refine lv_iload_n hx hb dX5_bestOf_23 rfl (lv_at hl 5 rfl) ?_
                                              refine lv_iload_n hx hb dX5_bestOf_24 rfl (lv_at hl 6 rfl) ?_
                                              refine lv_iload_n hx hb dX5_bestOf_25 rfl (lv_at hl 7 rfl) ?_
                                              refine lv_iload hx hb dX5_bestOf_26 (lv_at hl 8 rfl) ?_
                                              refine lv_iload hx hb dX5_bestOf_28 (lv_at hl 3 rfl) ?_
                                              refine lv_iload hx hb dX5_bestOf_30 (lv_at hl 0 rfl) ?_
                                              refine cR_V ⟨hx, hb, hml, hown, hts⟩ (c_X5_bringsW l E r v f B C w h s1 t 2 2 (by omega) (by omega) (by omega) (by omega) (by omega) h40) (cwV 6 hts gX5_bestOf_X5_brings rfl rfl rfl (by decide +kernel) ⟨Nat.le_of_ble_eq_true rfl, Nat.le_of_ble_eq_true rfl⟩) hK hP 5 0 rfl rfl rfl hl.1 rfl (Nat.le_of_ble_eq_true rfl) dX5_bestOf_32 ⟨Nat.le_of_ble_eq_true rfl, Nat.le_of_ble_eq_true rfl⟩ ?_
                                              refine lv_istore (lv' := [(8, .int (m_brW v f B w h s1 t 2 2)), (7, .int (nI 2)), (5, .int x_21), (6, .int (nI 2)), (0, .ref (r 0)), (1, .int (nI w)), (2, .int (nI h)), (3, .int (nI s1)), (4, .int t)]) hx hb dX5_bestOf_35 hl (by decide) rfl (fun ls hl => ?_)
                                              refine w_join (fun x : Int32 => x = m_mx (m_brW v f B w h s1 t 2 2) x_21) (fun x => F0 m 51 ls (.int x :: [])) ?_ (fun J51 => ?_)
                                              · intro x_23 ex_23
                                                refine lv_istore (lv' := [(5, .int x_23), (8, .int (m_brW v f B w h s1 t 2 2)), (7, .int (nI 2)), (6, .int (nI 2)), (0, .ref (r 0)), (1, .int (nI w)), (2, .int (nI h)), (3, .int (nI s1)), (4, .int t)]) hx hb dX5_bestOf_51 hl (by decide) rfl (fun ls hl => ?_)
                                                refine lv_iinc (v := (nI 3)) (lv' := [(7, .int (nI 3)), (5, .int x_23), (8, .int (m_brW v f B w h s1 t 2 2)), (6, .int (nI 2)), (0, .ref (r 0)), (1, .int (nI w)), (2, .int (nI h)), (3, .int (nI s1)), (4, .int t)]) hx hb dX5_bestOf_53 hl (k := 2) rfl (nI_1 _) (by decide) rfl (fun ls hl => ?_)
                                                refine lv_goto (tgt := 16) hx hb dX5_bestOf_56 (by decide) ?_
                                                refine lv_iload hx hb dX5_bestOf_16 (lv_at hl 0 rfl) ?_
                                                refine lv_iconst (v := 3) hx hb dX5_bestOf_18 (by decide) ?_
                                                refine n_icmp_ge (tgt := 59) (a := 3) (b := 3) hx hb dX5_bestOf_19 (by decide) (by omega) (by omega) (fun c_24 => ?_) (fun c_24 => ?_)
                                                · skip
                                                  refine lv_iinc (v := (nI 3)) (lv' := [(6, .int (nI 3)), (7, .int (nI 3)), (5, .int x_23), (8, .int (m_brW v f B w h s1 t 2 2)), (0, .ref (r 0)), (1, .int (nI w)), (2, .int (nI h)), (3, .int (nI s1)), (4, .int t)]) hx hb dX5_bestOf_59 hl (k := 3) rfl (nI_1 _) (by decide) rfl (fun ls hl => ?_)
                                                  refine lv_goto (tgt := 7) hx hb dX5_bestOf_62 (by decide) ?_
                                                  refine lv_iload hx hb dX5_bestOf_7 (lv_at hl 0 rfl) ?_
                                                  refine lv_iconst (v := 3) hx hb dX5_bestOf_9 (by decide) ?_
                                                  refine n_icmp_ge (tgt := 65) (a := 3) (b := 3) hx hb dX5_bestOf_10 (by decide) (by omega) (by omega) (fun c_25 => ?_) (fun c_25 => ?_)
                                                  · skip
                                                    refine lv_iload hx hb dX5_bestOf_65 (lv_at hl 2 rfl) ?_
                                                    exact r_ret hx hb hr hlocks (by rw [ex_23, ex_21, ex_19, ex_15, ex_13, ex_11, ex_7, ex_5, ex_3]; rfl) dX5_bestOf_67
                                                  · skip
                                                    exact absurd c_25 (by decide)
                                                · skip
                                                  exact absurd c_24 (by decide)
                                              · skip
                                                refine lv_iload hx hb dX5_bestOf_37 (lv_at hl 0 rfl) ?_
                                                refine lv_iload hx hb dX5_bestOf_39 (lv_at hl 2 rfl) ?_
                                                refine lv_icmp_le (tgt := 49) hx hb dX5_bestOf_41 (by decide) (fun c_26 => ?_) (fun c_26 => ?_)
                                                · skip
                                                  refine lv_iload hx hb dX5_bestOf_49 (lv_at hl 2 rfl) ?_
                                                  exact J51 _ (m_mx_le c_26)
                                                · skip
                                                  refine lv_iload hx hb dX5_bestOf_44 (lv_at hl 0 rfl) ?_
                                                  refine lv_goto (tgt := 51) hx hb dX5_bestOf_46 (by decide) ?_
                                                  exact J51 _ (m_mx_gt c_26)
                                          · skip
                                            refine lv_iload hx hb dX5_bestOf_37 (lv_at hl 0 rfl) ?_
                                            refine lv_iload hx hb dX5_bestOf_39 (lv_at hl 2 rfl) ?_
                                            refine lv_icmp_le (tgt := 49) hx hb dX5_bestOf_41 (by decide) (fun c_27 => ?_) (fun c_27 => ?_)
                                            · skip
                                              refine lv_iload hx hb dX5_bestOf_49 (lv_at hl 2 rfl) ?_
                                              exact J51 _ (m_mx_le c_27)
                                            · skip
                                              refine lv_iload hx hb dX5_bestOf_44 (lv_at hl 0 rfl) ?_
                                              refine lv_goto (tgt := 51) hx hb dX5_bestOf_46 (by decide) ?_
                                              exact J51 _ (m_mx_gt c_27)
                                      · skip
                                        refine lv_iload hx hb dX5_bestOf_37 (lv_at hl 0 rfl) ?_
                                        refine lv_iload hx hb dX5_bestOf_39 (lv_at hl 3 rfl) ?_
                                        refine lv_icmp_le (tgt := 49) hx hb dX5_bestOf_41 (by decide) (fun c_28 => ?_) (fun c_28 => ?_)
                                        · skip
                                          refine lv_iload hx hb dX5_bestOf_49 (lv_at hl 3 rfl) ?_
                                          exact J51 _ (m_mx_le c_28)
                                        · skip
                                          refine lv_iload hx hb dX5_bestOf_44 (lv_at hl 0 rfl) ?_
                                          refine lv_goto (tgt := 51) hx hb dX5_bestOf_46 (by decide) ?_
                                          exact J51 _ (m_mx_gt c_28)
                                · skip
                                  exact absurd c_16 (by decide)
                              · skip
                                refine lv_iload hx hb dX5_bestOf_37 (lv_at hl 0 rfl) ?_
                                refine lv_iload hx hb dX5_bestOf_39 (lv_at hl 2 rfl) ?_
                                refine lv_icmp_le (tgt := 49) hx hb dX5_bestOf_41 (by decide) (fun c_29 => ?_) (fun c_29 => ?_)
                                · skip
                                  refine lv_iload hx hb dX5_bestOf_49 (lv_at hl 2 rfl) ?_
                                  exact J51 _ (m_mx_le c_29)
                                · skip
                                  refine lv_iload hx hb dX5_bestOf_44 (lv_at hl 0 rfl) ?_
                                  refine lv_goto (tgt := 51) hx hb dX5_bestOf_46 (by decide) ?_
                                  exact J51 _ (m_mx_gt c_29)
                          · skip
                            refine lv_iload hx hb dX5_bestOf_37 (lv_at hl 0 rfl) ?_
                            refine lv_iload hx hb dX5_bestOf_39 (lv_at hl 2 rfl) ?_
                            refine lv_icmp_le (tgt := 49) hx hb dX5_bestOf_41 (by decide) (fun c_30 => ?_) (fun c_30 => ?_)
                            · skip
                              refine lv_iload hx hb dX5_bestOf_49 (lv_at hl 2 rfl) ?_
                              exact J51 _ (m_mx_le c_30)
                            · skip
                              refine lv_iload hx hb dX5_bestOf_44 (lv_at hl 0 rfl) ?_
                              refine lv_goto (tgt := 51) hx hb dX5_bestOf_46 (by decide) ?_
                              exact J51 _ (m_mx_gt c_30)
                      · skip
                        refine lv_iload hx hb dX5_bestOf_37 (lv_at hl 0 rfl) ?_
                        refine lv_iload hx hb dX5_bestOf_39 (lv_at hl 3 rfl) ?_
                        refine lv_icmp_le (tgt := 49) hx hb dX5_bestOf_41 (by decide) (fun c_31 => ?_) (fun c_31 => ?_)
                        · skip
                          refine lv_iload hx hb dX5_bestOf_49 (lv_at hl 3 rfl) ?_
                          exact J51 _ (m_mx_le c_31)
                        · skip
                          refine lv_iload hx hb dX5_bestOf_44 (lv_at hl 0 rfl) ?_
                          refine lv_goto (tgt := 51) hx hb dX5_bestOf_46 (by decide) ?_
                          exact J51 _ (m_mx_gt c_31)
                · skip
                  exact absurd c_8 (by decide)
              · skip
                refine lv_iload hx hb dX5_bestOf_37 (lv_at hl 0 rfl) ?_
                refine lv_iload hx hb dX5_bestOf_39 (lv_at hl 2 rfl) ?_
                refine lv_icmp_le (tgt := 49) hx hb dX5_bestOf_41 (by decide) (fun c_32 => ?_) (fun c_32 => ?_)
                · skip
                  refine lv_iload hx hb dX5_bestOf_49 (lv_at hl 2 rfl) ?_
                  exact J51 _ (m_mx_le c_32)
                · skip
                  refine lv_iload hx hb dX5_bestOf_44 (lv_at hl 0 rfl) ?_
                  refine lv_goto (tgt := 51) hx hb dX5_bestOf_46 (by decide) ?_
                  exact J51 _ (m_mx_gt c_32)
          · skip
            refine lv_iload hx hb dX5_bestOf_37 (lv_at hl 0 rfl) ?_
            refine lv_iload hx hb dX5_bestOf_39 (lv_at hl 2 rfl) ?_
            refine lv_icmp_le (tgt := 49) hx hb dX5_bestOf_41 (by decide) (fun c_33 => ?_) (fun c_33 => ?_)
            · skip
              refine lv_iload hx hb dX5_bestOf_49 (lv_at hl 2 rfl) ?_
              exact J51 _ (m_mx_le c_33)
            · skip
              refine lv_iload hx hb dX5_bestOf_44 (lv_at hl 0 rfl) ?_
              refine lv_goto (tgt := 51) hx hb dX5_bestOf_46 (by decide) ?_
              exact J51 _ (m_mx_gt c_33)
      · skip
        refine lv_iload hx hb dX5_bestOf_37 (lv_at hl 0 rfl) ?_
        refine lv_iload hx hb dX5_bestOf_39 (lv_at hl 3 rfl) ?_
        refine lv_icmp_le (tgt := 49) hx hb dX5_bestOf_41 (by decide) (fun c_34 => ?_) (fun c_34 => ?_)
        · skip
          refine lv_iload hx hb dX5_bestOf_49 (lv_at hl 3 rfl) ?_
          exact J51 _ (m_mx_le c_34)
        · skip
          refine lv_iload hx hb dX5_bestOf_44 (lv_at hl 0 rfl) ?_
          refine lv_goto (tgt := 51) hx hb dX5_bestOf_46 (by decide) ?_
          exact J51 _ (m_mx_gt c_34)
end
section
set_option maxHeartbeats 4000000 in
set_option maxRecDepth 100000 in
theorem c_X5_bestOfA (l : Launch) (E : GG) (r : Nat → Nat) (v : Nat → Int32) (f : Nat → Nat → Int32) (B C : Nat → Int32) (h : Nat) (s1 : Nat) (t : Int32) (hh : h < 24) (hs : s1 < 369) (h40 : (v 2).toInt ≤ 40) : Met l yX5_bestOf wsX5_bestOf (Rm 4 0 0) (pR E [.ref (r 0), .int (-1), .int (nI h), .int (nI s1), .int t] (MW E r v f B C)) (QcRead (m_b9 (m_brA v f C h s1 t))) 0 0 (fun _ => False) := by
  refine ofR (by decide) rfl (Nat.le_of_ble_eq_true rfl) ?_
  intro p e s m below meth c hx hb hr hlocks hml hown hts hK hP ls hl
  have hl : lv_has ls 9 [(0, .ref (r 0)), (1, .int (-1)), (2, .int (nI h)), (3, .int (nI s1)), (4, .int t)] := hl
  refine lv_ldc hx hb hown (hts _ (List.mem_of_getElem? (i := 1) rfl)) dX5_bestOf_0 ?_
  refine lv_istore (lv' := [(5, .int (-1000000000)), (0, .ref (r 0)), (1, .int (-1)), (2, .int (nI h)), (3, .int (nI s1)), (4, .int t)]) hx hb dX5_bestOf_2 hl (by decide) rfl (fun ls hl => ?_)
  refine lv_iconst (v := 0) hx hb dX5_bestOf_4 (by decide) ?_
  refine lv_istore (lv' := [(6, .int 0), (5, .int (-1000000000)), (0, .ref (r 0)), (1, .int (-1)), (2, .int (nI h)), (3, .int (nI s1)), (4, .int t)]) hx hb dX5_bestOf_5 hl (by decide) rfl (fun ls hl => ?_)
  refine lv_iload hx hb dX5_bestOf_7 (lv_at hl 0 rfl) ?_
  refine lv_iconst (v := 3) hx hb dX5_bestOf_9 (by decide) ?_
  refine n_icmp_ge (tgt := 65) (a := 0) (b := 3) hx hb dX5_bestOf_10 (by decide) (by omega) (by omega) (fun c_1 => ?_) (fun c_1 => ?_)
  · skip
    exact absurd c_1 (by decide)
  · skip
    refine lv_iconst (v := 0) hx hb dX5_bestOf_13 (by decide) ?_
    refine lv_istore (lv' := [(7, .int 0), (6, .int 0), (5, .int (-1000000000)), (0, .ref (r 0)), (1, .int (-1)), (2, .int (nI h)), (3, .int (nI s1)), (4, .int t)]) hx hb dX5_bestOf_14 hl (by decide) rfl (fun ls hl => ?_)
    refine lv_iload hx hb dX5_bestOf_16 (lv_at hl 0 rfl) ?_
    refine lv_iconst (v := 3) hx hb dX5_bestOf_18 (by decide) ?_
    refine n_icmp_ge (tgt := 59) (a := 0) (b := 3) hx hb dX5_bestOf_19 (by decide) (by omega) (by omega) (fun c_2 => ?_) (fun c_2 => ?_)
    · skip
      exact absurd c_2 (by decide)
    · skip
      refine lv_aload_n hx hb dX5_bestOf_22 rfl (lv_at hl 3 rfl) ?_
      refine lv_iload_n hx hb dX5_bestOf_23 rfl (lv_at hl 4 rfl) ?_
      refine lv_iload_n hx hb dX5_bestOf_24 rfl (lv_at hl 5 rfl) ?_
      refine lv_iload_n hx hb dX5_bestOf_25 rfl (lv_at hl 6 rfl) ?_
      refine lv_iload hx hb dX5_bestOf_26 (lv_at hl 7 rfl) ?_
      refine lv_iload hx hb dX5_bestOf_28 (lv_at hl 1 rfl) ?_
      refine lv_iload hx hb dX5_bestOf_30 (lv_at hl 0 rfl) ?_
      refine cR_V ⟨hx, hb, hml, hown, hts⟩ (c_X5_bringsA l E r v f B C h s1 t 0 0 (by omega) (by omega) (by omega) (by omega) h40) (cwV 6 hts gX5_bestOf_X5_brings rfl rfl rfl (by decide +kernel) ⟨Nat.le_of_ble_eq_true rfl, Nat.le_of_ble_eq_true rfl⟩) hK hP 5 0 rfl rfl rfl hl.1 rfl (Nat.le_of_ble_eq_true rfl) dX5_bestOf_32 ⟨Nat.le_of_ble_eq_true rfl, Nat.le_of_ble_eq_true rfl⟩ ?_
      refine lv_istore (lv' := [(8, .int (m_brA v f C h s1 t 0 0)), (7, .int 0), (6, .int 0), (5, .int (-1000000000)), (0, .ref (r 0)), (1, .int (-1)), (2, .int (nI h)), (3, .int (nI s1)), (4, .int t)]) hx hb dX5_bestOf_35 hl (by decide) rfl (fun ls hl => ?_)
      refine w_join (fun x : Int32 => x = m_mx (m_brA v f C h s1 t 0 0) (-1000000000)) (fun x => F0 m 51 ls (.int x :: [])) ?_ (fun J51 => ?_)
      · intro x_3 ex_3
        refine lv_istore (lv' := [(5, .int x_3), (8, .int (m_brA v f C h s1 t 0 0)), (7, .int 0), (6, .int 0), (0, .ref (r 0)), (1, .int (-1)), (2, .int (nI h)), (3, .int (nI s1)), (4, .int t)]) hx hb dX5_bestOf_51 hl (by decide) rfl (fun ls hl => ?_)
        refine lv_iinc (v := (nI 1)) (lv' := [(7, .int (nI 1)), (5, .int x_3), (8, .int (m_brA v f C h s1 t 0 0)), (6, .int 0), (0, .ref (r 0)), (1, .int (-1)), (2, .int (nI h)), (3, .int (nI s1)), (4, .int t)]) hx hb dX5_bestOf_53 hl (k := 2) rfl (nI_1 _) (by decide) rfl (fun ls hl => ?_)
        refine lv_goto (tgt := 16) hx hb dX5_bestOf_56 (by decide) ?_
        refine lv_iload hx hb dX5_bestOf_16 (lv_at hl 0 rfl) ?_
        refine lv_iconst (v := 3) hx hb dX5_bestOf_18 (by decide) ?_
        refine n_icmp_ge (tgt := 59) (a := 1) (b := 3) hx hb dX5_bestOf_19 (by decide) (by omega) (by omega) (fun c_4 => ?_) (fun c_4 => ?_)
        · skip
          exact absurd c_4 (by decide)
        · skip
          refine lv_aload_n hx hb dX5_bestOf_22 rfl (lv_at hl 4 rfl) ?_
          refine lv_iload_n hx hb dX5_bestOf_23 rfl (lv_at hl 5 rfl) ?_
          refine lv_iload_n hx hb dX5_bestOf_24 rfl (lv_at hl 6 rfl) ?_
          refine lv_iload_n hx hb dX5_bestOf_25 rfl (lv_at hl 7 rfl) ?_
          refine lv_iload hx hb dX5_bestOf_26 (lv_at hl 8 rfl) ?_
          refine lv_iload hx hb dX5_bestOf_28 (lv_at hl 3 rfl) ?_
          refine lv_iload hx hb dX5_bestOf_30 (lv_at hl 0 rfl) ?_
          refine cR_V ⟨hx, hb, hml, hown, hts⟩ (c_X5_bringsA l E r v f B C h s1 t 0 1 (by omega) (by omega) (by omega) (by omega) h40) (cwV 6 hts gX5_bestOf_X5_brings rfl rfl rfl (by decide +kernel) ⟨Nat.le_of_ble_eq_true rfl, Nat.le_of_ble_eq_true rfl⟩) hK hP 5 0 rfl rfl rfl hl.1 rfl (Nat.le_of_ble_eq_true rfl) dX5_bestOf_32 ⟨Nat.le_of_ble_eq_true rfl, Nat.le_of_ble_eq_true rfl⟩ ?_
          refine lv_istore (lv' := [(8, .int (m_brA v f C h s1 t 0 1)), (7, .int (nI 1)), (5, .int x_3), (6, .int 0), (0, .ref (r 0)), (1, .int (-1)), (2, .int (nI h)), (3, .int (nI s1)), (4, .int t)]) hx hb dX5_bestOf_35 hl (by decide) rfl (fun ls hl => ?_)
          refine w_join (fun x : Int32 => x = m_mx (m_brA v f C h s1 t 0 1) x_3) (fun x => F0 m 51 ls (.int x :: [])) ?_ (fun J51 => ?_)
          · intro x_5 ex_5
            refine lv_istore (lv' := [(5, .int x_5), (8, .int (m_brA v f C h s1 t 0 1)), (7, .int (nI 1)), (6, .int 0), (0, .ref (r 0)), (1, .int (-1)), (2, .int (nI h)), (3, .int (nI s1)), (4, .int t)]) hx hb dX5_bestOf_51 hl (by decide) rfl (fun ls hl => ?_)
            refine lv_iinc (v := (nI 2)) (lv' := [(7, .int (nI 2)), (5, .int x_5), (8, .int (m_brA v f C h s1 t 0 1)), (6, .int 0), (0, .ref (r 0)), (1, .int (-1)), (2, .int (nI h)), (3, .int (nI s1)), (4, .int t)]) hx hb dX5_bestOf_53 hl (k := 2) rfl (nI_1 _) (by decide) rfl (fun ls hl => ?_)
            refine lv_goto (tgt := 16) hx hb dX5_bestOf_56 (by decide) ?_
            refine lv_iload hx hb dX5_bestOf_16 (lv_at hl 0 rfl) ?_
            refine lv_iconst (v := 3) hx hb dX5_bestOf_18 (by decide) ?_
            refine n_icmp_ge (tgt := 59) (a := 2) (b := 3) hx hb dX5_bestOf_19 (by decide) (by omega) (by omega) (fun c_6 => ?_) (fun c_6 => ?_)
            · skip
              exact absurd c_6 (by decide)
            · skip
              refine lv_aload_n hx hb dX5_bestOf_22 rfl (lv_at hl 4 rfl) ?_
              refine lv_iload_n hx hb dX5_bestOf_23 rfl (lv_at hl 5 rfl) ?_
              refine lv_iload_n hx hb dX5_bestOf_24 rfl (lv_at hl 6 rfl) ?_
              refine lv_iload_n hx hb dX5_bestOf_25 rfl (lv_at hl 7 rfl) ?_
              refine lv_iload hx hb dX5_bestOf_26 (lv_at hl 8 rfl) ?_
              refine lv_iload hx hb dX5_bestOf_28 (lv_at hl 3 rfl) ?_
              refine lv_iload hx hb dX5_bestOf_30 (lv_at hl 0 rfl) ?_
              refine cR_V ⟨hx, hb, hml, hown, hts⟩ (c_X5_bringsA l E r v f B C h s1 t 0 2 (by omega) (by omega) (by omega) (by omega) h40) (cwV 6 hts gX5_bestOf_X5_brings rfl rfl rfl (by decide +kernel) ⟨Nat.le_of_ble_eq_true rfl, Nat.le_of_ble_eq_true rfl⟩) hK hP 5 0 rfl rfl rfl hl.1 rfl (Nat.le_of_ble_eq_true rfl) dX5_bestOf_32 ⟨Nat.le_of_ble_eq_true rfl, Nat.le_of_ble_eq_true rfl⟩ ?_
              refine lv_istore (lv' := [(8, .int (m_brA v f C h s1 t 0 2)), (7, .int (nI 2)), (5, .int x_5), (6, .int 0), (0, .ref (r 0)), (1, .int (-1)), (2, .int (nI h)), (3, .int (nI s1)), (4, .int t)]) hx hb dX5_bestOf_35 hl (by decide) rfl (fun ls hl => ?_)
              refine w_join (fun x : Int32 => x = m_mx (m_brA v f C h s1 t 0 2) x_5) (fun x => F0 m 51 ls (.int x :: [])) ?_ (fun J51 => ?_)
              · intro x_7 ex_7
                refine lv_istore (lv' := [(5, .int x_7), (8, .int (m_brA v f C h s1 t 0 2)), (7, .int (nI 2)), (6, .int 0), (0, .ref (r 0)), (1, .int (-1)), (2, .int (nI h)), (3, .int (nI s1)), (4, .int t)]) hx hb dX5_bestOf_51 hl (by decide) rfl (fun ls hl => ?_)
                refine lv_iinc (v := (nI 3)) (lv' := [(7, .int (nI 3)), (5, .int x_7), (8, .int (m_brA v f C h s1 t 0 2)), (6, .int 0), (0, .ref (r 0)), (1, .int (-1)), (2, .int (nI h)), (3, .int (nI s1)), (4, .int t)]) hx hb dX5_bestOf_53 hl (k := 2) rfl (nI_1 _) (by decide) rfl (fun ls hl => ?_)
                refine lv_goto (tgt := 16) hx hb dX5_bestOf_56 (by decide) ?_
                refine lv_iload hx hb dX5_bestOf_16 (lv_at hl 0 rfl) ?_
                refine lv_iconst (v := 3) hx hb dX5_bestOf_18 (by decide) ?_
                refine n_icmp_ge (tgt := 59) (a := 3) (b := 3) hx hb dX5_bestOf_19 (by decide) (by omega) (by omega) (fun c_8 => ?_) (fun c_8 => ?_)
                · skip
                  refine lv_iinc (v := (nI 1)) (lv' := [(6, .int (nI 1)), (7, .int (nI 3)), (5, .int x_7), (8, .int (m_brA v f C h s1 t 0 2)), (0, .ref (r 0)), (1, .int (-1)), (2, .int (nI h)), (3, .int (nI s1)), (4, .int t)]) hx hb dX5_bestOf_59 hl (k := 3) rfl (nI_1 _) (by decide) rfl (fun ls hl => ?_)
                  refine lv_goto (tgt := 7) hx hb dX5_bestOf_62 (by decide) ?_
                  refine lv_iload hx hb dX5_bestOf_7 (lv_at hl 0 rfl) ?_
                  refine lv_iconst (v := 3) hx hb dX5_bestOf_9 (by decide) ?_
                  refine n_icmp_ge (tgt := 65) (a := 1) (b := 3) hx hb dX5_bestOf_10 (by decide) (by omega) (by omega) (fun c_9 => ?_) (fun c_9 => ?_)
                  · skip
                    exact absurd c_9 (by decide)
                  · skip
                    refine lv_iconst (v := 0) hx hb dX5_bestOf_13 (by decide) ?_
                    refine lv_istore (lv' := [(7, .int 0), (6, .int (nI 1)), (5, .int x_7), (8, .int (m_brA v f C h s1 t 0 2)), (0, .ref (r 0)), (1, .int (-1)), (2, .int (nI h)), (3, .int (nI s1)), (4, .int t)]) hx hb dX5_bestOf_14 hl (by decide) rfl (fun ls hl => ?_)
                    refine lv_iload hx hb dX5_bestOf_16 (lv_at hl 0 rfl) ?_
                    refine lv_iconst (v := 3) hx hb dX5_bestOf_18 (by decide) ?_
                    refine n_icmp_ge (tgt := 59) (a := 0) (b := 3) hx hb dX5_bestOf_19 (by decide) (by omega) (by omega) (fun c_10 => ?_) (fun c_10 => ?_)
                    · skip
                      exact absurd c_10 (by decide)
                    · skip
                      refine lv_aload_n hx hb dX5_bestOf_22 rfl (lv_at hl 4 rfl) ?_
                      refine lv_iload_n hx hb dX5_bestOf_23 rfl (lv_at hl 5 rfl) ?_
                      refine lv_iload_n hx hb dX5_bestOf_24 rfl (lv_at hl 6 rfl) ?_
                      refine lv_iload_n hx hb dX5_bestOf_25 rfl (lv_at hl 7 rfl) ?_
                      refine lv_iload hx hb dX5_bestOf_26 (lv_at hl 8 rfl) ?_
                      refine lv_iload hx hb dX5_bestOf_28 (lv_at hl 1 rfl) ?_
                      refine lv_iload hx hb dX5_bestOf_30 (lv_at hl 0 rfl) ?_
                      refine cR_V ⟨hx, hb, hml, hown, hts⟩ (c_X5_bringsA l E r v f B C h s1 t 1 0 (by omega) (by omega) (by omega) (by omega) h40) (cwV 6 hts gX5_bestOf_X5_brings rfl rfl rfl (by decide +kernel) ⟨Nat.le_of_ble_eq_true rfl, Nat.le_of_ble_eq_true rfl⟩) hK hP 5 0 rfl rfl rfl hl.1 rfl (Nat.le_of_ble_eq_true rfl) dX5_bestOf_32 ⟨Nat.le_of_ble_eq_true rfl, Nat.le_of_ble_eq_true rfl⟩ ?_
                      refine lv_istore (lv' := [(8, .int (m_brA v f C h s1 t 1 0)), (7, .int 0), (6, .int (nI 1)), (5, .int x_7), (0, .ref (r 0)), (1, .int (-1)), (2, .int (nI h)), (3, .int (nI s1)), (4, .int t)]) hx hb dX5_bestOf_35 hl (by decide) rfl (fun ls hl => ?_)
                      refine w_join (fun x : Int32 => x = m_mx (m_brA v f C h s1 t 1 0) x_7) (fun x => F0 m 51 ls (.int x :: [])) ?_ (fun J51 => ?_)
                      · intro x_11 ex_11
                        refine lv_istore (lv' := [(5, .int x_11), (8, .int (m_brA v f C h s1 t 1 0)), (7, .int 0), (6, .int (nI 1)), (0, .ref (r 0)), (1, .int (-1)), (2, .int (nI h)), (3, .int (nI s1)), (4, .int t)]) hx hb dX5_bestOf_51 hl (by decide) rfl (fun ls hl => ?_)
                        refine lv_iinc (v := (nI 1)) (lv' := [(7, .int (nI 1)), (5, .int x_11), (8, .int (m_brA v f C h s1 t 1 0)), (6, .int (nI 1)), (0, .ref (r 0)), (1, .int (-1)), (2, .int (nI h)), (3, .int (nI s1)), (4, .int t)]) hx hb dX5_bestOf_53 hl (k := 2) rfl (nI_1 _) (by decide) rfl (fun ls hl => ?_)
                        refine lv_goto (tgt := 16) hx hb dX5_bestOf_56 (by decide) ?_
                        refine lv_iload hx hb dX5_bestOf_16 (lv_at hl 0 rfl) ?_
                        refine lv_iconst (v := 3) hx hb dX5_bestOf_18 (by decide) ?_
                        refine n_icmp_ge (tgt := 59) (a := 1) (b := 3) hx hb dX5_bestOf_19 (by decide) (by omega) (by omega) (fun c_12 => ?_) (fun c_12 => ?_)
                        · skip
                          exact absurd c_12 (by decide)
                        · skip
                          refine lv_aload_n hx hb dX5_bestOf_22 rfl (lv_at hl 4 rfl) ?_
                          refine lv_iload_n hx hb dX5_bestOf_23 rfl (lv_at hl 5 rfl) ?_
                          refine lv_iload_n hx hb dX5_bestOf_24 rfl (lv_at hl 6 rfl) ?_
                          refine lv_iload_n hx hb dX5_bestOf_25 rfl (lv_at hl 7 rfl) ?_
                          refine lv_iload hx hb dX5_bestOf_26 (lv_at hl 8 rfl) ?_
                          refine lv_iload hx hb dX5_bestOf_28 (lv_at hl 3 rfl) ?_
                          refine lv_iload hx hb dX5_bestOf_30 (lv_at hl 0 rfl) ?_
                          refine cR_V ⟨hx, hb, hml, hown, hts⟩ (c_X5_bringsA l E r v f B C h s1 t 1 1 (by omega) (by omega) (by omega) (by omega) h40) (cwV 6 hts gX5_bestOf_X5_brings rfl rfl rfl (by decide +kernel) ⟨Nat.le_of_ble_eq_true rfl, Nat.le_of_ble_eq_true rfl⟩) hK hP 5 0 rfl rfl rfl hl.1 rfl (Nat.le_of_ble_eq_true rfl) dX5_bestOf_32 ⟨Nat.le_of_ble_eq_true rfl, Nat.le_of_ble_eq_true rfl⟩ ?_
                          refine lv_istore (lv' := [(8, .int (m_brA v f C h s1 t 1 1)), (7, .int (nI 1)), (5, .int x_11), (6, .int (nI 1)), (0, .ref (r 0)), (1, .int (-1)), (2, .int (nI h)), (3, .int (nI s1)), (4, .int t)]) hx hb dX5_bestOf_35 hl (by decide) rfl (fun ls hl => ?_)
                          refine w_join (fun x : Int32 => x = m_mx (m_brA v f C h s1 t 1 1) x_11) (fun x => F0 m 51 ls (.int x :: [])) ?_ (fun J51 => ?_)
                          · intro x_13 ex_13
                            refine lv_istore (lv' := [(5, .int x_13), (8, .int (m_brA v f C h s1 t 1 1)), (7, .int (nI 1)), (6, .int (nI 1)), (0, .ref (r 0)), (1, .int (-1)), (2, .int (nI h)), (3, .int (nI s1)), (4, .int t)]) hx hb dX5_bestOf_51 hl (by decide) rfl (fun ls hl => ?_)
                            refine lv_iinc (v := (nI 2)) (lv' := [(7, .int (nI 2)), (5, .int x_13), (8, .int (m_brA v f C h s1 t 1 1)), (6, .int (nI 1)), (0, .ref (r 0)), (1, .int (-1)), (2, .int (nI h)), (3, .int (nI s1)), (4, .int t)]) hx hb dX5_bestOf_53 hl (k := 2) rfl (nI_1 _) (by decide) rfl (fun ls hl => ?_)
                            refine lv_goto (tgt := 16) hx hb dX5_bestOf_56 (by decide) ?_
                            refine lv_iload hx hb dX5_bestOf_16 (lv_at hl 0 rfl) ?_
                            refine lv_iconst (v := 3) hx hb dX5_bestOf_18 (by decide) ?_
                            refine n_icmp_ge (tgt := 59) (a := 2) (b := 3) hx hb dX5_bestOf_19 (by decide) (by omega) (by omega) (fun c_14 => ?_) (fun c_14 => ?_)
                            · skip
                              exact absurd c_14 (by decide)
                            · skip
                              refine lv_aload_n hx hb dX5_bestOf_22 rfl (lv_at hl 4 rfl) ?_
                              refine lv_iload_n hx hb dX5_bestOf_23 rfl (lv_at hl 5 rfl) ?_
                              refine lv_iload_n hx hb dX5_bestOf_24 rfl (lv_at hl 6 rfl) ?_
                              refine lv_iload_n hx hb dX5_bestOf_25 rfl (lv_at hl 7 rfl) ?_
                              refine lv_iload hx hb dX5_bestOf_26 (lv_at hl 8 rfl) ?_
                              refine lv_iload hx hb dX5_bestOf_28 (lv_at hl 3 rfl) ?_
                              refine lv_iload hx hb dX5_bestOf_30 (lv_at hl 0 rfl) ?_
                              refine cR_V ⟨hx, hb, hml, hown, hts⟩ (c_X5_bringsA l E r v f B C h s1 t 1 2 (by omega) (by omega) (by omega) (by omega) h40) (cwV 6 hts gX5_bestOf_X5_brings rfl rfl rfl (by decide +kernel) ⟨Nat.le_of_ble_eq_true rfl, Nat.le_of_ble_eq_true rfl⟩) hK hP 5 0 rfl rfl rfl hl.1 rfl (Nat.le_of_ble_eq_true rfl) dX5_bestOf_32 ⟨Nat.le_of_ble_eq_true rfl, Nat.le_of_ble_eq_true rfl⟩ ?_
                              refine lv_istore (lv' := [(8, .int (m_brA v f C h s1 t 1 2)), (7, .int (nI 2)), (5, .int x_13), (6, .int (nI 1)), (0, .ref (r 0)), (1, .int (-1)), (2, .int (nI h)), (3, .int (nI s1)), (4, .int t)]) hx hb dX5_bestOf_35 hl (by decide) rfl (fun ls hl => ?_)
                              refine w_join (fun x : Int32 => x = m_mx (m_brA v f C h s1 t 1 2) x_13) (fun x => F0 m 51 ls (.int x :: [])) ?_ (fun J51 => ?_)
                              · intro x_15 ex_15
                                refine lv_istore (lv' := [(5, .int x_15), (8, .int (m_brA v f C h s1 t 1 2)), (7, .int (nI 2)), (6, .int (nI 1)), (0, .ref (r 0)), (1, .int (-1)), (2, .int (nI h)), (3, .int (nI s1)), (4, .int t)]) hx hb dX5_bestOf_51 hl (by decide) rfl (fun ls hl => ?_)
                                refine lv_iinc (v := (nI 3)) (lv' := [(7, .int (nI 3)), (5, .int x_15), (8, .int (m_brA v f C h s1 t 1 2)), (6, .int (nI 1)), (0, .ref (r 0)), (1, .int (-1)), (2, .int (nI h)), (3, .int (nI s1)), (4, .int t)]) hx hb dX5_bestOf_53 hl (k := 2) rfl (nI_1 _) (by decide) rfl (fun ls hl => ?_)
                                refine lv_goto (tgt := 16) hx hb dX5_bestOf_56 (by decide) ?_
                                refine lv_iload hx hb dX5_bestOf_16 (lv_at hl 0 rfl) ?_
                                refine lv_iconst (v := 3) hx hb dX5_bestOf_18 (by decide) ?_
                                refine n_icmp_ge (tgt := 59) (a := 3) (b := 3) hx hb dX5_bestOf_19 (by decide) (by omega) (by omega) (fun c_16 => ?_) (fun c_16 => ?_)
                                · skip
                                  refine lv_iinc (v := (nI 2)) (lv' := [(6, .int (nI 2)), (7, .int (nI 3)), (5, .int x_15), (8, .int (m_brA v f C h s1 t 1 2)), (0, .ref (r 0)), (1, .int (-1)), (2, .int (nI h)), (3, .int (nI s1)), (4, .int t)]) hx hb dX5_bestOf_59 hl (k := 3) rfl (nI_1 _) (by decide) rfl (fun ls hl => ?_)
                                  refine lv_goto (tgt := 7) hx hb dX5_bestOf_62 (by decide) ?_
                                  refine lv_iload hx hb dX5_bestOf_7 (lv_at hl 0 rfl) ?_
                                  refine lv_iconst (v := 3) hx hb dX5_bestOf_9 (by decide) ?_
                                  refine n_icmp_ge (tgt := 65) (a := 2) (b := 3) hx hb dX5_bestOf_10 (by decide) (by omega) (by omega) (fun c_17 => ?_) (fun c_17 => ?_)
                                  · skip
                                    exact absurd c_17 (by decide)
                                  · skip
                                    refine lv_iconst (v := 0) hx hb dX5_bestOf_13 (by decide) ?_
                                    refine lv_istore (lv' := [(7, .int 0), (6, .int (nI 2)), (5, .int x_15), (8, .int (m_brA v f C h s1 t 1 2)), (0, .ref (r 0)), (1, .int (-1)), (2, .int (nI h)), (3, .int (nI s1)), (4, .int t)]) hx hb dX5_bestOf_14 hl (by decide) rfl (fun ls hl => ?_)
                                    refine lv_iload hx hb dX5_bestOf_16 (lv_at hl 0 rfl) ?_
                                    refine lv_iconst (v := 3) hx hb dX5_bestOf_18 (by decide) ?_
                                    refine n_icmp_ge (tgt := 59) (a := 0) (b := 3) hx hb dX5_bestOf_19 (by decide) (by omega) (by omega) (fun c_18 => ?_) (fun c_18 => ?_)
                                    · skip
                                      exact absurd c_18 (by decide)
                                    · skip
                                      refine lv_aload_n hx hb dX5_bestOf_22 rfl (lv_at hl 4 rfl) ?_
                                      refine lv_iload_n hx hb dX5_bestOf_23 rfl (lv_at hl 5 rfl) ?_
                                      refine lv_iload_n hx hb dX5_bestOf_24 rfl (lv_at hl 6 rfl) ?_
                                      refine lv_iload_n hx hb dX5_bestOf_25 rfl (lv_at hl 7 rfl) ?_
                                      refine lv_iload hx hb dX5_bestOf_26 (lv_at hl 8 rfl) ?_
                                      refine lv_iload hx hb dX5_bestOf_28 (lv_at hl 1 rfl) ?_
                                      refine lv_iload hx hb dX5_bestOf_30 (lv_at hl 0 rfl) ?_
                                      refine cR_V ⟨hx, hb, hml, hown, hts⟩ (c_X5_bringsA l E r v f B C h s1 t 2 0 (by omega) (by omega) (by omega) (by omega) h40) (cwV 6 hts gX5_bestOf_X5_brings rfl rfl rfl (by decide +kernel) ⟨Nat.le_of_ble_eq_true rfl, Nat.le_of_ble_eq_true rfl⟩) hK hP 5 0 rfl rfl rfl hl.1 rfl (Nat.le_of_ble_eq_true rfl) dX5_bestOf_32 ⟨Nat.le_of_ble_eq_true rfl, Nat.le_of_ble_eq_true rfl⟩ ?_
                                      refine lv_istore (lv' := [(8, .int (m_brA v f C h s1 t 2 0)), (7, .int 0), (6, .int (nI 2)), (5, .int x_15), (0, .ref (r 0)), (1, .int (-1)), (2, .int (nI h)), (3, .int (nI s1)), (4, .int t)]) hx hb dX5_bestOf_35 hl (by decide) rfl (fun ls hl => ?_)
                                      refine w_join (fun x : Int32 => x = m_mx (m_brA v f C h s1 t 2 0) x_15) (fun x => F0 m 51 ls (.int x :: [])) ?_ (fun J51 => ?_)
                                      · intro x_19 ex_19
                                        refine lv_istore (lv' := [(5, .int x_19), (8, .int (m_brA v f C h s1 t 2 0)), (7, .int 0), (6, .int (nI 2)), (0, .ref (r 0)), (1, .int (-1)), (2, .int (nI h)), (3, .int (nI s1)), (4, .int t)]) hx hb dX5_bestOf_51 hl (by decide) rfl (fun ls hl => ?_)
                                        refine lv_iinc (v := (nI 1)) (lv' := [(7, .int (nI 1)), (5, .int x_19), (8, .int (m_brA v f C h s1 t 2 0)), (6, .int (nI 2)), (0, .ref (r 0)), (1, .int (-1)), (2, .int (nI h)), (3, .int (nI s1)), (4, .int t)]) hx hb dX5_bestOf_53 hl (k := 2) rfl (nI_1 _) (by decide) rfl (fun ls hl => ?_)
                                        refine lv_goto (tgt := 16) hx hb dX5_bestOf_56 (by decide) ?_
                                        refine lv_iload hx hb dX5_bestOf_16 (lv_at hl 0 rfl) ?_
                                        refine lv_iconst (v := 3) hx hb dX5_bestOf_18 (by decide) ?_
                                        refine n_icmp_ge (tgt := 59) (a := 1) (b := 3) hx hb dX5_bestOf_19 (by decide) (by omega) (by omega) (fun c_20 => ?_) (fun c_20 => ?_)
                                        · skip
                                          exact absurd c_20 (by decide)
                                        · skip
                                          refine lv_aload_n hx hb dX5_bestOf_22 rfl (lv_at hl 4 rfl) ?_
                                          refine lv_iload_n hx hb dX5_bestOf_23 rfl (lv_at hl 5 rfl) ?_
                                          refine lv_iload_n hx hb dX5_bestOf_24 rfl (lv_at hl 6 rfl) ?_
                                          refine lv_iload_n hx hb dX5_bestOf_25 rfl (lv_at hl 7 rfl) ?_
                                          refine lv_iload hx hb dX5_bestOf_26 (lv_at hl 8 rfl) ?_
                                          refine lv_iload hx hb dX5_bestOf_28 (lv_at hl 3 rfl) ?_
                                          refine lv_iload hx hb dX5_bestOf_30 (lv_at hl 0 rfl) ?_
                                          refine cR_V ⟨hx, hb, hml, hown, hts⟩ (c_X5_bringsA l E r v f B C h s1 t 2 1 (by omega) (by omega) (by omega) (by omega) h40) (cwV 6 hts gX5_bestOf_X5_brings rfl rfl rfl (by decide +kernel) ⟨Nat.le_of_ble_eq_true rfl, Nat.le_of_ble_eq_true rfl⟩) hK hP 5 0 rfl rfl rfl hl.1 rfl (Nat.le_of_ble_eq_true rfl) dX5_bestOf_32 ⟨Nat.le_of_ble_eq_true rfl, Nat.le_of_ble_eq_true rfl⟩ ?_
                                          refine lv_istore (lv' := [(8, .int (m_brA v f C h s1 t 2 1)), (7, .int (nI 1)), (5, .int x_19), (6, .int (nI 2)), (0, .ref (r 0)), (1, .int (-1)), (2, .int (nI h)), (3, .int (nI s1)), (4, .int t)]) hx hb dX5_bestOf_35 hl (by decide) rfl (fun ls hl => ?_)
                                          refine w_join (fun x : Int32 => x = m_mx (m_brA v f C h s1 t 2 1) x_19) (fun x => F0 m 51 ls (.int x :: [])) ?_ (fun J51 => ?_)
                                          · intro x_21 ex_21
                                            refine lv_istore (lv' := [(5, .int x_21), (8, .int (m_brA v f C h s1 t 2 1)), (7, .int (nI 1)), (6, .int (nI 2)), (0, .ref (r 0)), (1, .int (-1)), (2, .int (nI h)), (3, .int (nI s1)), (4, .int t)]) hx hb dX5_bestOf_51 hl (by decide) rfl (fun ls hl => ?_)
                                            refine lv_iinc (v := (nI 2)) (lv' := [(7, .int (nI 2)), (5, .int x_21), (8, .int (m_brA v f C h s1 t 2 1)), (6, .int (nI 2)), (0, .ref (r 0)), (1, .int (-1)), (2, .int (nI h)), (3, .int (nI s1)), (4, .int t)]) hx hb dX5_bestOf_53 hl (k := 2) rfl (nI_1 _) (by decide) rfl (fun ls hl => ?_)
                                            refine lv_goto (tgt := 16) hx hb dX5_bestOf_56 (by decide) ?_
                                            refine lv_iload hx hb dX5_bestOf_16 (lv_at hl 0 rfl) ?_
                                            refine lv_iconst (v := 3) hx hb dX5_bestOf_18 (by decide) ?_
                                            refine n_icmp_ge (tgt := 59) (a := 2) (b := 3) hx hb dX5_bestOf_19 (by decide) (by omega) (by omega) (fun c_22 => ?_) (fun c_22 => ?_)
                                            · skip
                                              exact absurd c_22 (by decide)
                                            · skip
                                              refine lv_aload_n hx hb dX5_bestOf_22 rfl (lv_at hl 4 rfl) ?_
                                              refine lv_iload_n hx hb dX5_bestOf_23 rfl (lv_at hl 5 rfl) ?_
                                              refine lv_iload_n hx hb dX5_bestOf_24 rfl (lv_at hl 6 rfl) ?_
                                              refine lv_iload_n hx hb dX5_bestOf_25 rfl (lv_at hl 7 rfl) ?_
                                              refine lv_iload hx hb dX5_bestOf_26 (lv_at hl 8 rfl) ?_
                                              refine lv_iload hx hb dX5_bestOf_28 (lv_at hl 3 rfl) ?_
                                              refine lv_iload hx hb dX5_bestOf_30 (lv_at hl 0 rfl) ?_
                                              refine cR_V ⟨hx, hb, hml, hown, hts⟩ (c_X5_bringsA l E r v f B C h s1 t 2 2 (by omega) (by omega) (by omega) (by omega) h40) (cwV 6 hts gX5_bestOf_X5_brings rfl rfl rfl (by decide +kernel) ⟨Nat.le_of_ble_eq_true rfl, Nat.le_of_ble_eq_true rfl⟩) hK hP 5 0 rfl rfl rfl hl.1 rfl (Nat.le_of_ble_eq_true rfl) dX5_bestOf_32 ⟨Nat.le_of_ble_eq_true rfl, Nat.le_of_ble_eq_true rfl⟩ ?_
                                              refine lv_istore (lv' := [(8, .int (m_brA v f C h s1 t 2 2)), (7, .int (nI 2)), (5, .int x_21), (6, .int (nI 2)), (0, .ref (r 0)), (1, .int (-1)), (2, .int (nI h)), (3, .int (nI s1)), (4, .int t)]) hx hb dX5_bestOf_35 hl (by decide) rfl (fun ls hl => ?_)
                                              refine w_join (fun x : Int32 => x = m_mx (m_brA v f C h s1 t 2 2) x_21) (fun x => F0 m 51 ls (.int x :: [])) ?_ (fun J51 => ?_)
                                              · intro x_23 ex_23
                                                refine lv_istore (lv' := [(5, .int x_23), (8, .int (m_brA v f C h s1 t 2 2)), (7, .int (nI 2)), (6, .int (nI 2)), (0, .ref (r 0)), (1, .int (-1)), (2, .int (nI h)), (3, .int (nI s1)), (4, .int t)]) hx hb dX5_bestOf_51 hl (by decide) rfl (fun ls hl => ?_)
                                                refine lv_iinc (v := (nI 3)) (lv' := [(7, .int (nI 3)), (5, .int x_23), (8, .int (m_brA v f C h s1 t 2 2)), (6, .int (nI 2)), (0, .ref (r 0)), (1, .int (-1)), (2, .int (nI h)), (3, .int (nI s1)), (4, .int t)]) hx hb dX5_bestOf_53 hl (k := 2) rfl (nI_1 _) (by decide) rfl (fun ls hl => ?_)
                                                refine lv_goto (tgt := 16) hx hb dX5_bestOf_56 (by decide) ?_
                                                refine lv_iload hx hb dX5_bestOf_16 (lv_at hl 0 rfl) ?_
                                                refine lv_iconst (v := 3) hx hb dX5_bestOf_18 (by decide) ?_
                                                refine n_icmp_ge (tgt := 59) (a := 3) (b := 3) hx hb dX5_bestOf_19 (by decide) (by omega) (by omega) (fun c_24 => ?_) (fun c_24 => ?_)
                                                · skip
                                                  refine lv_iinc (v := (nI 3)) (lv' := [(6, .int (nI 3)), (7, .int (nI 3)), (5, .int x_23), (8, .int (m_brA v f C h s1 t 2 2)), (0, .ref (r 0)), (1, .int (-1)), (2, .int (nI h)), (3, .int (nI s1)), (4, .int t)]) hx hb dX5_bestOf_59 hl (k := 3) rfl (nI_1 _) (by decide) rfl (fun ls hl => ?_)
                                                  refine lv_goto (tgt := 7) hx hb dX5_bestOf_62 (by decide) ?_
                                                  refine lv_iload hx hb dX5_bestOf_7 (lv_at hl 0 rfl) ?_
                                                  refine lv_iconst (v := 3) hx hb dX5_bestOf_9 (by decide) ?_
                                                  refine n_icmp_ge (tgt := 65) (a := 3) (b := 3) hx hb dX5_bestOf_10 (by decide) (by omega) (by omega) (fun c_25 => ?_) (fun c_25 => ?_)
                                                  · skip
                                                    refine lv_iload hx hb dX5_bestOf_65 (lv_at hl 2 rfl) ?_
                                                    exact r_ret hx hb hr hlocks (by rw [ex_23, ex_21, ex_19, ex_15, ex_13, ex_11, ex_7, ex_5, ex_3]; rfl) dX5_bestOf_67
                                                  · skip
                                                    exact absurd c_25 (by decide)
                                                · skip
                                                  exact absurd c_24 (by decide)
                                              · skip
                                                refine lv_iload hx hb dX5_bestOf_37 (lv_at hl 0 rfl) ?_
                                                refine lv_iload hx hb dX5_bestOf_39 (lv_at hl 2 rfl) ?_
                                                refine lv_icmp_le (tgt := 49) hx hb dX5_bestOf_41 (by decide) (fun c_26 => ?_) (fun c_26 => ?_)
                                                · skip
                                                  refine lv_iload hx hb dX5_bestOf_49 (lv_at hl 2 rfl) ?_
                                                  exact J51 _ (m_mx_le c_26)
                                                · skip
                                                  refine lv_iload hx hb dX5_bestOf_44 (lv_at hl 0 rfl) ?_
                                                  refine lv_goto (tgt := 51) hx hb dX5_bestOf_46 (by decide) ?_
                                                  exact J51 _ (m_mx_gt c_26)
                                          · skip
                                            refine lv_iload hx hb dX5_bestOf_37 (lv_at hl 0 rfl) ?_
                                            refine lv_iload hx hb dX5_bestOf_39 (lv_at hl 2 rfl) ?_
                                            refine lv_icmp_le (tgt := 49) hx hb dX5_bestOf_41 (by decide) (fun c_27 => ?_) (fun c_27 => ?_)
                                            · skip
                                              refine lv_iload hx hb dX5_bestOf_49 (lv_at hl 2 rfl) ?_
                                              exact J51 _ (m_mx_le c_27)
                                            · skip
                                              refine lv_iload hx hb dX5_bestOf_44 (lv_at hl 0 rfl) ?_
                                              refine lv_goto (tgt := 51) hx hb dX5_bestOf_46 (by decide) ?_
                                              exact J51 _ (m_mx_gt c_27)
                                      · skip
                                        refine lv_iload hx hb dX5_bestOf_37 (lv_at hl 0 rfl) ?_
                                        refine lv_iload hx hb dX5_bestOf_39 (lv_at hl 3 rfl) ?_
                                        refine lv_icmp_le (tgt := 49) hx hb dX5_bestOf_41 (by decide) (fun c_28 => ?_) (fun c_28 => ?_)
                                        · skip
                                          refine lv_iload hx hb dX5_bestOf_49 (lv_at hl 3 rfl) ?_
                                          exact J51 _ (m_mx_le c_28)
                                        · skip
                                          refine lv_iload hx hb dX5_bestOf_44 (lv_at hl 0 rfl) ?_
                                          refine lv_goto (tgt := 51) hx hb dX5_bestOf_46 (by decide) ?_
                                          exact J51 _ (m_mx_gt c_28)
                                · skip
                                  exact absurd c_16 (by decide)
                              · skip
                                refine lv_iload hx hb dX5_bestOf_37 (lv_at hl 0 rfl) ?_
                                refine lv_iload hx hb dX5_bestOf_39 (lv_at hl 2 rfl) ?_
                                refine lv_icmp_le (tgt := 49) hx hb dX5_bestOf_41 (by decide) (fun c_29 => ?_) (fun c_29 => ?_)
                                · skip
                                  refine lv_iload hx hb dX5_bestOf_49 (lv_at hl 2 rfl) ?_
                                  exact J51 _ (m_mx_le c_29)
                                · skip
                                  refine lv_iload hx hb dX5_bestOf_44 (lv_at hl 0 rfl) ?_
                                  refine lv_goto (tgt := 51) hx hb dX5_bestOf_46 (by decide) ?_
                                  exact J51 _ (m_mx_gt c_29)
                          · skip
                            refine lv_iload hx hb dX5_bestOf_37 (lv_at hl 0 rfl) ?_
                            refine lv_iload hx hb dX5_bestOf_39 (lv_at hl 2 rfl) ?_
                            refine lv_icmp_le (tgt := 49) hx hb dX5_bestOf_41 (by decide) (fun c_30 => ?_) (fun c_30 => ?_)
                            · skip
                              refine lv_iload hx hb dX5_bestOf_49 (lv_at hl 2 rfl) ?_
                              exact J51 _ (m_mx_le c_30)
                            · skip
                              refine lv_iload hx hb dX5_bestOf_44 (lv_at hl 0 rfl) ?_
                              refine lv_goto (tgt := 51) hx hb dX5_bestOf_46 (by decide) ?_
                              exact J51 _ (m_mx_gt c_30)
                      · skip
                        refine lv_iload hx hb dX5_bestOf_37 (lv_at hl 0 rfl) ?_
                        refine lv_iload hx hb dX5_bestOf_39 (lv_at hl 3 rfl) ?_
                        refine lv_icmp_le (tgt := 49) hx hb dX5_bestOf_41 (by decide) (fun c_31 => ?_) (fun c_31 => ?_)
                        · skip
                          refine lv_iload hx hb dX5_bestOf_49 (lv_at hl 3 rfl) ?_
                          exact J51 _ (m_mx_le c_31)
                        · skip
                          refine lv_iload hx hb dX5_bestOf_44 (lv_at hl 0 rfl) ?_
                          refine lv_goto (tgt := 51) hx hb dX5_bestOf_46 (by decide) ?_
                          exact J51 _ (m_mx_gt c_31)
                · skip
                  exact absurd c_8 (by decide)
              · skip
                refine lv_iload hx hb dX5_bestOf_37 (lv_at hl 0 rfl) ?_
                refine lv_iload hx hb dX5_bestOf_39 (lv_at hl 2 rfl) ?_
                refine lv_icmp_le (tgt := 49) hx hb dX5_bestOf_41 (by decide) (fun c_32 => ?_) (fun c_32 => ?_)
                · skip
                  refine lv_iload hx hb dX5_bestOf_49 (lv_at hl 2 rfl) ?_
                  exact J51 _ (m_mx_le c_32)
                · skip
                  refine lv_iload hx hb dX5_bestOf_44 (lv_at hl 0 rfl) ?_
                  refine lv_goto (tgt := 51) hx hb dX5_bestOf_46 (by decide) ?_
                  exact J51 _ (m_mx_gt c_32)
          · skip
            refine lv_iload hx hb dX5_bestOf_37 (lv_at hl 0 rfl) ?_
            refine lv_iload hx hb dX5_bestOf_39 (lv_at hl 2 rfl) ?_
            refine lv_icmp_le (tgt := 49) hx hb dX5_bestOf_41 (by decide) (fun c_33 => ?_) (fun c_33 => ?_)
            · skip
              refine lv_iload hx hb dX5_bestOf_49 (lv_at hl 2 rfl) ?_
              exact J51 _ (m_mx_le c_33)
            · skip
              refine lv_iload hx hb dX5_bestOf_44 (lv_at hl 0 rfl) ?_
              refine lv_goto (tgt := 51) hx hb dX5_bestOf_46 (by decide) ?_
              exact J51 _ (m_mx_gt c_33)
      · skip
        refine lv_iload hx hb dX5_bestOf_37 (lv_at hl 0 rfl) ?_
        refine lv_iload hx hb dX5_bestOf_39 (lv_at hl 3 rfl) ?_
        refine lv_icmp_le (tgt := 49) hx hb dX5_bestOf_41 (by decide) (fun c_34 => ?_) (fun c_34 => ?_)
        · skip
          refine lv_iload hx hb dX5_bestOf_49 (lv_at hl 3 rfl) ?_
          exact J51 _ (m_mx_le c_34)
        · skip
          refine lv_iload hx hb dX5_bestOf_44 (lv_at hl 0 rfl) ?_
          refine lv_goto (tgt := 51) hx hb dX5_bestOf_46 (by decide) ?_
          exact J51 _ (m_mx_gt c_34)
end
section
set_option maxHeartbeats 4000000 in
set_option maxRecDepth 100000 in
theorem c_X5_stateNow (l : Launch) (E : GG) (r : Nat → Nat) (v : Nat → Int32) (f : Nat → Nat → Int32) (B C : Nat → Int32)  (up m0 m1 : Nat) (hup : v 4 = nI up) (hm0 : f 21 0 = nI m0) (hm1 : f 21 1 = nI m1) : Met l yX5_stateNow wsX5_stateNow (Rm 0 0 0) (pR E [.ref (r 0)] (MW E r v f B C)) (QcRead (nI (9 * up + 3 * m0 + m1))) 0 0 (fun _ => False) := by
  refine ofR (by decide) rfl (Nat.le_of_ble_eq_true rfl) ?_
  intro p e s m below meth c hx hb hr hlocks hml hown hts hK hP ls hl
  have hl : lv_has ls 1 [(0, .ref (r 0))] := hl
  refine lv_bipush (v := 9) hx hb dX5_stateNow_0 (by decide) ?_
  refine lv_aload_n hx hb dX5_stateNow_2 rfl (lv_at hl 0 rfl) ?_
  refine va_get (D := E.1) (ci := 5) (v := .int (v 4)) (C := RX5) (T := TX5) (N := 26) hx hb hts (fun _ h => (List.mem_cons_of_mem _ (List.mem_append_right _ h))) hown hK.1 hP 0 rfl rfl 4 (by decide) (hts _ (List.mem_of_getElem? (i := 1) rfl)) (fun _ h9 => h9) rfl dX5_stateNow_3 ?_
  refine w_top (show (v 4) = nI up from hup) ?_
  refine lv_imul hx hb dX5_stateNow_6 ?_
  refine w_top (show (9 * (nI up)) = (nI (9 * up)) from pk_mul _ _) ?_
  refine lv_iconst (v := 3) hx hb dX5_stateNow_7 (by decide) ?_
  refine lv_aload_n hx hb dX5_stateNow_8 rfl (lv_at hl 0 rfl) ?_
  refine va_get (D := E.1) (ci := 5) (v := .ref (r 21)) (C := RX5) (T := TX5) (N := 26) hx hb hts (fun _ h => (List.mem_cons_of_mem _ (List.mem_append_right _ h))) hown hK.1 hP 0 rfl rfl 21 (by decide) (hts _ (List.mem_of_getElem? (i := 2) rfl)) (fun _ h9 => h9) rfl dX5_stateNow_9 ?_
  refine lv_iconst (v := 0) hx hb dX5_stateNow_12 (by decide) ?_
  refine n_iald (f := f 21) hx hb hK.1 hP 12 0 rfl rfl (i := 0) (by omega) (by decide) dX5_stateNow_13 ?_
  refine w_top (show (f 21 0) = nI m0 from hm0) ?_
  refine lv_imul hx hb dX5_stateNow_14 ?_
  refine w_top (show (3 * (nI m0)) = (nI (3 * m0)) from pk_mul _ _) ?_
  refine lv_iadd hx hb dX5_stateNow_15 ?_
  refine w_top (show ((nI (9 * up)) + (nI (3 * m0))) = (nI ((9 * up) + (3 * m0))) from nI_add _ _) ?_
  refine lv_aload_n hx hb dX5_stateNow_16 rfl (lv_at hl 0 rfl) ?_
  refine va_get (D := E.1) (ci := 5) (v := .ref (r 21)) (C := RX5) (T := TX5) (N := 26) hx hb hts (fun _ h => (List.mem_cons_of_mem _ (List.mem_append_right _ h))) hown hK.1 hP 0 rfl rfl 21 (by decide) (hts _ (List.mem_of_getElem? (i := 2) rfl)) (fun _ h9 => h9) rfl dX5_stateNow_17 ?_
  refine lv_iconst (v := 1) hx hb dX5_stateNow_20 (by decide) ?_
  refine n_iald (f := f 21) hx hb hK.1 hP 12 0 rfl rfl (i := 1) (by omega) (by decide) dX5_stateNow_21 ?_
  refine w_top (show (f 21 1) = nI m1 from hm1) ?_
  refine lv_iadd hx hb dX5_stateNow_22 ?_
  refine w_top (show ((nI ((9 * up) + (3 * m0))) + (nI m1)) = (nI (((9 * up) + (3 * m0)) + m1)) from nI_add _ _) ?_
  exact r_ret hx hb hr hlocks (by first | rfl | (simp []; done) | (simp_all; done)) dX5_stateNow_23
end
section
set_option maxHeartbeats 4000000 in
set_option maxRecDepth 100000 in
theorem c_X5_isLegalNow (l : Launch) (E : GG) (r : Nat → Nat) (v : Nat → Int32) (f : Nat → Nat → Int32) (B C : Nat → Int32) (a : Int32) (b : Int32) (nw : Nat) (hnw : v 1 = nI nw) (hn24 : nw < 24) : Met l yX5_isLegalNow wsX5_isLegalNow (Rm 3 0 0) (pR E [.ref (r 0), .int a, .int b] (MW E r v f B C)) (QcRead (bI (m_legal v f nw (v 4) (v 5) (f 21 0) (f 21 1) a b))) 0 0 (fun _ => False) := by
  refine ofR (by decide) rfl (Nat.le_of_ble_eq_true rfl) ?_
  intro p e s m below meth c hx hb hr hlocks hml hown hts hK hP ls hl
  have hl : lv_has ls 3 [(0, .ref (r 0)), (1, .int a), (2, .int b)] := hl
  refine lv_aload_n hx hb dX5_isLegalNow_0 rfl (lv_at hl 0 rfl) ?_
  refine lv_aload_n hx hb dX5_isLegalNow_1 rfl (lv_at hl 0 rfl) ?_
  refine va_get (D := E.1) (ci := 5) (v := .int (v 1)) (C := RX5) (T := TX5) (N := 26) hx hb hts (fun _ h => (List.mem_cons_of_mem _ (List.mem_append_right _ h))) hown hK.1 hP 0 rfl rfl 1 (by decide) (hts _ (List.mem_of_getElem? (i := 1) rfl)) (fun _ h9 => h9) rfl dX5_isLegalNow_2 ?_
  refine w_top (show (v 1) = nI nw from hnw) ?_
  refine lv_aload_n hx hb dX5_isLegalNow_5 rfl (lv_at hl 0 rfl) ?_
  refine va_get (D := E.1) (ci := 5) (v := .int (v 4)) (C := RX5) (T := TX5) (N := 26) hx hb hts (fun _ h => (List.mem_cons_of_mem _ (List.mem_append_right _ h))) hown hK.1 hP 0 rfl rfl 4 (by decide) (hts _ (List.mem_of_getElem? (i := 2) rfl)) (fun _ h9 => h9) rfl dX5_isLegalNow_6 ?_
  refine lv_aload_n hx hb dX5_isLegalNow_9 rfl (lv_at hl 0 rfl) ?_
  refine va_get (D := E.1) (ci := 5) (v := .int (v 5)) (C := RX5) (T := TX5) (N := 26) hx hb hts (fun _ h => (List.mem_cons_of_mem _ (List.mem_append_right _ h))) hown hK.1 hP 0 rfl rfl 5 (by decide) (hts _ (List.mem_of_getElem? (i := 3) rfl)) (fun _ h9 => h9) rfl dX5_isLegalNow_10 ?_
  refine lv_aload_n hx hb dX5_isLegalNow_13 rfl (lv_at hl 0 rfl) ?_
  refine va_get (D := E.1) (ci := 5) (v := .ref (r 21)) (C := RX5) (T := TX5) (N := 26) hx hb hts (fun _ h => (List.mem_cons_of_mem _ (List.mem_append_right _ h))) hown hK.1 hP 0 rfl rfl 21 (by decide) (hts _ (List.mem_of_getElem? (i := 4) rfl)) (fun _ h9 => h9) rfl dX5_isLegalNow_14 ?_
  refine lv_iconst (v := 0) hx hb dX5_isLegalNow_17 (by decide) ?_
  refine n_iald (f := f 21) hx hb hK.1 hP 12 0 rfl rfl (i := 0) (by omega) (by decide) dX5_isLegalNow_18 ?_
  refine lv_aload_n hx hb dX5_isLegalNow_19 rfl (lv_at hl 0 rfl) ?_
  refine va_get (D := E.1) (ci := 5) (v := .ref (r 21)) (C := RX5) (T := TX5) (N := 26) hx hb hts (fun _ h => (List.mem_cons_of_mem _ (List.mem_append_right _ h))) hown hK.1 hP 0 rfl rfl 21 (by decide) (hts _ (List.mem_of_getElem? (i := 4) rfl)) (fun _ h9 => h9) rfl dX5_isLegalNow_20 ?_
  refine lv_iconst (v := 1) hx hb dX5_isLegalNow_23 (by decide) ?_
  refine n_iald (f := f 21) hx hb hK.1 hP 12 0 rfl rfl (i := 1) (by omega) (by decide) dX5_isLegalNow_24 ?_
  refine lv_iload_n hx hb dX5_isLegalNow_25 rfl (lv_at hl 1 rfl) ?_
  refine lv_iload_n hx hb dX5_isLegalNow_26 rfl (lv_at hl 2 rfl) ?_
  refine cR_V ⟨hx, hb, hml, hown, hts⟩ (c_X5_isLegal l E r v f B C nw (v 4) (v 5) (f 21 0) (f 21 1) a b (by omega)) (cwV 7 hts gX5_isLegalNow_X5_isLegal rfl rfl rfl (by decide +kernel) ⟨Nat.le_of_ble_eq_true rfl, Nat.le_of_ble_eq_true rfl⟩) hK hP 5 0 rfl rfl rfl hl.1 rfl (Nat.le_of_ble_eq_true rfl) dX5_isLegalNow_27 ⟨Nat.le_of_ble_eq_true rfl, Nat.le_of_ble_eq_true rfl⟩ ?_
  exact z_ret hx hb hr hlocks bI_n (by first | rfl | (simp []; done) | (simp_all; done)) dX5_isLegalNow_30
end
section
/-- a state of the reference: its numbers, its rows, the two large rows -/
abbrev MS : Type := (Nat → Int32) × (Nat → Nat → Int32) × (Nat → Int32) × (Nat → Int32)
abbrev MWu (E : GG) (r : Nat → Nat) (u : MS) : va_W := MW E r u.1 u.2.1 u.2.2.1 u.2.2.2
theorem inN {x hi : Int32} (h : m_in x 0 hi) (n : Nat) (hn : hi.toInt ≤ n) (h31 : n < 2 ^ 31) : x = nI x.toNatClampNeg ∧ x.toNatClampNeg ≤ n := by
  have h2 := Int32_ge h.2
  obtain ⟨j, hj, e⟩ := nI_of (x := x) h.1
  have h3 : (j : Int) ≤ n := by
    have := nI_toInt hj
    rw [e, this] at h2
    omega
  rw [e, nI_clamp hj]
  exact ⟨rfl, by omega⟩
/-- what a call answers, and the numbers and rows behind it -/
abbrev AN : Type := Int32 × (Nat → Int32) × (Nat → Nat → Int32)
noncomputable abbrev cI {α : Type} (q : Prop) (a b : α) : α := @ite α q (Classical.propDecidable q) a b
theorem cI_t {α : Type} {q : Prop} (h : q) (a b : α) : cI q a b = a := if_pos h
theorem cI_f {α : Type} {q : Prop} (h : ¬ q) (a b : α) : cI q a b = b := if_neg h
noncomputable def s_lakes (v : Nat → Int32) (f : Nat → Nat → Int32) (a : Int32) (b : Int32) (u1 : Int32) (l1 : Int32) : AN := cI (¬ 0 < v 1 ∧ m_in a 1 40 ∧ m_in b 1 40 ∧ m_in u1 0 a ∧ m_in l1 0 b) (1, upd (upd (upd (upd (upd v 0 0) 2 a) 3 b) 4 u1) 5 l1, f) (0, upd v 0 0, f)
set_option maxHeartbeats 4000000 in
set_option maxRecDepth 100000 in
theorem c_X5_lakes (l : Launch) (E : GG) (r : Nat → Nat) (v : Nat → Int32) (f : Nat → Nat → Int32) (B C : Nat → Int32) (sz : Nat) (a : Int32) (b : Int32) (u1 : Int32) (l1 : Int32)  : Met l yX5_lakes wsX5_lakes (Rm 1 0 0) (pM E [.ref (r 0), .int a, .int b, .int u1, .int l1] (MW E r v f B C) sz) (va_Qi (fun (x : Int32) (u : MS) => x = (s_lakes v f a b u1 l1).1 ∧ u = ((s_lakes v f a b u1 l1).2.1, (s_lakes v f a b u1 l1).2.2, B, C)) (bM E (va_A (MW E r v f B C) sz) (MWu E r)) (va_A (MW E r v f B C) sz)) 0 0 (va_A (MW E r v f B C) sz) := by
  refine ofM (by decide) rfl (Nat.le_of_ble_eq_true rfl) ?_
  intro p e s m below meth c A hx hb hr hlocks hml hown hin hts hK hP hD hS hA hsz hAe ls hl
  rw [← hAe]
  have hl : lv_has ls 5 [(0, .ref (r 0)), (1, .int a), (2, .int b), (3, .int u1), (4, .int l1)] := hl
  refine lv_aload_n hx hb dX5_lakes_0 rfl (lv_at hl 0 rfl) ?_
  refine lv_iconst (v := 0) hx hb dX5_lakes_1 (by decide) ?_
  refine va_put (D := E.1) (ci := 5) (v := .int 0) (ty := .int) (C := RX5) (T := TX5) (N := 26) hx hb hts (fun _ h => (List.mem_cons_of_mem _ (List.mem_append_right _ h))) tyX5 tyX5_ok nmX5 hown hK.1 hP hD hS 0 rfl rfl 0 (by decide) (hts _ (List.mem_of_getElem? (i := 1) rfl)) (fun _ h9 => h9) rfl (by decide +kernel) rfl rfl (Nat.le_of_ble_eq_true rfl) dX5_lakes_2 (fun H locs hP hD hS => ?_)
  have hP : va_P E.1 vwCl (MW E r (upd v 0 0) f B C) H := hP
  have hD : va_D A (MW E r (upd v 0 0) f B C) := hD
  refine lv_aload_n hx hb dX5_lakes_5 rfl (lv_at hl 0 rfl) ?_
  refine va_get (D := E.1) (ci := 5) (v := .int (v 1)) (C := RX5) (T := TX5) (N := 26) hx hb hts (fun _ h => (List.mem_cons_of_mem _ (List.mem_append_right _ h))) hown hK.1 hP 0 rfl rfl 1 (by decide) (hts _ (List.mem_of_getElem? (i := 2) rfl)) (fun _ h9 => h9) rfl dX5_lakes_6 ?_
  refine lv_if_gt (tgt := 51) hx hb dX5_lakes_9 (by decide) (fun c_1 => ?_) (fun c_1 => ?_)
  · skip
    refine lv_iconst (v := 0) hx hb dX5_lakes_51 (by decide) ?_
    exact qz_ret (((upd v 0 0), f, B, C) : MS) hx hb hr hlocks rfl (by rw [s_lakes, cI_f (by simp_all)]; exact ⟨rfl, rfl⟩) hP hD hS dX5_lakes_52
  · skip
    refine lv_iload_n hx hb dX5_lakes_12 rfl (lv_at hl 1 rfl) ?_
    refine lv_iconst (v := 1) hx hb dX5_lakes_13 (by decide) ?_
    refine lv_bipush (v := 40) hx hb dX5_lakes_14 (by decide) ?_
    refine cR_S ⟨hx, hb, hml, hown, hts⟩ (c_X5_within l E a 1 40) (va_cwS 3 hts gX5_lakes_X5_within rfl rfl rfl (by decide +kernel) ⟨Nat.le_of_ble_eq_true rfl, Nat.le_of_ble_eq_true rfl⟩) hK nilP rfl hl.1 rfl (Nat.le_of_ble_eq_true rfl) dX5_lakes_16 ⟨Nat.le_of_ble_eq_true rfl, Nat.le_of_ble_eq_true rfl⟩ ?_
    refine b_if_eq (q := (m_in a 1 40)) (tgt := 51) hx hb dX5_lakes_19 (by decide) (fun c_2 => ?_) (fun c_2 => ?_)
    · skip
      refine lv_iconst (v := 0) hx hb dX5_lakes_51 (by decide) ?_
      exact qz_ret (((upd v 0 0), f, B, C) : MS) hx hb hr hlocks rfl (by rw [s_lakes, cI_f (by simp_all)]; exact ⟨rfl, rfl⟩) hP hD hS dX5_lakes_52
    · skip
      refine lv_iload_n hx hb dX5_lakes_22 rfl (lv_at hl 2 rfl) ?_
      refine lv_iconst (v := 1) hx hb dX5_lakes_23 (by decide) ?_
      refine lv_bipush (v := 40) hx hb dX5_lakes_24 (by decide) ?_
      refine cR_S ⟨hx, hb, hml, hown, hts⟩ (c_X5_within l E b 1 40) (va_cwS 3 hts gX5_lakes_X5_within rfl rfl rfl (by decide +kernel) ⟨Nat.le_of_ble_eq_true rfl, Nat.le_of_ble_eq_true rfl⟩) hK nilP rfl hl.1 rfl (Nat.le_of_ble_eq_true rfl) dX5_lakes_26 ⟨Nat.le_of_ble_eq_true rfl, Nat.le_of_ble_eq_true rfl⟩ ?_
      refine b_if_eq (q := (m_in b 1 40)) (tgt := 51) hx hb dX5_lakes_29 (by decide) (fun c_3 => ?_) (fun c_3 => ?_)
      · skip
        refine lv_iconst (v := 0) hx hb dX5_lakes_51 (by decide) ?_
        exact qz_ret (((upd v 0 0), f, B, C) : MS) hx hb hr hlocks rfl (by rw [s_lakes, cI_f (by simp_all)]; exact ⟨rfl, rfl⟩) hP hD hS dX5_lakes_52
      · skip
        refine lv_iload_n hx hb dX5_lakes_32 rfl (lv_at hl 3 rfl) ?_
        refine lv_iconst (v := 0) hx hb dX5_lakes_33 (by decide) ?_
        refine lv_iload_n hx hb dX5_lakes_34 rfl (lv_at hl 1 rfl) ?_
        refine cR_S ⟨hx, hb, hml, hown, hts⟩ (c_X5_within l E u1 0 a) (va_cwS 3 hts gX5_lakes_X5_within rfl rfl rfl (by decide +kernel) ⟨Nat.le_of_ble_eq_true rfl, Nat.le_of_ble_eq_true rfl⟩) hK nilP rfl hl.1 rfl (Nat.le_of_ble_eq_true rfl) dX5_lakes_35 ⟨Nat.le_of_ble_eq_true rfl, Nat.le_of_ble_eq_true rfl⟩ ?_
        refine b_if_eq (q := (m_in u1 0 a)) (tgt := 51) hx hb dX5_lakes_38 (by decide) (fun c_4 => ?_) (fun c_4 => ?_)
        · skip
          refine lv_iconst (v := 0) hx hb dX5_lakes_51 (by decide) ?_
          exact qz_ret (((upd v 0 0), f, B, C) : MS) hx hb hr hlocks rfl (by rw [s_lakes, cI_f (by simp_all)]; exact ⟨rfl, rfl⟩) hP hD hS dX5_lakes_52
        · skip
          refine lv_iload hx hb dX5_lakes_41 (lv_at hl 4 rfl) ?_
          refine lv_iconst (v := 0) hx hb dX5_lakes_43 (by decide) ?_
          refine lv_iload_n hx hb dX5_lakes_44 rfl (lv_at hl 2 rfl) ?_
          refine cR_S ⟨hx, hb, hml, hown, hts⟩ (c_X5_within l E l1 0 b) (va_cwS 3 hts gX5_lakes_X5_within rfl rfl rfl (by decide +kernel) ⟨Nat.le_of_ble_eq_true rfl, Nat.le_of_ble_eq_true rfl⟩) hK nilP rfl hl.1 rfl (Nat.le_of_ble_eq_true rfl) dX5_lakes_45 ⟨Nat.le_of_ble_eq_true rfl, Nat.le_of_ble_eq_true rfl⟩ ?_
          refine b_if_ne (q := (m_in l1 0 b)) (tgt := 53) hx hb dX5_lakes_48 (by decide) (fun c_5 => ?_) (fun c_5 => ?_)
          · skip
            refine lv_aload_n hx hb dX5_lakes_53 rfl (lv_at hl 0 rfl) ?_
            refine lv_iload_n hx hb dX5_lakes_54 rfl (lv_at hl 1 rfl) ?_
            refine va_put (D := E.1) (ci := 5) (v := .int a) (ty := .int) (C := RX5) (T := TX5) (N := 26) hx hb hts (fun _ h => (List.mem_cons_of_mem _ (List.mem_append_right _ h))) tyX5 tyX5_ok nmX5 hown hK.1 hP hD hS 0 rfl rfl 2 (by decide) (hts _ (List.mem_of_getElem? (i := 3) rfl)) (fun _ h9 => h9) rfl (by decide +kernel) rfl rfl (Nat.le_of_ble_eq_true rfl) dX5_lakes_55 (fun H locs hP hD hS => ?_)
            have hP : va_P E.1 vwCl (MW E r (upd (upd v 0 0) 2 a) f B C) H := hP
            have hD : va_D A (MW E r (upd (upd v 0 0) 2 a) f B C) := hD
            refine lv_aload_n hx hb dX5_lakes_58 rfl (lv_at hl 0 rfl) ?_
            refine lv_iload_n hx hb dX5_lakes_59 rfl (lv_at hl 2 rfl) ?_
            refine va_put (D := E.1) (ci := 5) (v := .int b) (ty := .int) (C := RX5) (T := TX5) (N := 26) hx hb hts (fun _ h => (List.mem_cons_of_mem _ (List.mem_append_right _ h))) tyX5 tyX5_ok nmX5 hown hK.1 hP hD hS 0 rfl rfl 3 (by decide) (hts _ (List.mem_of_getElem? (i := 4) rfl)) (fun _ h9 => h9) rfl (by decide +kernel) rfl rfl (Nat.le_of_ble_eq_true rfl) dX5_lakes_60 (fun H locs hP hD hS => ?_)
            have hP : va_P E.1 vwCl (MW E r (upd (upd (upd v 0 0) 2 a) 3 b) f B C) H := hP
            have hD : va_D A (MW E r (upd (upd (upd v 0 0) 2 a) 3 b) f B C) := hD
            refine lv_aload_n hx hb dX5_lakes_63 rfl (lv_at hl 0 rfl) ?_
            refine lv_iload_n hx hb dX5_lakes_64 rfl (lv_at hl 3 rfl) ?_
            refine va_put (D := E.1) (ci := 5) (v := .int u1) (ty := .int) (C := RX5) (T := TX5) (N := 26) hx hb hts (fun _ h => (List.mem_cons_of_mem _ (List.mem_append_right _ h))) tyX5 tyX5_ok nmX5 hown hK.1 hP hD hS 0 rfl rfl 4 (by decide) (hts _ (List.mem_of_getElem? (i := 5) rfl)) (fun _ h9 => h9) rfl (by decide +kernel) rfl rfl (Nat.le_of_ble_eq_true rfl) dX5_lakes_65 (fun H locs hP hD hS => ?_)
            have hP : va_P E.1 vwCl (MW E r (upd (upd (upd (upd v 0 0) 2 a) 3 b) 4 u1) f B C) H := hP
            have hD : va_D A (MW E r (upd (upd (upd (upd v 0 0) 2 a) 3 b) 4 u1) f B C) := hD
            refine lv_aload_n hx hb dX5_lakes_68 rfl (lv_at hl 0 rfl) ?_
            refine lv_iload hx hb dX5_lakes_69 (lv_at hl 4 rfl) ?_
            refine va_put (D := E.1) (ci := 5) (v := .int l1) (ty := .int) (C := RX5) (T := TX5) (N := 26) hx hb hts (fun _ h => (List.mem_cons_of_mem _ (List.mem_append_right _ h))) tyX5 tyX5_ok nmX5 hown hK.1 hP hD hS 0 rfl rfl 5 (by decide) (hts _ (List.mem_of_getElem? (i := 6) rfl)) (fun _ h9 => h9) rfl (by decide +kernel) rfl rfl (Nat.le_of_ble_eq_true rfl) dX5_lakes_71 (fun H locs hP hD hS => ?_)
            have hP : va_P E.1 vwCl (MW E r (upd (upd (upd (upd (upd v 0 0) 2 a) 3 b) 4 u1) 5 l1) f B C) H := hP
            have hD : va_D A (MW E r (upd (upd (upd (upd (upd v 0 0) 2 a) 3 b) 4 u1) 5 l1) f B C) := hD
            refine lv_iconst (v := 1) hx hb dX5_lakes_74 (by decide) ?_
            exact qz_ret (((upd (upd (upd (upd (upd v 0 0) 2 a) 3 b) 4 u1) 5 l1), f, B, C) : MS) hx hb hr hlocks rfl (by rw [s_lakes, cI_t (by simp_all)]; exact ⟨rfl, rfl⟩) hP hD hS dX5_lakes_75
          · skip
            refine lv_iconst (v := 0) hx hb dX5_lakes_51 (by decide) ?_
            exact qz_ret (((upd v 0 0), f, B, C) : MS) hx hb hr hlocks rfl (by rw [s_lakes, cI_f (by simp_all)]; exact ⟨rfl, rfl⟩) hP hD hS dX5_lakes_52
noncomputable def s_speeds (v : Nat → Int32) (f : Nat → Nat → Int32) (u1 : Int32) (l1 : Int32) : AN := cI (m_in u1 1 40 ∧ m_in l1 1 40) (1, upd (upd (upd v 0 0) 6 u1) 7 l1, f) (0, upd v 0 0, f)
set_option maxHeartbeats 4000000 in
set_option maxRecDepth 100000 in
theorem c_X5_speeds (l : Launch) (E : GG) (r : Nat → Nat) (v : Nat → Int32) (f : Nat → Nat → Int32) (B C : Nat → Int32) (sz : Nat) (u1 : Int32) (l1 : Int32)  : Met l yX5_speeds wsX5_speeds (Rm 1 0 0) (pM E [.ref (r 0), .int u1, .int l1] (MW E r v f B C) sz) (va_Qi (fun (x : Int32) (u : MS) => x = (s_speeds v f u1 l1).1 ∧ u = ((s_speeds v f u1 l1).2.1, (s_speeds v f u1 l1).2.2, B, C)) (bM E (va_A (MW E r v f B C) sz) (MWu E r)) (va_A (MW E r v f B C) sz)) 0 0 (va_A (MW E r v f B C) sz) := by
  refine ofM (by decide) rfl (Nat.le_of_ble_eq_true rfl) ?_
  intro p e s m below meth c A hx hb hr hlocks hml hown hin hts hK hP hD hS hA hsz hAe ls hl
  rw [← hAe]
  have hl : lv_has ls 3 [(0, .ref (r 0)), (1, .int u1), (2, .int l1)] := hl
  refine lv_aload_n hx hb dX5_speeds_0 rfl (lv_at hl 0 rfl) ?_
  refine lv_iconst (v := 0) hx hb dX5_speeds_1 (by decide) ?_
  refine va_put (D := E.1) (ci := 5) (v := .int 0) (ty := .int) (C := RX5) (T := TX5) (N := 26) hx hb hts (fun _ h => (List.mem_cons_of_mem _ (List.mem_append_right _ h))) tyX5 tyX5_ok nmX5 hown hK.1 hP hD hS 0 rfl rfl 0 (by decide) (hts _ (List.mem_of_getElem? (i := 1) rfl)) (fun _ h9 => h9) rfl (by decide +kernel) rfl rfl (Nat.le_of_ble_eq_true rfl) dX5_speeds_2 (fun H locs hP hD hS => ?_)
  have hP : va_P E.1 vwCl (MW E r (upd v 0 0) f B C) H := hP
  have hD : va_D A (MW E r (upd v 0 0) f B C) := hD
  refine lv_iload_n hx hb dX5_speeds_5 rfl (lv_at hl 1 rfl) ?_
  refine lv_iconst (v := 1) hx hb dX5_speeds_6 (by decide) ?_
  refine lv_bipush (v := 40) hx hb dX5_speeds_7 (by decide) ?_
  refine cR_S ⟨hx, hb, hml, hown, hts⟩ (c_X5_within l E u1 1 40) (va_cwS 3 hts gX5_speeds_X5_within rfl rfl rfl (by decide +kernel) ⟨Nat.le_of_ble_eq_true rfl, Nat.le_of_ble_eq_true rfl⟩) hK nilP rfl hl.1 rfl (Nat.le_of_ble_eq_true rfl) dX5_speeds_9 ⟨Nat.le_of_ble_eq_true rfl, Nat.le_of_ble_eq_true rfl⟩ ?_
  refine b_if_eq (q := (m_in u1 1 40)) (tgt := 25) hx hb dX5_speeds_12 (by decide) (fun c_1 => ?_) (fun c_1 => ?_)
  · skip
    refine lv_iconst (v := 0) hx hb dX5_speeds_25 (by decide) ?_
    exact qz_ret (((upd v 0 0), f, B, C) : MS) hx hb hr hlocks rfl (by rw [s_speeds, cI_f (by simp_all)]; exact ⟨rfl, rfl⟩) hP hD hS dX5_speeds_26
  · skip
    refine lv_iload_n hx hb dX5_speeds_15 rfl (lv_at hl 2 rfl) ?_
    refine lv_iconst (v := 1) hx hb dX5_speeds_16 (by decide) ?_
    refine lv_bipush (v := 40) hx hb dX5_speeds_17 (by decide) ?_
    refine cR_S ⟨hx, hb, hml, hown, hts⟩ (c_X5_within l E l1 1 40) (va_cwS 3 hts gX5_speeds_X5_within rfl rfl rfl (by decide +kernel) ⟨Nat.le_of_ble_eq_true rfl, Nat.le_of_ble_eq_true rfl⟩) hK nilP rfl hl.1 rfl (Nat.le_of_ble_eq_true rfl) dX5_speeds_19 ⟨Nat.le_of_ble_eq_true rfl, Nat.le_of_ble_eq_true rfl⟩ ?_
    refine b_if_ne (q := (m_in l1 1 40)) (tgt := 27) hx hb dX5_speeds_22 (by decide) (fun c_2 => ?_) (fun c_2 => ?_)
    · skip
      refine lv_aload_n hx hb dX5_speeds_27 rfl (lv_at hl 0 rfl) ?_
      refine lv_iload_n hx hb dX5_speeds_28 rfl (lv_at hl 1 rfl) ?_
      refine va_put (D := E.1) (ci := 5) (v := .int u1) (ty := .int) (C := RX5) (T := TX5) (N := 26) hx hb hts (fun _ h => (List.mem_cons_of_mem _ (List.mem_append_right _ h))) tyX5 tyX5_ok nmX5 hown hK.1 hP hD hS 0 rfl rfl 6 (by decide) (hts _ (List.mem_of_getElem? (i := 2) rfl)) (fun _ h9 => h9) rfl (by decide +kernel) rfl rfl (Nat.le_of_ble_eq_true rfl) dX5_speeds_29 (fun H locs hP hD hS => ?_)
      have hP : va_P E.1 vwCl (MW E r (upd (upd v 0 0) 6 u1) f B C) H := hP
      have hD : va_D A (MW E r (upd (upd v 0 0) 6 u1) f B C) := hD
      refine lv_aload_n hx hb dX5_speeds_32 rfl (lv_at hl 0 rfl) ?_
      refine lv_iload_n hx hb dX5_speeds_33 rfl (lv_at hl 2 rfl) ?_
      refine va_put (D := E.1) (ci := 5) (v := .int l1) (ty := .int) (C := RX5) (T := TX5) (N := 26) hx hb hts (fun _ h => (List.mem_cons_of_mem _ (List.mem_append_right _ h))) tyX5 tyX5_ok nmX5 hown hK.1 hP hD hS 0 rfl rfl 7 (by decide) (hts _ (List.mem_of_getElem? (i := 3) rfl)) (fun _ h9 => h9) rfl (by decide +kernel) rfl rfl (Nat.le_of_ble_eq_true rfl) dX5_speeds_34 (fun H locs hP hD hS => ?_)
      have hP : va_P E.1 vwCl (MW E r (upd (upd (upd v 0 0) 6 u1) 7 l1) f B C) H := hP
      have hD : va_D A (MW E r (upd (upd (upd v 0 0) 6 u1) 7 l1) f B C) := hD
      refine lv_iconst (v := 1) hx hb dX5_speeds_37 (by decide) ?_
      exact qz_ret (((upd (upd (upd v 0 0) 6 u1) 7 l1), f, B, C) : MS) hx hb hr hlocks rfl (by rw [s_speeds, cI_t (by simp_all)]; exact ⟨rfl, rfl⟩) hP hD hS dX5_speeds_38
    · skip
      refine lv_iconst (v := 0) hx hb dX5_speeds_25 (by decide) ?_
      exact qz_ret (((upd v 0 0), f, B, C) : MS) hx hb hr hlocks rfl (by rw [s_speeds, cI_f (by simp_all)]; exact ⟨rfl, rfl⟩) hP hD hS dX5_speeds_26
noncomputable def s_reveal (v : Nat → Int32) (f : Nat → Nat → Int32) (h : Int32) : AN := cI (m_in h 0 24) (1, upd (upd v 0 0) 19 h, f) (0, upd v 0 0, f)
set_option maxHeartbeats 4000000 in
set_option maxRecDepth 100000 in
theorem c_X5_reveal (l : Launch) (E : GG) (r : Nat → Nat) (v : Nat → Int32) (f : Nat → Nat → Int32) (B C : Nat → Int32) (sz : Nat) (h : Int32)  : Met l yX5_reveal wsX5_reveal (Rm 1 0 0) (pM E [.ref (r 0), .int h] (MW E r v f B C) sz) (va_Qi (fun (x : Int32) (u : MS) => x = (s_reveal v f h).1 ∧ u = ((s_reveal v f h).2.1, (s_reveal v f h).2.2, B, C)) (bM E (va_A (MW E r v f B C) sz) (MWu E r)) (va_A (MW E r v f B C) sz)) 0 0 (va_A (MW E r v f B C) sz) := by
  refine ofM (by decide) rfl (Nat.le_of_ble_eq_true rfl) ?_
  intro p e s m below meth c A hx hb hr hlocks hml hown hin hts hK hP hD hS hA hsz hAe ls hl
  rw [← hAe]
  have hl : lv_has ls 2 [(0, .ref (r 0)), (1, .int h)] := hl
  refine lv_aload_n hx hb dX5_reveal_0 rfl (lv_at hl 0 rfl) ?_
  refine lv_iconst (v := 0) hx hb dX5_reveal_1 (by decide) ?_
  refine va_put (D := E.1) (ci := 5) (v := .int 0) (ty := .int) (C := RX5) (T := TX5) (N := 26) hx hb hts (fun _ h => (List.mem_cons_of_mem _ (List.mem_append_right _ h))) tyX5 tyX5_ok nmX5 hown hK.1 hP hD hS 0 rfl rfl 0 (by decide) (hts _ (List.mem_of_getElem? (i := 1) rfl)) (fun _ h9 => h9) rfl (by decide +kernel) rfl rfl (Nat.le_of_ble_eq_true rfl) dX5_reveal_2 (fun H locs hP hD hS => ?_)
  have hP : va_P E.1 vwCl (MW E r (upd v 0 0) f B C) H := hP
  have hD : va_D A (MW E r (upd v 0 0) f B C) := hD
  refine lv_iload_n hx hb dX5_reveal_5 rfl (lv_at hl 1 rfl) ?_
  refine lv_iconst (v := 0) hx hb dX5_reveal_6 (by decide) ?_
  refine lv_bipush (v := 24) hx hb dX5_reveal_7 (by decide) ?_
  refine cR_S ⟨hx, hb, hml, hown, hts⟩ (c_X5_within l E h 0 24) (va_cwS 3 hts gX5_reveal_X5_within rfl rfl rfl (by decide +kernel) ⟨Nat.le_of_ble_eq_true rfl, Nat.le_of_ble_eq_true rfl⟩) hK nilP rfl hl.1 rfl (Nat.le_of_ble_eq_true rfl) dX5_reveal_9 ⟨Nat.le_of_ble_eq_true rfl, Nat.le_of_ble_eq_true rfl⟩ ?_
  refine b_if_ne (q := (m_in h 0 24)) (tgt := 17) hx hb dX5_reveal_12 (by decide) (fun c_1 => ?_) (fun c_1 => ?_)
  · skip
    refine lv_aload_n hx hb dX5_reveal_17 rfl (lv_at hl 0 rfl) ?_
    refine lv_iload_n hx hb dX5_reveal_18 rfl (lv_at hl 1 rfl) ?_
    refine va_put (D := E.1) (ci := 5) (v := .int h) (ty := .int) (C := RX5) (T := TX5) (N := 26) hx hb hts (fun _ h => (List.mem_cons_of_mem _ (List.mem_append_right _ h))) tyX5 tyX5_ok nmX5 hown hK.1 hP hD hS 0 rfl rfl 19 (by decide) (hts _ (List.mem_of_getElem? (i := 2) rfl)) (fun _ h9 => h9) rfl (by decide +kernel) rfl rfl (Nat.le_of_ble_eq_true rfl) dX5_reveal_19 (fun H locs hP hD hS => ?_)
    have hP : va_P E.1 vwCl (MW E r (upd (upd v 0 0) 19 h) f B C) H := hP
    have hD : va_D A (MW E r (upd (upd v 0 0) 19 h) f B C) := hD
    refine lv_iconst (v := 1) hx hb dX5_reveal_22 (by decide) ?_
    exact qz_ret (((upd (upd v 0 0) 19 h), f, B, C) : MS) hx hb hr hlocks rfl (by rw [s_reveal, cI_t (by simp_all)]; exact ⟨rfl, rfl⟩) hP hD hS dX5_reveal_23
  · skip
    refine lv_iconst (v := 0) hx hb dX5_reveal_15 (by decide) ?_
    exact qz_ret (((upd v 0 0), f, B, C) : MS) hx hb hr hlocks rfl (by rw [s_reveal, cI_f (by simp_all)]; exact ⟨rfl, rfl⟩) hP hD hS dX5_reveal_16
noncomputable def s_end (v : Nat → Int32) (f : Nat → Nat → Int32) (n1 : Int32) : AN := cI (m_in n1 0 999) (1, upd (upd v 0 0) 20 n1, f) (0, upd v 0 0, f)
end
section
set_option maxHeartbeats 4000000 in
set_option maxRecDepth 100000 in
theorem c_X5_end (l : Launch) (E : GG) (r : Nat → Nat) (v : Nat → Int32) (f : Nat → Nat → Int32) (B C : Nat → Int32) (sz : Nat) (n1 : Int32)  : Met l yX5_end wsX5_end (Rm 1 0 0) (pM E [.ref (r 0), .int n1] (MW E r v f B C) sz) (va_Qi (fun (x : Int32) (u : MS) => x = (s_end v f n1).1 ∧ u = ((s_end v f n1).2.1, (s_end v f n1).2.2, B, C)) (bM E (va_A (MW E r v f B C) sz) (MWu E r)) (va_A (MW E r v f B C) sz)) 0 0 (va_A (MW E r v f B C) sz) := by
  refine ofM (by decide) rfl (Nat.le_of_ble_eq_true rfl) ?_
  intro p e s m below meth c A hx hb hr hlocks hml hown hin hts hK hP hD hS hA hsz hAe ls hl
  rw [← hAe]
  have hl : lv_has ls 2 [(0, .ref (r 0)), (1, .int n1)] := hl
  refine lv_aload_n hx hb dX5_end_0 rfl (lv_at hl 0 rfl) ?_
  refine lv_iconst (v := 0) hx hb dX5_end_1 (by decide) ?_
  refine va_put (D := E.1) (ci := 5) (v := .int 0) (ty := .int) (C := RX5) (T := TX5) (N := 26) hx hb hts (fun _ h => (List.mem_cons_of_mem _ (List.mem_append_right _ h))) tyX5 tyX5_ok nmX5 hown hK.1 hP hD hS 0 rfl rfl 0 (by decide) (hts _ (List.mem_of_getElem? (i := 1) rfl)) (fun _ h9 => h9) rfl (by decide +kernel) rfl rfl (Nat.le_of_ble_eq_true rfl) dX5_end_2 (fun H locs hP hD hS => ?_)
  have hP : va_P E.1 vwCl (MW E r (upd v 0 0) f B C) H := hP
  have hD : va_D A (MW E r (upd v 0 0) f B C) := hD
  refine lv_iload_n hx hb dX5_end_5 rfl (lv_at hl 1 rfl) ?_
  refine lv_iconst (v := 0) hx hb dX5_end_6 (by decide) ?_
  refine lv_sipush (v := 999) hx hb dX5_end_7 (by decide) ?_
  refine cR_S ⟨hx, hb, hml, hown, hts⟩ (c_X5_within l E n1 0 999) (va_cwS 3 hts gX5_end_X5_within rfl rfl rfl (by decide +kernel) ⟨Nat.le_of_ble_eq_true rfl, Nat.le_of_ble_eq_true rfl⟩) hK nilP rfl hl.1 rfl (Nat.le_of_ble_eq_true rfl) dX5_end_10 ⟨Nat.le_of_ble_eq_true rfl, Nat.le_of_ble_eq_true rfl⟩ ?_
  refine b_if_ne (q := (m_in n1 0 999)) (tgt := 18) hx hb dX5_end_13 (by decide) (fun c_1 => ?_) (fun c_1 => ?_)
  · skip
    refine lv_aload_n hx hb dX5_end_18 rfl (lv_at hl 0 rfl) ?_
    refine lv_iload_n hx hb dX5_end_19 rfl (lv_at hl 1 rfl) ?_
    refine va_put (D := E.1) (ci := 5) (v := .int n1) (ty := .int) (C := RX5) (T := TX5) (N := 26) hx hb hts (fun _ h => (List.mem_cons_of_mem _ (List.mem_append_right _ h))) tyX5 tyX5_ok nmX5 hown hK.1 hP hD hS 0 rfl rfl 20 (by decide) (hts _ (List.mem_of_getElem? (i := 2) rfl)) (fun _ h9 => h9) rfl (by decide +kernel) rfl rfl (Nat.le_of_ble_eq_true rfl) dX5_end_20 (fun H locs hP hD hS => ?_)
    have hP : va_P E.1 vwCl (MW E r (upd (upd v 0 0) 20 n1) f B C) H := hP
    have hD : va_D A (MW E r (upd (upd v 0 0) 20 n1) f B C) := hD
    refine lv_iconst (v := 1) hx hb dX5_end_23 (by decide) ?_
    exact qz_ret (((upd (upd v 0 0) 20 n1), f, B, C) : MS) hx hb hr hlocks rfl (by rw [s_end, cI_t (by simp_all)]; exact ⟨rfl, rfl⟩) hP hD hS dX5_end_24
  · skip
    refine lv_iconst (v := 0) hx hb dX5_end_16 (by decide) ?_
    exact qz_ret (((upd v 0 0), f, B, C) : MS) hx hb hr hlocks rfl (by rw [s_end, cI_f (by simp_all)]; exact ⟨rfl, rfl⟩) hP hD hS dX5_end_17
noncomputable def s_flows (v : Nat → Int32) (f : Nat → Nat → Int32) (h : Int32) (i1 : Int32) (o1 : Int32) : AN := cI (m_in h 0 23 ∧ m_in i1 0 9 ∧ m_in o1 0 9) (1, upd v 0 0, va_up (va_up f 8 (upd (f 8) h.toNatClampNeg i1)) 9 (upd (f 9) h.toNatClampNeg o1)) (0, upd v 0 0, f)
set_option maxHeartbeats 4000000 in
set_option maxRecDepth 100000 in
theorem c_X5_flows (l : Launch) (E : GG) (r : Nat → Nat) (v : Nat → Int32) (f : Nat → Nat → Int32) (B C : Nat → Int32) (sz : Nat) (h : Int32) (i1 : Int32) (o1 : Int32)  : Met l yX5_flows wsX5_flows (Rm 2 0 0) (pM E [.ref (r 0), .int h, .int i1, .int o1] (MW E r v f B C) sz) (va_Qi (fun (x : Int32) (u : MS) => x = (s_flows v f h i1 o1).1 ∧ u = ((s_flows v f h i1 o1).2.1, (s_flows v f h i1 o1).2.2, B, C)) (bM E (va_A (MW E r v f B C) sz) (MWu E r)) (va_A (MW E r v f B C) sz)) 0 0 (va_A (MW E r v f B C) sz) := by
  refine ofM (by decide) rfl (Nat.le_of_ble_eq_true rfl) ?_
  intro p e s m below meth c A hx hb hr hlocks hml hown hin hts hK hP hD hS hA hsz hAe ls hl
  rw [← hAe]
  have hl : lv_has ls 4 [(0, .ref (r 0)), (1, .int h), (2, .int i1), (3, .int o1)] := hl
  refine lv_aload_n hx hb dX5_flows_0 rfl (lv_at hl 0 rfl) ?_
  refine lv_iconst (v := 0) hx hb dX5_flows_1 (by decide) ?_
  refine va_put (D := E.1) (ci := 5) (v := .int 0) (ty := .int) (C := RX5) (T := TX5) (N := 26) hx hb hts (fun _ h => (List.mem_cons_of_mem _ (List.mem_append_right _ h))) tyX5 tyX5_ok nmX5 hown hK.1 hP hD hS 0 rfl rfl 0 (by decide) (hts _ (List.mem_of_getElem? (i := 1) rfl)) (fun _ h9 => h9) rfl (by decide +kernel) rfl rfl (Nat.le_of_ble_eq_true rfl) dX5_flows_2 (fun H locs hP hD hS => ?_)
  have hP : va_P E.1 vwCl (MW E r (upd v 0 0) f B C) H := hP
  have hD : va_D A (MW E r (upd v 0 0) f B C) := hD
  refine lv_iload_n hx hb dX5_flows_5 rfl (lv_at hl 1 rfl) ?_
  refine cR_S ⟨hx, hb, hml, hown, hts⟩ (c_X5_isHour l E h) (va_cwS 1 hts gX5_flows_X5_isHour rfl rfl rfl (by decide +kernel) ⟨Nat.le_of_ble_eq_true rfl, Nat.le_of_ble_eq_true rfl⟩) hK nilP rfl hl.1 rfl (Nat.le_of_ble_eq_true rfl) dX5_flows_6 ⟨Nat.le_of_ble_eq_true rfl, Nat.le_of_ble_eq_true rfl⟩ ?_
  refine b_if_eq (q := (m_in h 0 23)) (tgt := 32) hx hb dX5_flows_9 (by decide) (fun c_1 => ?_) (fun c_1 => ?_)
  · skip
    refine lv_iconst (v := 0) hx hb dX5_flows_32 (by decide) ?_
    exact qz_ret (((upd v 0 0), f, B, C) : MS) hx hb hr hlocks rfl (by rw [s_flows, cI_f (by simp_all)]; exact ⟨rfl, rfl⟩) hP hD hS dX5_flows_33
  · skip
    refine lv_iload_n hx hb dX5_flows_12 rfl (lv_at hl 2 rfl) ?_
    refine lv_iconst (v := 0) hx hb dX5_flows_13 (by decide) ?_
    refine lv_bipush (v := 9) hx hb dX5_flows_14 (by decide) ?_
    refine cR_S ⟨hx, hb, hml, hown, hts⟩ (c_X5_within l E i1 0 9) (va_cwS 3 hts gX5_flows_X5_within rfl rfl rfl (by decide +kernel) ⟨Nat.le_of_ble_eq_true rfl, Nat.le_of_ble_eq_true rfl⟩) hK nilP rfl hl.1 rfl (Nat.le_of_ble_eq_true rfl) dX5_flows_16 ⟨Nat.le_of_ble_eq_true rfl, Nat.le_of_ble_eq_true rfl⟩ ?_
    refine b_if_eq (q := (m_in i1 0 9)) (tgt := 32) hx hb dX5_flows_19 (by decide) (fun c_2 => ?_) (fun c_2 => ?_)
    · skip
      refine lv_iconst (v := 0) hx hb dX5_flows_32 (by decide) ?_
      exact qz_ret (((upd v 0 0), f, B, C) : MS) hx hb hr hlocks rfl (by rw [s_flows, cI_f (by simp_all)]; exact ⟨rfl, rfl⟩) hP hD hS dX5_flows_33
    · skip
      refine lv_iload_n hx hb dX5_flows_22 rfl (lv_at hl 3 rfl) ?_
      refine lv_iconst (v := 0) hx hb dX5_flows_23 (by decide) ?_
      refine lv_bipush (v := 9) hx hb dX5_flows_24 (by decide) ?_
      refine cR_S ⟨hx, hb, hml, hown, hts⟩ (c_X5_within l E o1 0 9) (va_cwS 3 hts gX5_flows_X5_within rfl rfl rfl (by decide +kernel) ⟨Nat.le_of_ble_eq_true rfl, Nat.le_of_ble_eq_true rfl⟩) hK nilP rfl hl.1 rfl (Nat.le_of_ble_eq_true rfl) dX5_flows_26 ⟨Nat.le_of_ble_eq_true rfl, Nat.le_of_ble_eq_true rfl⟩ ?_
      refine b_if_ne (q := (m_in o1 0 9)) (tgt := 34) hx hb dX5_flows_29 (by decide) (fun c_3 => ?_) (fun c_3 => ?_)
      · skip
        have hh := (inN c_1 23 (by decide) (by decide)).2
        refine lv_aload_n hx hb dX5_flows_34 rfl (lv_at hl 0 rfl) ?_
        refine va_get (D := E.1) (ci := 5) (v := .ref (r 8)) (C := RX5) (T := TX5) (N := 26) hx hb hts (fun _ h => (List.mem_cons_of_mem _ (List.mem_append_right _ h))) hown hK.1 hP 0 rfl rfl 8 (by decide) (hts _ (List.mem_of_getElem? (i := 2) rfl)) (fun _ h9 => h9) rfl dX5_flows_35 ?_
        refine lv_iload_n hx hb dX5_flows_38 rfl (lv_at hl 1 rfl) ?_
        refine w_top (show h = nI h.toNatClampNeg from (inN c_1 23 (by decide) (by decide)).1) ?_
        refine lv_iload_n hx hb dX5_flows_39 rfl (lv_at hl 2 rfl) ?_
        refine n_iast (f := f 8) hx hb hK.1 hP hD hS 1 0 rfl rfl (i := h.toNatClampNeg) (by omega) (by decide) dX5_flows_40 (fun H locs hP hD hS => ?_)
        have hP : va_P E.1 vwCl (MW E r (upd v 0 0) (va_up f 8 (upd (f 8) h.toNatClampNeg i1)) B C) H := hP
        have hD : va_D A (MW E r (upd v 0 0) (va_up f 8 (upd (f 8) h.toNatClampNeg i1)) B C) := hD
        refine lv_aload_n hx hb dX5_flows_41 rfl (lv_at hl 0 rfl) ?_
        refine va_get (D := E.1) (ci := 5) (v := .ref (r 9)) (C := RX5) (T := TX5) (N := 26) hx hb hts (fun _ h => (List.mem_cons_of_mem _ (List.mem_append_right _ h))) hown hK.1 hP 0 rfl rfl 9 (by decide) (hts _ (List.mem_of_getElem? (i := 3) rfl)) (fun _ h9 => h9) rfl dX5_flows_42 ?_
        refine lv_iload_n hx hb dX5_flows_45 rfl (lv_at hl 1 rfl) ?_
        refine w_top (show h = nI h.toNatClampNeg from (inN c_1 23 (by decide) (by decide)).1) ?_
        refine lv_iload_n hx hb dX5_flows_46 rfl (lv_at hl 3 rfl) ?_
        refine n_iast (f := f 9) hx hb hK.1 hP hD hS 2 0 rfl rfl (i := h.toNatClampNeg) (by omega) (by decide) dX5_flows_47 (fun H locs hP hD hS => ?_)
        have hP : va_P E.1 vwCl (MW E r (upd v 0 0) (va_up (va_up f 8 (upd (f 8) h.toNatClampNeg i1)) 9 (upd (f 9) h.toNatClampNeg o1)) B C) H := hP
        have hD : va_D A (MW E r (upd v 0 0) (va_up (va_up f 8 (upd (f 8) h.toNatClampNeg i1)) 9 (upd (f 9) h.toNatClampNeg o1)) B C) := hD
        refine lv_iconst (v := 1) hx hb dX5_flows_48 (by decide) ?_
        exact qz_ret (((upd v 0 0), (va_up (va_up f 8 (upd (f 8) h.toNatClampNeg i1)) 9 (upd (f 9) h.toNatClampNeg o1)), B, C) : MS) hx hb hr hlocks rfl (by rw [s_flows, cI_t (by simp_all)]; exact ⟨rfl, rfl⟩) hP hD hS dX5_flows_49
      · skip
        refine lv_iconst (v := 0) hx hb dX5_flows_32 (by decide) ?_
        exact qz_ret (((upd v 0 0), f, B, C) : MS) hx hb hr hlocks rfl (by rw [s_flows, cI_f (by simp_all)]; exact ⟨rfl, rfl⟩) hP hD hS dX5_flows_33
noncomputable def s_reserve (v : Nat → Int32) (f : Nat → Nat → Int32) (h : Int32) (n1 : Int32) : AN := cI (m_in h 0 23 ∧ m_in n1 0 99) (1, upd v 0 0, va_up f 10 (upd (f 10) h.toNatClampNeg n1)) (0, upd v 0 0, f)
set_option maxHeartbeats 4000000 in
set_option maxRecDepth 100000 in
theorem c_X5_reserve (l : Launch) (E : GG) (r : Nat → Nat) (v : Nat → Int32) (f : Nat → Nat → Int32) (B C : Nat → Int32) (sz : Nat) (h : Int32) (n1 : Int32)  : Met l yX5_reserve wsX5_reserve (Rm 2 0 0) (pM E [.ref (r 0), .int h, .int n1] (MW E r v f B C) sz) (va_Qi (fun (x : Int32) (u : MS) => x = (s_reserve v f h n1).1 ∧ u = ((s_reserve v f h n1).2.1, (s_reserve v f h n1).2.2, B, C)) (bM E (va_A (MW E r v f B C) sz) (MWu E r)) (va_A (MW E r v f B C) sz)) 0 0 (va_A (MW E r v f B C) sz) := by
  refine ofM (by decide) rfl (Nat.le_of_ble_eq_true rfl) ?_
  intro p e s m below meth c A hx hb hr hlocks hml hown hin hts hK hP hD hS hA hsz hAe ls hl
  rw [← hAe]
  have hl : lv_has ls 3 [(0, .ref (r 0)), (1, .int h), (2, .int n1)] := hl
  refine lv_aload_n hx hb dX5_reserve_0 rfl (lv_at hl 0 rfl) ?_
  refine lv_iconst (v := 0) hx hb dX5_reserve_1 (by decide) ?_
  refine va_put (D := E.1) (ci := 5) (v := .int 0) (ty := .int) (C := RX5) (T := TX5) (N := 26) hx hb hts (fun _ h => (List.mem_cons_of_mem _ (List.mem_append_right _ h))) tyX5 tyX5_ok nmX5 hown hK.1 hP hD hS 0 rfl rfl 0 (by decide) (hts _ (List.mem_of_getElem? (i := 1) rfl)) (fun _ h9 => h9) rfl (by decide +kernel) rfl rfl (Nat.le_of_ble_eq_true rfl) dX5_reserve_2 (fun H locs hP hD hS => ?_)
  have hP : va_P E.1 vwCl (MW E r (upd v 0 0) f B C) H := hP
  have hD : va_D A (MW E r (upd v 0 0) f B C) := hD
  refine lv_iload_n hx hb dX5_reserve_5 rfl (lv_at hl 1 rfl) ?_
  refine cR_S ⟨hx, hb, hml, hown, hts⟩ (c_X5_isHour l E h) (va_cwS 1 hts gX5_reserve_X5_isHour rfl rfl rfl (by decide +kernel) ⟨Nat.le_of_ble_eq_true rfl, Nat.le_of_ble_eq_true rfl⟩) hK nilP rfl hl.1 rfl (Nat.le_of_ble_eq_true rfl) dX5_reserve_6 ⟨Nat.le_of_ble_eq_true rfl, Nat.le_of_ble_eq_true rfl⟩ ?_
  refine b_if_eq (q := (m_in h 0 23)) (tgt := 22) hx hb dX5_reserve_9 (by decide) (fun c_1 => ?_) (fun c_1 => ?_)
  · skip
    refine lv_iconst (v := 0) hx hb dX5_reserve_22 (by decide) ?_
    exact qz_ret (((upd v 0 0), f, B, C) : MS) hx hb hr hlocks rfl (by rw [s_reserve, cI_f (by simp_all)]; exact ⟨rfl, rfl⟩) hP hD hS dX5_reserve_23
  · skip
    refine lv_iload_n hx hb dX5_reserve_12 rfl (lv_at hl 2 rfl) ?_
    refine lv_iconst (v := 0) hx hb dX5_reserve_13 (by decide) ?_
    refine lv_bipush (v := 99) hx hb dX5_reserve_14 (by decide) ?_
    refine cR_S ⟨hx, hb, hml, hown, hts⟩ (c_X5_within l E n1 0 99) (va_cwS 3 hts gX5_reserve_X5_within rfl rfl rfl (by decide +kernel) ⟨Nat.le_of_ble_eq_true rfl, Nat.le_of_ble_eq_true rfl⟩) hK nilP rfl hl.1 rfl (Nat.le_of_ble_eq_true rfl) dX5_reserve_16 ⟨Nat.le_of_ble_eq_true rfl, Nat.le_of_ble_eq_true rfl⟩ ?_
    refine b_if_ne (q := (m_in n1 0 99)) (tgt := 24) hx hb dX5_reserve_19 (by decide) (fun c_2 => ?_) (fun c_2 => ?_)
    · skip
      have hh := (inN c_1 23 (by decide) (by decide)).2
      refine lv_aload_n hx hb dX5_reserve_24 rfl (lv_at hl 0 rfl) ?_
      refine va_get (D := E.1) (ci := 5) (v := .ref (r 10)) (C := RX5) (T := TX5) (N := 26) hx hb hts (fun _ h => (List.mem_cons_of_mem _ (List.mem_append_right _ h))) hown hK.1 hP 0 rfl rfl 10 (by decide) (hts _ (List.mem_of_getElem? (i := 2) rfl)) (fun _ h9 => h9) rfl dX5_reserve_25 ?_
      refine lv_iload_n hx hb dX5_reserve_28 rfl (lv_at hl 1 rfl) ?_
      refine w_top (show h = nI h.toNatClampNeg from (inN c_1 23 (by decide) (by decide)).1) ?_
      refine lv_iload_n hx hb dX5_reserve_29 rfl (lv_at hl 2 rfl) ?_
      refine n_iast (f := f 10) hx hb hK.1 hP hD hS 3 0 rfl rfl (i := h.toNatClampNeg) (by omega) (by decide) dX5_reserve_30 (fun H locs hP hD hS => ?_)
      have hP : va_P E.1 vwCl (MW E r (upd v 0 0) (va_up f 10 (upd (f 10) h.toNatClampNeg n1)) B C) H := hP
      have hD : va_D A (MW E r (upd v 0 0) (va_up f 10 (upd (f 10) h.toNatClampNeg n1)) B C) := hD
      refine lv_iconst (v := 1) hx hb dX5_reserve_31 (by decide) ?_
      exact qz_ret (((upd v 0 0), (va_up f 10 (upd (f 10) h.toNatClampNeg n1)), B, C) : MS) hx hb hr hlocks rfl (by rw [s_reserve, cI_t (by simp_all)]; exact ⟨rfl, rfl⟩) hP hD hS dX5_reserve_32
    · skip
      refine lv_iconst (v := 0) hx hb dX5_reserve_22 (by decide) ?_
      exact qz_ret (((upd v 0 0), f, B, C) : MS) hx hb hr hlocks rfl (by rw [s_reserve, cI_f (by simp_all)]; exact ⟨rfl, rfl⟩) hP hD hS dX5_reserve_23
noncomputable def s_machine (v : Nat → Int32) (f : Nat → Nat → Int32) (k : Int32) (d1 : Int32) (g1 : Int32) (u1 : Int32) (t1 : Int32) (s1 : Int32) : AN := cI (m_in k 0 1 ∧ m_in d1 0 99 ∧ m_in g1 0 99 ∧ m_in u1 0 99 ∧ m_in t1 0 99 ∧ m_in s1 0 99) (1, upd v 0 0, va_up (va_up (va_up (va_up (va_up f 11 (upd (f 11) k.toNatClampNeg d1)) 12 (upd (f 12) k.toNatClampNeg g1)) 13 (upd (f 13) k.toNatClampNeg u1)) 14 (upd (f 14) k.toNatClampNeg t1)) 15 (upd (f 15) k.toNatClampNeg s1)) (0, upd v 0 0, f)
end
section
set_option maxHeartbeats 4000000 in
set_option maxRecDepth 100000 in
theorem c_X5_machine (l : Launch) (E : GG) (r : Nat → Nat) (v : Nat → Int32) (f : Nat → Nat → Int32) (B C : Nat → Int32) (sz : Nat) (k : Int32) (d1 : Int32) (g1 : Int32) (u1 : Int32) (t1 : Int32) (s1 : Int32)  : Met l yX5_machine wsX5_machine (Rm 1 0 0) (pM E [.ref (r 0), .int k, .int d1, .int g1, .int u1, .int t1, .int s1] (MW E r v f B C) sz) (va_Qi (fun (x : Int32) (u : MS) => x = (s_machine v f k d1 g1 u1 t1 s1).1 ∧ u = ((s_machine v f k d1 g1 u1 t1 s1).2.1, (s_machine v f k d1 g1 u1 t1 s1).2.2, B, C)) (bM E (va_A (MW E r v f B C) sz) (MWu E r)) (va_A (MW E r v f B C) sz)) 0 0 (va_A (MW E r v f B C) sz) := by
  refine ofM (by decide) rfl (Nat.le_of_ble_eq_true rfl) ?_
  intro p e s m below meth c A hx hb hr hlocks hml hown hin hts hK hP hD hS hA hsz hAe ls hl
  rw [← hAe]
  have hl : lv_has ls 7 [(0, .ref (r 0)), (1, .int k), (2, .int d1), (3, .int g1), (4, .int u1), (5, .int t1), (6, .int s1)] := hl
  refine lv_aload_n hx hb dX5_machine_0 rfl (lv_at hl 0 rfl) ?_
  refine lv_iconst (v := 0) hx hb dX5_machine_1 (by decide) ?_
  refine va_put (D := E.1) (ci := 5) (v := .int 0) (ty := .int) (C := RX5) (T := TX5) (N := 26) hx hb hts (fun _ h => (List.mem_cons_of_mem _ (List.mem_append_right _ h))) tyX5 tyX5_ok nmX5 hown hK.1 hP hD hS 0 rfl rfl 0 (by decide) (hts _ (List.mem_of_getElem? (i := 1) rfl)) (fun _ h9 => h9) rfl (by decide +kernel) rfl rfl (Nat.le_of_ble_eq_true rfl) dX5_machine_2 (fun H locs hP hD hS => ?_)
  have hP : va_P E.1 vwCl (MW E r (upd v 0 0) f B C) H := hP
  have hD : va_D A (MW E r (upd v 0 0) f B C) := hD
  refine lv_iload_n hx hb dX5_machine_5 rfl (lv_at hl 1 rfl) ?_
  refine lv_iconst (v := 0) hx hb dX5_machine_6 (by decide) ?_
  refine lv_iconst (v := 1) hx hb dX5_machine_7 (by decide) ?_
  refine cR_S ⟨hx, hb, hml, hown, hts⟩ (c_X5_within l E k 0 1) (va_cwS 3 hts gX5_machine_X5_within rfl rfl rfl (by decide +kernel) ⟨Nat.le_of_ble_eq_true rfl, Nat.le_of_ble_eq_true rfl⟩) hK nilP rfl hl.1 rfl (Nat.le_of_ble_eq_true rfl) dX5_machine_8 ⟨Nat.le_of_ble_eq_true rfl, Nat.le_of_ble_eq_true rfl⟩ ?_
  refine b_if_eq (q := (m_in k 0 1)) (tgt := 67) hx hb dX5_machine_11 (by decide) (fun c_1 => ?_) (fun c_1 => ?_)
  · skip
    refine lv_iconst (v := 0) hx hb dX5_machine_67 (by decide) ?_
    exact qz_ret (((upd v 0 0), f, B, C) : MS) hx hb hr hlocks rfl (by rw [s_machine, cI_f (by simp_all)]; exact ⟨rfl, rfl⟩) hP hD hS dX5_machine_68
  · skip
    refine lv_iload_n hx hb dX5_machine_14 rfl (lv_at hl 2 rfl) ?_
    refine lv_iconst (v := 0) hx hb dX5_machine_15 (by decide) ?_
    refine lv_bipush (v := 99) hx hb dX5_machine_16 (by decide) ?_
    refine cR_S ⟨hx, hb, hml, hown, hts⟩ (c_X5_within l E d1 0 99) (va_cwS 3 hts gX5_machine_X5_within rfl rfl rfl (by decide +kernel) ⟨Nat.le_of_ble_eq_true rfl, Nat.le_of_ble_eq_true rfl⟩) hK nilP rfl hl.1 rfl (Nat.le_of_ble_eq_true rfl) dX5_machine_18 ⟨Nat.le_of_ble_eq_true rfl, Nat.le_of_ble_eq_true rfl⟩ ?_
    refine b_if_eq (q := (m_in d1 0 99)) (tgt := 67) hx hb dX5_machine_21 (by decide) (fun c_2 => ?_) (fun c_2 => ?_)
    · skip
      refine lv_iconst (v := 0) hx hb dX5_machine_67 (by decide) ?_
      exact qz_ret (((upd v 0 0), f, B, C) : MS) hx hb hr hlocks rfl (by rw [s_machine, cI_f (by simp_all)]; exact ⟨rfl, rfl⟩) hP hD hS dX5_machine_68
    · skip
      refine lv_iload_n hx hb dX5_machine_24 rfl (lv_at hl 3 rfl) ?_
      refine lv_iconst (v := 0) hx hb dX5_machine_25 (by decide) ?_
      refine lv_bipush (v := 99) hx hb dX5_machine_26 (by decide) ?_
      refine cR_S ⟨hx, hb, hml, hown, hts⟩ (c_X5_within l E g1 0 99) (va_cwS 3 hts gX5_machine_X5_within rfl rfl rfl (by decide +kernel) ⟨Nat.le_of_ble_eq_true rfl, Nat.le_of_ble_eq_true rfl⟩) hK nilP rfl hl.1 rfl (Nat.le_of_ble_eq_true rfl) dX5_machine_28 ⟨Nat.le_of_ble_eq_true rfl, Nat.le_of_ble_eq_true rfl⟩ ?_
      refine b_if_eq (q := (m_in g1 0 99)) (tgt := 67) hx hb dX5_machine_31 (by decide) (fun c_3 => ?_) (fun c_3 => ?_)
      · skip
        refine lv_iconst (v := 0) hx hb dX5_machine_67 (by decide) ?_
        exact qz_ret (((upd v 0 0), f, B, C) : MS) hx hb hr hlocks rfl (by rw [s_machine, cI_f (by simp_all)]; exact ⟨rfl, rfl⟩) hP hD hS dX5_machine_68
      · skip
        refine lv_iload hx hb dX5_machine_34 (lv_at hl 4 rfl) ?_
        refine lv_iconst (v := 0) hx hb dX5_machine_36 (by decide) ?_
        refine lv_bipush (v := 99) hx hb dX5_machine_37 (by decide) ?_
        refine cR_S ⟨hx, hb, hml, hown, hts⟩ (c_X5_within l E u1 0 99) (va_cwS 3 hts gX5_machine_X5_within rfl rfl rfl (by decide +kernel) ⟨Nat.le_of_ble_eq_true rfl, Nat.le_of_ble_eq_true rfl⟩) hK nilP rfl hl.1 rfl (Nat.le_of_ble_eq_true rfl) dX5_machine_39 ⟨Nat.le_of_ble_eq_true rfl, Nat.le_of_ble_eq_true rfl⟩ ?_
        refine b_if_eq (q := (m_in u1 0 99)) (tgt := 67) hx hb dX5_machine_42 (by decide) (fun c_4 => ?_) (fun c_4 => ?_)
        · skip
          refine lv_iconst (v := 0) hx hb dX5_machine_67 (by decide) ?_
          exact qz_ret (((upd v 0 0), f, B, C) : MS) hx hb hr hlocks rfl (by rw [s_machine, cI_f (by simp_all)]; exact ⟨rfl, rfl⟩) hP hD hS dX5_machine_68
        · skip
          refine lv_iload hx hb dX5_machine_45 (lv_at hl 5 rfl) ?_
          refine lv_iconst (v := 0) hx hb dX5_machine_47 (by decide) ?_
          refine lv_bipush (v := 99) hx hb dX5_machine_48 (by decide) ?_
          refine cR_S ⟨hx, hb, hml, hown, hts⟩ (c_X5_within l E t1 0 99) (va_cwS 3 hts gX5_machine_X5_within rfl rfl rfl (by decide +kernel) ⟨Nat.le_of_ble_eq_true rfl, Nat.le_of_ble_eq_true rfl⟩) hK nilP rfl hl.1 rfl (Nat.le_of_ble_eq_true rfl) dX5_machine_50 ⟨Nat.le_of_ble_eq_true rfl, Nat.le_of_ble_eq_true rfl⟩ ?_
          refine b_if_eq (q := (m_in t1 0 99)) (tgt := 67) hx hb dX5_machine_53 (by decide) (fun c_5 => ?_) (fun c_5 => ?_)
          · skip
            refine lv_iconst (v := 0) hx hb dX5_machine_67 (by decide) ?_
            exact qz_ret (((upd v 0 0), f, B, C) : MS) hx hb hr hlocks rfl (by rw [s_machine, cI_f (by simp_all)]; exact ⟨rfl, rfl⟩) hP hD hS dX5_machine_68
          · skip
            refine lv_iload hx hb dX5_machine_56 (lv_at hl 6 rfl) ?_
            refine lv_iconst (v := 0) hx hb dX5_machine_58 (by decide) ?_
            refine lv_bipush (v := 99) hx hb dX5_machine_59 (by decide) ?_
            refine cR_S ⟨hx, hb, hml, hown, hts⟩ (c_X5_within l E s1 0 99) (va_cwS 3 hts gX5_machine_X5_within rfl rfl rfl (by decide +kernel) ⟨Nat.le_of_ble_eq_true rfl, Nat.le_of_ble_eq_true rfl⟩) hK nilP rfl hl.1 rfl (Nat.le_of_ble_eq_true rfl) dX5_machine_61 ⟨Nat.le_of_ble_eq_true rfl, Nat.le_of_ble_eq_true rfl⟩ ?_
            refine b_if_ne (q := (m_in s1 0 99)) (tgt := 69) hx hb dX5_machine_64 (by decide) (fun c_6 => ?_) (fun c_6 => ?_)
            · skip
              have hh := (inN c_1 1 (by decide) (by decide)).2
              refine lv_aload_n hx hb dX5_machine_69 rfl (lv_at hl 0 rfl) ?_
              refine va_get (D := E.1) (ci := 5) (v := .ref (r 11)) (C := RX5) (T := TX5) (N := 26) hx hb hts (fun _ h => (List.mem_cons_of_mem _ (List.mem_append_right _ h))) hown hK.1 hP 0 rfl rfl 11 (by decide) (hts _ (List.mem_of_getElem? (i := 2) rfl)) (fun _ h9 => h9) rfl dX5_machine_70 ?_
              refine lv_iload_n hx hb dX5_machine_73 rfl (lv_at hl 1 rfl) ?_
              refine w_top (show k = nI k.toNatClampNeg from (inN c_1 1 (by decide) (by decide)).1) ?_
              refine lv_iload_n hx hb dX5_machine_74 rfl (lv_at hl 2 rfl) ?_
              refine n_iast (f := f 11) hx hb hK.1 hP hD hS 4 0 rfl rfl (i := k.toNatClampNeg) (by omega) (by decide) dX5_machine_75 (fun H locs hP hD hS => ?_)
              have hP : va_P E.1 vwCl (MW E r (upd v 0 0) (va_up f 11 (upd (f 11) k.toNatClampNeg d1)) B C) H := hP
              have hD : va_D A (MW E r (upd v 0 0) (va_up f 11 (upd (f 11) k.toNatClampNeg d1)) B C) := hD
              refine lv_aload_n hx hb dX5_machine_76 rfl (lv_at hl 0 rfl) ?_
              refine va_get (D := E.1) (ci := 5) (v := .ref (r 12)) (C := RX5) (T := TX5) (N := 26) hx hb hts (fun _ h => (List.mem_cons_of_mem _ (List.mem_append_right _ h))) hown hK.1 hP 0 rfl rfl 12 (by decide) (hts _ (List.mem_of_getElem? (i := 3) rfl)) (fun _ h9 => h9) rfl dX5_machine_77 ?_
              refine lv_iload_n hx hb dX5_machine_80 rfl (lv_at hl 1 rfl) ?_
              refine w_top (show k = nI k.toNatClampNeg from (inN c_1 1 (by decide) (by decide)).1) ?_
              refine lv_iload_n hx hb dX5_machine_81 rfl (lv_at hl 3 rfl) ?_
              refine n_iast (f := f 12) hx hb hK.1 hP hD hS 5 0 rfl rfl (i := k.toNatClampNeg) (by omega) (by decide) dX5_machine_82 (fun H locs hP hD hS => ?_)
              have hP : va_P E.1 vwCl (MW E r (upd v 0 0) (va_up (va_up f 11 (upd (f 11) k.toNatClampNeg d1)) 12 (upd (f 12) k.toNatClampNeg g1)) B C) H := hP
              have hD : va_D A (MW E r (upd v 0 0) (va_up (va_up f 11 (upd (f 11) k.toNatClampNeg d1)) 12 (upd (f 12) k.toNatClampNeg g1)) B C) := hD
              refine lv_aload_n hx hb dX5_machine_83 rfl (lv_at hl 0 rfl) ?_
              refine va_get (D := E.1) (ci := 5) (v := .ref (r 13)) (C := RX5) (T := TX5) (N := 26) hx hb hts (fun _ h => (List.mem_cons_of_mem _ (List.mem_append_right _ h))) hown hK.1 hP 0 rfl rfl 13 (by decide) (hts _ (List.mem_of_getElem? (i := 4) rfl)) (fun _ h9 => h9) rfl dX5_machine_84 ?_
              refine lv_iload_n hx hb dX5_machine_87 rfl (lv_at hl 1 rfl) ?_
              refine w_top (show k = nI k.toNatClampNeg from (inN c_1 1 (by decide) (by decide)).1) ?_
              refine lv_iload hx hb dX5_machine_88 (lv_at hl 4 rfl) ?_
              refine n_iast (f := f 13) hx hb hK.1 hP hD hS 6 0 rfl rfl (i := k.toNatClampNeg) (by omega) (by decide) dX5_machine_90 (fun H locs hP hD hS => ?_)
              have hP : va_P E.1 vwCl (MW E r (upd v 0 0) (va_up (va_up (va_up f 11 (upd (f 11) k.toNatClampNeg d1)) 12 (upd (f 12) k.toNatClampNeg g1)) 13 (upd (f 13) k.toNatClampNeg u1)) B C) H := hP
              have hD : va_D A (MW E r (upd v 0 0) (va_up (va_up (va_up f 11 (upd (f 11) k.toNatClampNeg d1)) 12 (upd (f 12) k.toNatClampNeg g1)) 13 (upd (f 13) k.toNatClampNeg u1)) B C) := hD
              refine lv_aload_n hx hb dX5_machine_91 rfl (lv_at hl 0 rfl) ?_
              refine va_get (D := E.1) (ci := 5) (v := .ref (r 14)) (C := RX5) (T := TX5) (N := 26) hx hb hts (fun _ h => (List.mem_cons_of_mem _ (List.mem_append_right _ h))) hown hK.1 hP 0 rfl rfl 14 (by decide) (hts _ (List.mem_of_getElem? (i := 5) rfl)) (fun _ h9 => h9) rfl dX5_machine_92 ?_
              refine lv_iload_n hx hb dX5_machine_95 rfl (lv_at hl 1 rfl) ?_
              refine w_top (show k = nI k.toNatClampNeg from (inN c_1 1 (by decide) (by decide)).1) ?_
              refine lv_iload hx hb dX5_machine_96 (lv_at hl 5 rfl) ?_
              refine n_iast (f := f 14) hx hb hK.1 hP hD hS 7 0 rfl rfl (i := k.toNatClampNeg) (by omega) (by decide) dX5_machine_98 (fun H locs hP hD hS => ?_)
              have hP : va_P E.1 vwCl (MW E r (upd v 0 0) (va_up (va_up (va_up (va_up f 11 (upd (f 11) k.toNatClampNeg d1)) 12 (upd (f 12) k.toNatClampNeg g1)) 13 (upd (f 13) k.toNatClampNeg u1)) 14 (upd (f 14) k.toNatClampNeg t1)) B C) H := hP
              have hD : va_D A (MW E r (upd v 0 0) (va_up (va_up (va_up (va_up f 11 (upd (f 11) k.toNatClampNeg d1)) 12 (upd (f 12) k.toNatClampNeg g1)) 13 (upd (f 13) k.toNatClampNeg u1)) 14 (upd (f 14) k.toNatClampNeg t1)) B C) := hD
              refine lv_aload_n hx hb dX5_machine_99 rfl (lv_at hl 0 rfl) ?_
              refine va_get (D := E.1) (ci := 5) (v := .ref (r 15)) (C := RX5) (T := TX5) (N := 26) hx hb hts (fun _ h => (List.mem_cons_of_mem _ (List.mem_append_right _ h))) hown hK.1 hP 0 rfl rfl 15 (by decide) (hts _ (List.mem_of_getElem? (i := 6) rfl)) (fun _ h9 => h9) rfl dX5_machine_100 ?_
              refine lv_iload_n hx hb dX5_machine_103 rfl (lv_at hl 1 rfl) ?_
              refine w_top (show k = nI k.toNatClampNeg from (inN c_1 1 (by decide) (by decide)).1) ?_
              refine lv_iload hx hb dX5_machine_104 (lv_at hl 6 rfl) ?_
              refine n_iast (f := f 15) hx hb hK.1 hP hD hS 8 0 rfl rfl (i := k.toNatClampNeg) (by omega) (by decide) dX5_machine_106 (fun H locs hP hD hS => ?_)
              have hP : va_P E.1 vwCl (MW E r (upd v 0 0) (va_up (va_up (va_up (va_up (va_up f 11 (upd (f 11) k.toNatClampNeg d1)) 12 (upd (f 12) k.toNatClampNeg g1)) 13 (upd (f 13) k.toNatClampNeg u1)) 14 (upd (f 14) k.toNatClampNeg t1)) 15 (upd (f 15) k.toNatClampNeg s1)) B C) H := hP
              have hD : va_D A (MW E r (upd v 0 0) (va_up (va_up (va_up (va_up (va_up f 11 (upd (f 11) k.toNatClampNeg d1)) 12 (upd (f 12) k.toNatClampNeg g1)) 13 (upd (f 13) k.toNatClampNeg u1)) 14 (upd (f 14) k.toNatClampNeg t1)) 15 (upd (f 15) k.toNatClampNeg s1)) B C) := hD
              refine lv_iconst (v := 1) hx hb dX5_machine_107 (by decide) ?_
              exact qz_ret (((upd v 0 0), (va_up (va_up (va_up (va_up (va_up f 11 (upd (f 11) k.toNatClampNeg d1)) 12 (upd (f 12) k.toNatClampNeg g1)) 13 (upd (f 13) k.toNatClampNeg u1)) 14 (upd (f 14) k.toNatClampNeg t1)) 15 (upd (f 15) k.toNatClampNeg s1)), B, C) : MS) hx hb hr hlocks rfl (by rw [s_machine, cI_t (by simp_all)]; exact ⟨rfl, rfl⟩) hP hD hS dX5_machine_108
            · skip
              refine lv_iconst (v := 0) hx hb dX5_machine_67 (by decide) ?_
              exact qz_ret (((upd v 0 0), f, B, C) : MS) hx hb hr hlocks rfl (by rw [s_machine, cI_f (by simp_all)]; exact ⟨rfl, rfl⟩) hP hD hS dX5_machine_68
noncomputable def s_weights (v : Nat → Int32) (f : Nat → Nat → Int32) (a : Int32) (b : Int32) (c1 : Int32) : AN := cI (m_in a 0 9 ∧ m_in b 0 9 ∧ m_in c1 0 9 ∧ ¬ a + b + c1 = 0) (1, upd v 0 0, va_up (va_up (va_up f 17 (upd (f 17) 0 a)) 17 (upd (upd (f 17) 0 a) 1 b)) 17 (upd (upd (upd (f 17) 0 a) 1 b) 2 c1)) (0, upd v 0 0, f)
set_option maxHeartbeats 4000000 in
set_option maxRecDepth 100000 in
theorem c_X5_weights (l : Launch) (E : GG) (r : Nat → Nat) (v : Nat → Int32) (f : Nat → Nat → Int32) (B C : Nat → Int32) (sz : Nat) (a : Int32) (b : Int32) (c1 : Int32)  : Met l yX5_weights wsX5_weights (Rm 1 0 0) (pM E [.ref (r 0), .int a, .int b, .int c1] (MW E r v f B C) sz) (va_Qi (fun (x : Int32) (u : MS) => x = (s_weights v f a b c1).1 ∧ u = ((s_weights v f a b c1).2.1, (s_weights v f a b c1).2.2, B, C)) (bM E (va_A (MW E r v f B C) sz) (MWu E r)) (va_A (MW E r v f B C) sz)) 0 0 (va_A (MW E r v f B C) sz) := by
  refine ofM (by decide) rfl (Nat.le_of_ble_eq_true rfl) ?_
  intro p e s m below meth c A hx hb hr hlocks hml hown hin hts hK hP hD hS hA hsz hAe ls hl
  rw [← hAe]
  have hl : lv_has ls 4 [(0, .ref (r 0)), (1, .int a), (2, .int b), (3, .int c1)] := hl
  refine lv_aload_n hx hb dX5_weights_0 rfl (lv_at hl 0 rfl) ?_
  refine lv_iconst (v := 0) hx hb dX5_weights_1 (by decide) ?_
  refine va_put (D := E.1) (ci := 5) (v := .int 0) (ty := .int) (C := RX5) (T := TX5) (N := 26) hx hb hts (fun _ h => (List.mem_cons_of_mem _ (List.mem_append_right _ h))) tyX5 tyX5_ok nmX5 hown hK.1 hP hD hS 0 rfl rfl 0 (by decide) (hts _ (List.mem_of_getElem? (i := 1) rfl)) (fun _ h9 => h9) rfl (by decide +kernel) rfl rfl (Nat.le_of_ble_eq_true rfl) dX5_weights_2 (fun H locs hP hD hS => ?_)
  have hP : va_P E.1 vwCl (MW E r (upd v 0 0) f B C) H := hP
  have hD : va_D A (MW E r (upd v 0 0) f B C) := hD
  refine lv_iload_n hx hb dX5_weights_5 rfl (lv_at hl 1 rfl) ?_
  refine lv_iconst (v := 0) hx hb dX5_weights_6 (by decide) ?_
  refine lv_bipush (v := 9) hx hb dX5_weights_7 (by decide) ?_
  refine cR_S ⟨hx, hb, hml, hown, hts⟩ (c_X5_within l E a 0 9) (va_cwS 3 hts gX5_weights_X5_within rfl rfl rfl (by decide +kernel) ⟨Nat.le_of_ble_eq_true rfl, Nat.le_of_ble_eq_true rfl⟩) hK nilP rfl hl.1 rfl (Nat.le_of_ble_eq_true rfl) dX5_weights_9 ⟨Nat.le_of_ble_eq_true rfl, Nat.le_of_ble_eq_true rfl⟩ ?_
  refine b_if_eq (q := (m_in a 0 9)) (tgt := 43) hx hb dX5_weights_12 (by decide) (fun c_1 => ?_) (fun c_1 => ?_)
  · skip
    refine lv_iconst (v := 0) hx hb dX5_weights_43 (by decide) ?_
    exact qz_ret (((upd v 0 0), f, B, C) : MS) hx hb hr hlocks rfl (by rw [s_weights, cI_f (by simp_all)]; exact ⟨rfl, rfl⟩) hP hD hS dX5_weights_44
  · skip
    refine lv_iload_n hx hb dX5_weights_15 rfl (lv_at hl 2 rfl) ?_
    refine lv_iconst (v := 0) hx hb dX5_weights_16 (by decide) ?_
    refine lv_bipush (v := 9) hx hb dX5_weights_17 (by decide) ?_
    refine cR_S ⟨hx, hb, hml, hown, hts⟩ (c_X5_within l E b 0 9) (va_cwS 3 hts gX5_weights_X5_within rfl rfl rfl (by decide +kernel) ⟨Nat.le_of_ble_eq_true rfl, Nat.le_of_ble_eq_true rfl⟩) hK nilP rfl hl.1 rfl (Nat.le_of_ble_eq_true rfl) dX5_weights_19 ⟨Nat.le_of_ble_eq_true rfl, Nat.le_of_ble_eq_true rfl⟩ ?_
    refine b_if_eq (q := (m_in b 0 9)) (tgt := 43) hx hb dX5_weights_22 (by decide) (fun c_2 => ?_) (fun c_2 => ?_)
    · skip
      refine lv_iconst (v := 0) hx hb dX5_weights_43 (by decide) ?_
      exact qz_ret (((upd v 0 0), f, B, C) : MS) hx hb hr hlocks rfl (by rw [s_weights, cI_f (by simp_all)]; exact ⟨rfl, rfl⟩) hP hD hS dX5_weights_44
    · skip
      refine lv_iload_n hx hb dX5_weights_25 rfl (lv_at hl 3 rfl) ?_
      refine lv_iconst (v := 0) hx hb dX5_weights_26 (by decide) ?_
      refine lv_bipush (v := 9) hx hb dX5_weights_27 (by decide) ?_
      refine cR_S ⟨hx, hb, hml, hown, hts⟩ (c_X5_within l E c1 0 9) (va_cwS 3 hts gX5_weights_X5_within rfl rfl rfl (by decide +kernel) ⟨Nat.le_of_ble_eq_true rfl, Nat.le_of_ble_eq_true rfl⟩) hK nilP rfl hl.1 rfl (Nat.le_of_ble_eq_true rfl) dX5_weights_29 ⟨Nat.le_of_ble_eq_true rfl, Nat.le_of_ble_eq_true rfl⟩ ?_
      refine b_if_eq (q := (m_in c1 0 9)) (tgt := 43) hx hb dX5_weights_32 (by decide) (fun c_3 => ?_) (fun c_3 => ?_)
      · skip
        refine lv_iconst (v := 0) hx hb dX5_weights_43 (by decide) ?_
        exact qz_ret (((upd v 0 0), f, B, C) : MS) hx hb hr hlocks rfl (by rw [s_weights, cI_f (by simp_all)]; exact ⟨rfl, rfl⟩) hP hD hS dX5_weights_44
      · skip
        refine lv_iload_n hx hb dX5_weights_35 rfl (lv_at hl 1 rfl) ?_
        refine lv_iload_n hx hb dX5_weights_36 rfl (lv_at hl 2 rfl) ?_
        refine lv_iadd hx hb dX5_weights_37 ?_
        refine lv_iload_n hx hb dX5_weights_38 rfl (lv_at hl 3 rfl) ?_
        refine lv_iadd hx hb dX5_weights_39 ?_
        refine lv_if_ne (tgt := 45) hx hb dX5_weights_40 (by decide) (fun c_4 => ?_) (fun c_4 => ?_)
        · skip
          refine lv_aload_n hx hb dX5_weights_45 rfl (lv_at hl 0 rfl) ?_
          refine va_get (D := E.1) (ci := 5) (v := .ref (r 17)) (C := RX5) (T := TX5) (N := 26) hx hb hts (fun _ h => (List.mem_cons_of_mem _ (List.mem_append_right _ h))) hown hK.1 hP 0 rfl rfl 17 (by decide) (hts _ (List.mem_of_getElem? (i := 2) rfl)) (fun _ h9 => h9) rfl dX5_weights_46 ?_
          refine lv_iconst (v := 0) hx hb dX5_weights_49 (by decide) ?_
          refine lv_iload_n hx hb dX5_weights_50 rfl (lv_at hl 1 rfl) ?_
          refine n_iast (f := f 17) hx hb hK.1 hP hD hS 10 0 rfl rfl (i := 0) (by omega) (by decide) dX5_weights_51 (fun H locs hP hD hS => ?_)
          have hP : va_P E.1 vwCl (MW E r (upd v 0 0) (va_up f 17 (upd (f 17) 0 a)) B C) H := hP
          have hD : va_D A (MW E r (upd v 0 0) (va_up f 17 (upd (f 17) 0 a)) B C) := hD
          refine lv_aload_n hx hb dX5_weights_52 rfl (lv_at hl 0 rfl) ?_
          refine va_get (D := E.1) (ci := 5) (v := .ref (r 17)) (C := RX5) (T := TX5) (N := 26) hx hb hts (fun _ h => (List.mem_cons_of_mem _ (List.mem_append_right _ h))) hown hK.1 hP 0 rfl rfl 17 (by decide) (hts _ (List.mem_of_getElem? (i := 2) rfl)) (fun _ h9 => h9) rfl dX5_weights_53 ?_
          refine lv_iconst (v := 1) hx hb dX5_weights_56 (by decide) ?_
          refine lv_iload_n hx hb dX5_weights_57 rfl (lv_at hl 2 rfl) ?_
          refine n_iast (f := upd (f 17) 0 a) hx hb hK.1 hP hD hS 10 0 rfl rfl (i := 1) (by omega) (by decide) dX5_weights_58 (fun H locs hP hD hS => ?_)
          have hP : va_P E.1 vwCl (MW E r (upd v 0 0) (va_up (va_up f 17 (upd (f 17) 0 a)) 17 (upd (upd (f 17) 0 a) 1 b)) B C) H := hP
          have hD : va_D A (MW E r (upd v 0 0) (va_up (va_up f 17 (upd (f 17) 0 a)) 17 (upd (upd (f 17) 0 a) 1 b)) B C) := hD
          refine lv_aload_n hx hb dX5_weights_59 rfl (lv_at hl 0 rfl) ?_
          refine va_get (D := E.1) (ci := 5) (v := .ref (r 17)) (C := RX5) (T := TX5) (N := 26) hx hb hts (fun _ h => (List.mem_cons_of_mem _ (List.mem_append_right _ h))) hown hK.1 hP 0 rfl rfl 17 (by decide) (hts _ (List.mem_of_getElem? (i := 2) rfl)) (fun _ h9 => h9) rfl dX5_weights_60 ?_
          refine lv_iconst (v := 2) hx hb dX5_weights_63 (by decide) ?_
          refine lv_iload_n hx hb dX5_weights_64 rfl (lv_at hl 3 rfl) ?_
          refine n_iast (f := upd (upd (f 17) 0 a) 1 b) hx hb hK.1 hP hD hS 10 0 rfl rfl (i := 2) (by omega) (by decide) dX5_weights_65 (fun H locs hP hD hS => ?_)
          have hP : va_P E.1 vwCl (MW E r (upd v 0 0) (va_up (va_up (va_up f 17 (upd (f 17) 0 a)) 17 (upd (upd (f 17) 0 a) 1 b)) 17 (upd (upd (upd (f 17) 0 a) 1 b) 2 c1)) B C) H := hP
          have hD : va_D A (MW E r (upd v 0 0) (va_up (va_up (va_up f 17 (upd (f 17) 0 a)) 17 (upd (upd (f 17) 0 a) 1 b)) 17 (upd (upd (upd (f 17) 0 a) 1 b) 2 c1)) B C) := hD
          refine lv_iconst (v := 1) hx hb dX5_weights_66 (by decide) ?_
          exact qz_ret (((upd v 0 0), (va_up (va_up (va_up f 17 (upd (f 17) 0 a)) 17 (upd (upd (f 17) 0 a) 1 b)) 17 (upd (upd (upd (f 17) 0 a) 1 b) 2 c1)), B, C) : MS) hx hb hr hlocks rfl (by rw [s_weights, cI_t (by simp_all)]; exact ⟨rfl, rfl⟩) hP hD hS dX5_weights_67
        · skip
          refine lv_iconst (v := 0) hx hb dX5_weights_43 (by decide) ?_
          exact qz_ret (((upd v 0 0), f, B, C) : MS) hx hb hr hlocks rfl (by rw [s_weights, cI_f (by simp_all)]; exact ⟨rfl, rfl⟩) hP hD hS dX5_weights_44
noncomputable def s_price (v : Nat → Int32) (f : Nat → Nat → Int32) (w : Int32) (h : Int32) (n1 : Int32) : AN := cI (m_in w 0 2 ∧ m_in h 0 23 ∧ m_in n1 (-99) 999) (1, upd v 0 0, va_up f 18 (upd (f 18) (24 * w.toNatClampNeg + h.toNatClampNeg) n1)) (0, upd v 0 0, f)
set_option maxHeartbeats 4000000 in
set_option maxRecDepth 100000 in
theorem c_X5_price (l : Launch) (E : GG) (r : Nat → Nat) (v : Nat → Int32) (f : Nat → Nat → Int32) (B C : Nat → Int32) (sz : Nat) (w : Int32) (h : Int32) (n1 : Int32)  : Met l yX5_price wsX5_price (Rm 2 0 0) (pM E [.ref (r 0), .int w, .int h, .int n1] (MW E r v f B C) sz) (va_Qi (fun (x : Int32) (u : MS) => x = (s_price v f w h n1).1 ∧ u = ((s_price v f w h n1).2.1, (s_price v f w h n1).2.2, B, C)) (bM E (va_A (MW E r v f B C) sz) (MWu E r)) (va_A (MW E r v f B C) sz)) 0 0 (va_A (MW E r v f B C) sz) := by
  refine ofM (by decide) rfl (Nat.le_of_ble_eq_true rfl) ?_
  intro p e s m below meth c A hx hb hr hlocks hml hown hin hts hK hP hD hS hA hsz hAe ls hl
  rw [← hAe]
  have hl : lv_has ls 4 [(0, .ref (r 0)), (1, .int w), (2, .int h), (3, .int n1)] := hl
  refine lv_aload_n hx hb dX5_price_0 rfl (lv_at hl 0 rfl) ?_
  refine lv_iconst (v := 0) hx hb dX5_price_1 (by decide) ?_
  refine va_put (D := E.1) (ci := 5) (v := .int 0) (ty := .int) (C := RX5) (T := TX5) (N := 26) hx hb hts (fun _ h => (List.mem_cons_of_mem _ (List.mem_append_right _ h))) tyX5 tyX5_ok nmX5 hown hK.1 hP hD hS 0 rfl rfl 0 (by decide) (hts _ (List.mem_of_getElem? (i := 1) rfl)) (fun _ h9 => h9) rfl (by decide +kernel) rfl rfl (Nat.le_of_ble_eq_true rfl) dX5_price_2 (fun H locs hP hD hS => ?_)
  have hP : va_P E.1 vwCl (MW E r (upd v 0 0) f B C) H := hP
  have hD : va_D A (MW E r (upd v 0 0) f B C) := hD
  refine lv_iload_n hx hb dX5_price_5 rfl (lv_at hl 1 rfl) ?_
  refine cR_S ⟨hx, hb, hml, hown, hts⟩ (c_X5_isWorld l E w) (va_cwS 1 hts gX5_price_X5_isWorld rfl rfl rfl (by decide +kernel) ⟨Nat.le_of_ble_eq_true rfl, Nat.le_of_ble_eq_true rfl⟩) hK nilP rfl hl.1 rfl (Nat.le_of_ble_eq_true rfl) dX5_price_6 ⟨Nat.le_of_ble_eq_true rfl, Nat.le_of_ble_eq_true rfl⟩ ?_
  refine b_if_eq (q := (m_in w 0 2)) (tgt := 31) hx hb dX5_price_9 (by decide) (fun c_1 => ?_) (fun c_1 => ?_)
  · skip
    refine lv_iconst (v := 0) hx hb dX5_price_31 (by decide) ?_
    exact qz_ret (((upd v 0 0), f, B, C) : MS) hx hb hr hlocks rfl (by rw [s_price, cI_f (by simp_all)]; exact ⟨rfl, rfl⟩) hP hD hS dX5_price_32
  · skip
    refine lv_iload_n hx hb dX5_price_12 rfl (lv_at hl 2 rfl) ?_
    refine cR_S ⟨hx, hb, hml, hown, hts⟩ (c_X5_isHour l E h) (va_cwS 1 hts gX5_price_X5_isHour rfl rfl rfl (by decide +kernel) ⟨Nat.le_of_ble_eq_true rfl, Nat.le_of_ble_eq_true rfl⟩) hK nilP rfl hl.1 rfl (Nat.le_of_ble_eq_true rfl) dX5_price_13 ⟨Nat.le_of_ble_eq_true rfl, Nat.le_of_ble_eq_true rfl⟩ ?_
    refine b_if_eq (q := (m_in h 0 23)) (tgt := 31) hx hb dX5_price_16 (by decide) (fun c_2 => ?_) (fun c_2 => ?_)
    · skip
      refine lv_iconst (v := 0) hx hb dX5_price_31 (by decide) ?_
      exact qz_ret (((upd v 0 0), f, B, C) : MS) hx hb hr hlocks rfl (by rw [s_price, cI_f (by simp_all)]; exact ⟨rfl, rfl⟩) hP hD hS dX5_price_32
    · skip
      refine lv_iload_n hx hb dX5_price_19 rfl (lv_at hl 3 rfl) ?_
      refine lv_bipush (v := (-99)) hx hb dX5_price_20 (by decide) ?_
      refine lv_sipush (v := 999) hx hb dX5_price_22 (by decide) ?_
      refine cR_S ⟨hx, hb, hml, hown, hts⟩ (c_X5_within l E n1 (-99) 999) (va_cwS 3 hts gX5_price_X5_within rfl rfl rfl (by decide +kernel) ⟨Nat.le_of_ble_eq_true rfl, Nat.le_of_ble_eq_true rfl⟩) hK nilP rfl hl.1 rfl (Nat.le_of_ble_eq_true rfl) dX5_price_25 ⟨Nat.le_of_ble_eq_true rfl, Nat.le_of_ble_eq_true rfl⟩ ?_
      refine b_if_ne (q := (m_in n1 (-99) 999)) (tgt := 33) hx hb dX5_price_28 (by decide) (fun c_3 => ?_) (fun c_3 => ?_)
      · skip
        have hw := (inN c_1 2 (by decide) (by decide)).2
        have hh := (inN c_2 23 (by decide) (by decide)).2
        refine lv_aload_n hx hb dX5_price_33 rfl (lv_at hl 0 rfl) ?_
        refine va_get (D := E.1) (ci := 5) (v := .ref (r 18)) (C := RX5) (T := TX5) (N := 26) hx hb hts (fun _ h => (List.mem_cons_of_mem _ (List.mem_append_right _ h))) hown hK.1 hP 0 rfl rfl 18 (by decide) (hts _ (List.mem_of_getElem? (i := 2) rfl)) (fun _ h9 => h9) rfl dX5_price_34 ?_
        refine lv_bipush (v := 24) hx hb dX5_price_37 (by decide) ?_
        refine lv_iload_n hx hb dX5_price_39 rfl (lv_at hl 1 rfl) ?_
        refine w_top (show w = nI w.toNatClampNeg from (inN c_1 2 (by decide) (by decide)).1) ?_
        refine lv_imul hx hb dX5_price_40 ?_
        refine w_top (show (24 * (nI w.toNatClampNeg)) = (nI (24 * w.toNatClampNeg)) from pk_mul _ _) ?_
        refine lv_iload_n hx hb dX5_price_41 rfl (lv_at hl 2 rfl) ?_
        refine w_top (show h = nI h.toNatClampNeg from (inN c_2 23 (by decide) (by decide)).1) ?_
        refine lv_iadd hx hb dX5_price_42 ?_
        refine w_top (show ((nI (24 * w.toNatClampNeg)) + (nI h.toNatClampNeg)) = (nI ((24 * w.toNatClampNeg) + h.toNatClampNeg)) from nI_add _ _) ?_
        refine lv_iload_n hx hb dX5_price_43 rfl (lv_at hl 3 rfl) ?_
        refine n_iast (f := f 18) hx hb hK.1 hP hD hS 11 0 rfl rfl (i := (24 * w.toNatClampNeg) + h.toNatClampNeg) (by omega) (by decide) dX5_price_44 (fun H locs hP hD hS => ?_)
        have hP : va_P E.1 vwCl (MW E r (upd v 0 0) (va_up f 18 (upd (f 18) ((24 * w.toNatClampNeg) + h.toNatClampNeg) n1)) B C) H := hP
        have hD : va_D A (MW E r (upd v 0 0) (va_up f 18 (upd (f 18) ((24 * w.toNatClampNeg) + h.toNatClampNeg) n1)) B C) := hD
        refine lv_iconst (v := 1) hx hb dX5_price_45 (by decide) ?_
        exact qz_ret (((upd v 0 0), (va_up f 18 (upd (f 18) ((24 * w.toNatClampNeg) + h.toNatClampNeg) n1)), B, C) : MS) hx hb hr hlocks rfl (by rw [s_price, cI_t (by simp_all)]; exact ⟨rfl, rfl⟩) hP hD hS dX5_price_46
      · skip
        refine lv_iconst (v := 0) hx hb dX5_price_31 (by decide) ?_
        exact qz_ret (((upd v 0 0), f, B, C) : MS) hx hb hr hlocks rfl (by rw [s_price, cI_f (by simp_all)]; exact ⟨rfl, rfl⟩) hP hD hS dX5_price_32
end
section
theorem sw8 (x : Int32) : (x.toInt < 0 ∨ 8 < x.toInt) ∨ x = 0 ∨ x = 1 ∨ x = 2 ∨ x = 3 ∨ x = 4 ∨ x = 5 ∨ x = 6 ∨ x = 7 ∨ x = 8 := by
  by_cases h : x.toInt < 0 ∨ 8 < x.toInt
  · exact Or.inl h
  · have key : ∀ k : Int32, x.toInt = k.toInt → x = k := fun k hk => Int32.toInt_inj.mp hk
    have h0 : x.toInt = 0 ∨ x.toInt = 1 ∨ x.toInt = 2 ∨ x.toInt = 3 ∨ x.toInt = 4 ∨ x.toInt = 5 ∨ x.toInt = 6 ∨ x.toInt = 7 ∨ x.toInt = 8 := by omega
    rcases h0 with q | q | q | q | q | q | q | q | q
    · exact Or.inr (Or.inl (key 0 q))
    · exact Or.inr (Or.inr (Or.inl (key 1 q)))
    · exact Or.inr (Or.inr (Or.inr (Or.inl (key 2 q))))
    · exact Or.inr (Or.inr (Or.inr (Or.inr (Or.inl (key 3 q)))))
    · exact Or.inr (Or.inr (Or.inr (Or.inr (Or.inr (Or.inl (key 4 q))))))
    · exact Or.inr (Or.inr (Or.inr (Or.inr (Or.inr (Or.inr (Or.inl (key 5 q)))))))
    · exact Or.inr (Or.inr (Or.inr (Or.inr (Or.inr (Or.inr (Or.inr (Or.inl (key 6 q))))))))
    · exact Or.inr (Or.inr (Or.inr (Or.inr (Or.inr (Or.inr (Or.inr (Or.inr (Or.inl (key 7 q)))))))))
    · exact Or.inr (Or.inr (Or.inr (Or.inr (Or.inr (Or.inr (Or.inr (Or.inr (Or.inr (key 8 q)))))))))
/-- what the nine numbers are -/
def n_count (g : Nat → Int32) (x : Int32) : Int32 := if x.toInt < 0 ∨ 8 < x.toInt then -1 else g x.toNatClampNeg
def m_cnt (v : Nat → Int32) (f : Nat → Nat → Int32) : Nat → Int32 := fun k => match k with
  | 0 => v 1 | 1 => v 4 | 2 => v 5 | 3 => f 21 0 | 4 => f 21 1 | 5 => v 23 | 6 => f 22 0 | 7 => f 22 1 | _ => v 19
set_option maxHeartbeats 4000000 in
set_option maxRecDepth 100000 in
theorem c_X5_count (l : Launch) (E : GG) (r : Nat → Nat) (v : Nat → Int32) (f : Nat → Nat → Int32) (B C : Nat → Int32) (sz : Nat) (x : Int32)  : Met l yX5_count wsX5_count (Rm 0 0 0) (pM E [.ref (r 0), .int x] (MW E r v f B C) sz) (va_Qi (fun (z : Int32) (u : MS) => z = n_count (m_cnt v f) x ∧ u = (upd v 0 0, f, B, C)) (bM E (va_A (MW E r v f B C) sz) (MWu E r)) (va_A (MW E r v f B C) sz)) 0 0 (va_A (MW E r v f B C) sz) := by
  refine ofM (by decide) rfl (Nat.le_of_ble_eq_true rfl) ?_
  intro p e s m below meth c A hx hb hr hlocks hml hown hin hts hK hP hD hS hA hsz hAe ls hl
  rw [← hAe]
  have hl : lv_has ls 2 [(0, .ref (r 0)), (1, .int x)] := hl
  refine lv_aload_n hx hb dX5_count_0 rfl (lv_at hl 0 rfl) ?_
  refine lv_iconst (v := 0) hx hb dX5_count_1 (by decide) ?_
  refine va_put (D := E.1) (ci := 5) (v := .int 0) (ty := .int) (C := RX5) (T := TX5) (N := 26) hx hb hts (fun _ h => (List.mem_cons_of_mem _ (List.mem_append_right _ h))) tyX5 tyX5_ok nmX5 hown hK.1 hP hD hS 0 rfl rfl 0 (by decide) (hts _ (List.mem_of_getElem? (i := 1) rfl)) (fun _ h9 => h9) rfl (by decide +kernel) rfl rfl (Nat.le_of_ble_eq_true rfl) dX5_count_2 (fun H locs hP hD hS => ?_)
  have hP : va_P E.1 vwCl (MW E r (upd v 0 0) f B C) H := hP
  have hD : va_D A (MW E r (upd v 0 0) f B C) := hD
  refine lv_iload_n hx hb dX5_count_5 rfl (lv_at hl 1 rfl) ?_
  rcases sw8 x with hsw | rfl | rfl | rfl | rfl | rfl | rfl | rfl | rfl | rfl
  · skip
    refine lv_tableOut (tgt := 109) hx hb dX5_count_6 hsw (by decide) ?_
    refine lv_iconst (v := (-1)) hx hb dX5_count_109 (by decide) ?_
    exact q_ret (((upd v 0 0), f, B, C) : MS) hx hb hr hlocks ⟨(if_pos hsw).symm, rfl⟩ hP hD hS dX5_count_110
  · skip
    refine lv_tableIn (off := 50) (tgt := 56) hx hb dX5_count_6 (by decide) (by decide) rfl (by decide) ?_
    refine lv_aload_n hx hb dX5_count_56 rfl (lv_at hl 0 rfl) ?_
    refine va_get (D := E.1) (ci := 5) (v := .int (v 1)) (C := RX5) (T := TX5) (N := 26) hx hb hts (fun _ h => (List.mem_cons_of_mem _ (List.mem_append_right _ h))) hown hK.1 hP 0 rfl rfl 1 (by decide) (hts _ (List.mem_of_getElem? (i := 2) rfl)) (fun _ h9 => h9) rfl dX5_count_57 ?_
    exact q_ret (((upd v 0 0), f, B, C) : MS) hx hb hr hlocks ⟨by rw [n_count, if_neg (by decide)]; rfl, rfl⟩ hP hD hS dX5_count_60
  · skip
    refine lv_tableIn (off := 55) (tgt := 61) hx hb dX5_count_6 (by decide) (by decide) rfl (by decide) ?_
    refine lv_aload_n hx hb dX5_count_61 rfl (lv_at hl 0 rfl) ?_
    refine va_get (D := E.1) (ci := 5) (v := .int (v 4)) (C := RX5) (T := TX5) (N := 26) hx hb hts (fun _ h => (List.mem_cons_of_mem _ (List.mem_append_right _ h))) hown hK.1 hP 0 rfl rfl 4 (by decide) (hts _ (List.mem_of_getElem? (i := 3) rfl)) (fun _ h9 => h9) rfl dX5_count_62 ?_
    exact q_ret (((upd v 0 0), f, B, C) : MS) hx hb hr hlocks ⟨by rw [n_count, if_neg (by decide)]; rfl, rfl⟩ hP hD hS dX5_count_65
  · skip
    refine lv_tableIn (off := 60) (tgt := 66) hx hb dX5_count_6 (by decide) (by decide) rfl (by decide) ?_
    refine lv_aload_n hx hb dX5_count_66 rfl (lv_at hl 0 rfl) ?_
    refine va_get (D := E.1) (ci := 5) (v := .int (v 5)) (C := RX5) (T := TX5) (N := 26) hx hb hts (fun _ h => (List.mem_cons_of_mem _ (List.mem_append_right _ h))) hown hK.1 hP 0 rfl rfl 5 (by decide) (hts _ (List.mem_of_getElem? (i := 4) rfl)) (fun _ h9 => h9) rfl dX5_count_67 ?_
    exact q_ret (((upd v 0 0), f, B, C) : MS) hx hb hr hlocks ⟨by rw [n_count, if_neg (by decide)]; rfl, rfl⟩ hP hD hS dX5_count_70
  · skip
    refine lv_tableIn (off := 65) (tgt := 71) hx hb dX5_count_6 (by decide) (by decide) rfl (by decide) ?_
    refine lv_aload_n hx hb dX5_count_71 rfl (lv_at hl 0 rfl) ?_
    refine va_get (D := E.1) (ci := 5) (v := .ref (r 21)) (C := RX5) (T := TX5) (N := 26) hx hb hts (fun _ h => (List.mem_cons_of_mem _ (List.mem_append_right _ h))) hown hK.1 hP 0 rfl rfl 21 (by decide) (hts _ (List.mem_of_getElem? (i := 5) rfl)) (fun _ h9 => h9) rfl dX5_count_72 ?_
    refine lv_iconst (v := 0) hx hb dX5_count_75 (by decide) ?_
    refine n_iald (f := f 21) hx hb hK.1 hP 12 0 rfl rfl (i := 0) (by omega) (by decide) dX5_count_76 ?_
    exact q_ret (((upd v 0 0), f, B, C) : MS) hx hb hr hlocks ⟨by rw [n_count, if_neg (by decide)]; rfl, rfl⟩ hP hD hS dX5_count_77
  · skip
    refine lv_tableIn (off := 72) (tgt := 78) hx hb dX5_count_6 (by decide) (by decide) rfl (by decide) ?_
    refine lv_aload_n hx hb dX5_count_78 rfl (lv_at hl 0 rfl) ?_
    refine va_get (D := E.1) (ci := 5) (v := .ref (r 21)) (C := RX5) (T := TX5) (N := 26) hx hb hts (fun _ h => (List.mem_cons_of_mem _ (List.mem_append_right _ h))) hown hK.1 hP 0 rfl rfl 21 (by decide) (hts _ (List.mem_of_getElem? (i := 5) rfl)) (fun _ h9 => h9) rfl dX5_count_79 ?_
    refine lv_iconst (v := 1) hx hb dX5_count_82 (by decide) ?_
    refine n_iald (f := f 21) hx hb hK.1 hP 12 0 rfl rfl (i := 1) (by omega) (by decide) dX5_count_83 ?_
    exact q_ret (((upd v 0 0), f, B, C) : MS) hx hb hr hlocks ⟨by rw [n_count, if_neg (by decide)]; rfl, rfl⟩ hP hD hS dX5_count_84
  · skip
    refine lv_tableIn (off := 79) (tgt := 85) hx hb dX5_count_6 (by decide) (by decide) rfl (by decide) ?_
    refine lv_aload_n hx hb dX5_count_85 rfl (lv_at hl 0 rfl) ?_
    refine va_get (D := E.1) (ci := 5) (v := .int (v 23)) (C := RX5) (T := TX5) (N := 26) hx hb hts (fun _ h => (List.mem_cons_of_mem _ (List.mem_append_right _ h))) hown hK.1 hP 0 rfl rfl 23 (by decide) (hts _ (List.mem_of_getElem? (i := 6) rfl)) (fun _ h9 => h9) rfl dX5_count_86 ?_
    exact q_ret (((upd v 0 0), f, B, C) : MS) hx hb hr hlocks ⟨by rw [n_count, if_neg (by decide)]; rfl, rfl⟩ hP hD hS dX5_count_89
  · skip
    refine lv_tableIn (off := 84) (tgt := 90) hx hb dX5_count_6 (by decide) (by decide) rfl (by decide) ?_
    refine lv_aload_n hx hb dX5_count_90 rfl (lv_at hl 0 rfl) ?_
    refine va_get (D := E.1) (ci := 5) (v := .ref (r 22)) (C := RX5) (T := TX5) (N := 26) hx hb hts (fun _ h => (List.mem_cons_of_mem _ (List.mem_append_right _ h))) hown hK.1 hP 0 rfl rfl 22 (by decide) (hts _ (List.mem_of_getElem? (i := 7) rfl)) (fun _ h9 => h9) rfl dX5_count_91 ?_
    refine lv_iconst (v := 0) hx hb dX5_count_94 (by decide) ?_
    refine n_iald (f := f 22) hx hb hK.1 hP 13 0 rfl rfl (i := 0) (by omega) (by decide) dX5_count_95 ?_
    exact q_ret (((upd v 0 0), f, B, C) : MS) hx hb hr hlocks ⟨by rw [n_count, if_neg (by decide)]; rfl, rfl⟩ hP hD hS dX5_count_96
  · skip
    refine lv_tableIn (off := 91) (tgt := 97) hx hb dX5_count_6 (by decide) (by decide) rfl (by decide) ?_
    refine lv_aload_n hx hb dX5_count_97 rfl (lv_at hl 0 rfl) ?_
    refine va_get (D := E.1) (ci := 5) (v := .ref (r 22)) (C := RX5) (T := TX5) (N := 26) hx hb hts (fun _ h => (List.mem_cons_of_mem _ (List.mem_append_right _ h))) hown hK.1 hP 0 rfl rfl 22 (by decide) (hts _ (List.mem_of_getElem? (i := 7) rfl)) (fun _ h9 => h9) rfl dX5_count_98 ?_
    refine lv_iconst (v := 1) hx hb dX5_count_101 (by decide) ?_
    refine n_iald (f := f 22) hx hb hK.1 hP 13 0 rfl rfl (i := 1) (by omega) (by decide) dX5_count_102 ?_
    exact q_ret (((upd v 0 0), f, B, C) : MS) hx hb hr hlocks ⟨by rw [n_count, if_neg (by decide)]; rfl, rfl⟩ hP hD hS dX5_count_103
  · skip
    refine lv_tableIn (off := 98) (tgt := 104) hx hb dX5_count_6 (by decide) (by decide) rfl (by decide) ?_
    refine lv_aload_n hx hb dX5_count_104 rfl (lv_at hl 0 rfl) ?_
    refine va_get (D := E.1) (ci := 5) (v := .int (v 19)) (C := RX5) (T := TX5) (N := 26) hx hb hts (fun _ h => (List.mem_cons_of_mem _ (List.mem_append_right _ h))) hown hK.1 hP 0 rfl rfl 19 (by decide) (hts _ (List.mem_of_getElem? (i := 8) rfl)) (fun _ h9 => h9) rfl dX5_count_105 ?_
    exact q_ret (((upd v 0 0), f, B, C) : MS) hx hb hr hlocks ⟨by rw [n_count, if_neg (by decide)]; rfl, rfl⟩ hP hD hS dX5_count_108
set_option maxHeartbeats 4000000 in
set_option maxRecDepth 100000 in
theorem c_X5_thrown (l : Launch) (E : GG) (r : Nat → Nat) (v : Nat → Int32) (f : Nat → Nat → Int32) (B C : Nat → Int32)   : Met l yX5_thrown wsX5_thrown (Rm 0 0 0) (pR E [.ref (r 0)] (MW E r v f B C)) (QcRead (v 0)) 0 0 (fun _ => False) := by
  refine ofR (by decide) rfl (Nat.le_of_ble_eq_true rfl) ?_
  intro p e s m below meth c hx hb hr hlocks hml hown hts hK hP ls hl
  have hl : lv_has ls 1 [(0, .ref (r 0))] := hl
  refine lv_aload_n hx hb dX5_thrown_0 rfl (lv_at hl 0 rfl) ?_
  refine va_get (D := E.1) (ci := 5) (v := .int (v 0)) (C := RX5) (T := TX5) (N := 26) hx hb hts (fun _ h => (List.mem_cons_of_mem _ (List.mem_append_right _ h))) hown hK.1 hP 0 rfl rfl 0 (by decide) (hts _ (List.mem_of_getElem? (i := 1) rfl)) (fun _ h9 => h9) rfl dX5_thrown_1 ?_
  exact r_ret hx hb hr hlocks (by first | rfl | (simp []; done) | (simp_all; done)) dX5_thrown_4
noncomputable def n_legal (v : Nat → Int32) (f : Nat → Nat → Int32) (nw : Nat) (a b : Int32) : Int32 := cI ((m_in a 0 2 ∧ m_in b 0 2) ∧ ¬ nw = 24) (bI (m_legal v f nw (v 4) (v 5) (f 21 0) (f 21 1) a b)) (-1)
end
section
set_option maxHeartbeats 4000000 in
set_option maxRecDepth 100000 in
theorem c_X5_legal (l : Launch) (E : GG) (r : Nat → Nat) (v : Nat → Int32) (f : Nat → Nat → Int32) (B C : Nat → Int32) (sz : Nat) (a : Int32) (b : Int32) (nw : Nat) (hnw : v 1 = nI nw) (hn24 : nw ≤ 24) : Met l yX5_legal wsX5_legal (Rm 4 0 0) (pM E [.ref (r 0), .int a, .int b] (MW E r v f B C) sz) (va_Qi (fun (z : Int32) (u : MS) => z = n_legal v f nw a b ∧ u = (upd v 0 0, f, B, C)) (bM E (va_A (MW E r v f B C) sz) (MWu E r)) (va_A (MW E r v f B C) sz)) 0 0 (va_A (MW E r v f B C) sz) := by
  refine ofM (by decide) rfl (Nat.le_of_ble_eq_true rfl) ?_
  intro p e s m below meth c A hx hb hr hlocks hml hown hin hts hK hP hD hS hA hsz hAe ls hl
  rw [← hAe]
  have hl : lv_has ls 3 [(0, .ref (r 0)), (1, .int a), (2, .int b)] := hl
  refine lv_aload_n hx hb dX5_legal_0 rfl (lv_at hl 0 rfl) ?_
  refine lv_iconst (v := 0) hx hb dX5_legal_1 (by decide) ?_
  refine va_put (D := E.1) (ci := 5) (v := .int 0) (ty := .int) (C := RX5) (T := TX5) (N := 26) hx hb hts (fun _ h => (List.mem_cons_of_mem _ (List.mem_append_right _ h))) tyX5 tyX5_ok nmX5 hown hK.1 hP hD hS 0 rfl rfl 0 (by decide) (hts _ (List.mem_of_getElem? (i := 1) rfl)) (fun _ h9 => h9) rfl (by decide +kernel) rfl rfl (Nat.le_of_ble_eq_true rfl) dX5_legal_2 (fun H locs hP hD hS => ?_)
  have hP : va_P E.1 vwCl (MW E r (upd v 0 0) f B C) H := hP
  have hD : va_D A (MW E r (upd v 0 0) f B C) := hD
  refine lv_iload_n hx hb dX5_legal_5 rfl (lv_at hl 1 rfl) ?_
  refine lv_iload_n hx hb dX5_legal_6 rfl (lv_at hl 2 rfl) ?_
  refine cR_S ⟨hx, hb, hml, hown, hts⟩ (c_X5_areModes l E a b) (va_cwS 2 hts gX5_legal_X5_areModes rfl rfl rfl (by decide +kernel) ⟨Nat.le_of_ble_eq_true rfl, Nat.le_of_ble_eq_true rfl⟩) hK nilP rfl hl.1 rfl (Nat.le_of_ble_eq_true rfl) dX5_legal_7 ⟨Nat.le_of_ble_eq_true rfl, Nat.le_of_ble_eq_true rfl⟩ ?_
  refine b_if_eq (q := (m_in a 0 2 ∧ m_in b 0 2)) (tgt := 22) hx hb dX5_legal_10 (by decide) (fun c_1 => ?_) (fun c_1 => ?_)
  · skip
    refine lv_iconst (v := (-1)) hx hb dX5_legal_22 (by decide) ?_
    refine lv_goto (tgt := 40) hx hb dX5_legal_23 (by decide) ?_
    exact q_ret (((upd v 0 0), f, B, C) : MS) hx hb hr hlocks ⟨by rw [n_legal, cI_f (by simp_all)], rfl⟩ hP hD hS dX5_legal_40
  · skip
    refine lv_aload_n hx hb dX5_legal_13 rfl (lv_at hl 0 rfl) ?_
    refine va_get (D := E.1) (ci := 5) (v := .int (v 1)) (C := RX5) (T := TX5) (N := 26) hx hb hts (fun _ h => (List.mem_cons_of_mem _ (List.mem_append_right _ h))) hown hK.1 hP 0 rfl rfl 1 (by decide) (hts _ (List.mem_of_getElem? (i := 2) rfl)) (fun _ h9 => h9) rfl dX5_legal_14 ?_
    refine w_top (show (v 1) = nI nw from hnw) ?_
    refine lv_bipush (v := 24) hx hb dX5_legal_17 (by decide) ?_
    refine n_icmp_ne (tgt := 26) (a := nw) (b := 24) hx hb dX5_legal_19 (by decide) (by omega) (by omega) (fun c_2 => ?_) (fun c_2 => ?_)
    · skip
      refine lv_aload_n hx hb dX5_legal_26 rfl (lv_at hl 0 rfl) ?_
      refine lv_iload_n hx hb dX5_legal_27 rfl (lv_at hl 1 rfl) ?_
      refine lv_iload_n hx hb dX5_legal_28 rfl (lv_at hl 2 rfl) ?_
      refine cR_V ⟨hx, hb, hml, hown, hts⟩ (c_X5_isLegalNow l E r (upd v 0 0) f B C a b nw hnw (by omega)) (cwV 2 hts gX5_legal_X5_isLegalNow rfl rfl rfl (by decide +kernel) ⟨Nat.le_of_ble_eq_true rfl, Nat.le_of_ble_eq_true rfl⟩) hK hP 5 0 rfl rfl rfl hl.1 rfl (Nat.le_of_ble_eq_true rfl) dX5_legal_29 ⟨Nat.le_of_ble_eq_true rfl, Nat.le_of_ble_eq_true rfl⟩ ?_
      refine b_if_eq (q := (m_legal (upd v 0 0) f nw ((upd v 0 0) 4) ((upd v 0 0) 5) (f 21 0) (f 21 1) a b)) (tgt := 39) hx hb dX5_legal_32 (by decide) (fun c_3 => ?_) (fun c_3 => ?_)
      · skip
        refine lv_iconst (v := 0) hx hb dX5_legal_39 (by decide) ?_
        exact q_ret (((upd v 0 0), f, B, C) : MS) hx hb hr hlocks ⟨by rw [n_legal, cI_t ⟨c_1, c_2⟩]; exact (bI_f c_3).symm, rfl⟩ hP hD hS dX5_legal_40
      · skip
        refine lv_iconst (v := 1) hx hb dX5_legal_35 (by decide) ?_
        refine lv_goto (tgt := 40) hx hb dX5_legal_36 (by decide) ?_
        exact q_ret (((upd v 0 0), f, B, C) : MS) hx hb hr hlocks ⟨by rw [n_legal, cI_t ⟨c_1, c_2⟩]; exact (bI_t c_3).symm, rfl⟩ hP hD hS dX5_legal_40
    · skip
      refine lv_iconst (v := (-1)) hx hb dX5_legal_22 (by decide) ?_
      refine lv_goto (tgt := 40) hx hb dX5_legal_23 (by decide) ?_
      exact q_ret (((upd v 0 0), f, B, C) : MS) hx hb hr hlocks ⟨by rw [n_legal, cI_f (by simp_all)], rfl⟩ hP hD hS dX5_legal_40
def m_st (p a : Int32) : Int32 := if p = 0 ∧ ¬ a = 0 then 1 else 0
def d_v (v : Nat → Int32) (f : Nat → Nat → Int32) (nw w : Nat) (a b : Int32) : Nat → Int32 := upd (upd (upd (upd v 4 (v 4 + (f 8 nw - m_loses f a b))) 5 (v 5 + (m_loses f a b - f 9 nw))) 23 (v 23 + m_money f w nw (f 21 0) (f 21 1) a b)) 1 (nI (nw + 1))
def d_f (f : Nat → Nat → Int32) (a b : Int32) : Nat → Nat → Int32 := va_up (va_up (va_up (va_up f 22 (upd (f 22) 0 (f 22 0 + m_st (f 21 0) a))) 22 (upd (upd (f 22) 0 (f 22 0 + m_st (f 21 0) a)) 1 (f 22 1 + m_st (f 21 1) b))) 21 (upd (f 21) 0 a)) 21 (upd (upd (f 21) 0 a) 1 b)
set_option maxHeartbeats 4000000 in
set_option maxRecDepth 100000 in
theorem c_X5_does (l : Launch) (E : GG) (r : Nat → Nat) (v : Nat → Int32) (f : Nat → Nat → Int32) (B C : Nat → Int32) (sz : Nat) (a : Int32) (b : Int32) (w : Nat) (hw : w < 3) (nw : Nat) (hnw : v 1 = nI nw) (hn24 : nw < 24) : Met l yX5_does wsX5_does (Rm 1 0 0) (pM E [.ref (r 0), .int a, .int b, .int (nI w)] (MW E r v f B C) sz) (va_Qi (fun (z : Int32) (u : MS) => z = m_money f w nw (f 21 0) (f 21 1) a b ∧ u = (d_v v f nw w a b, d_f f a b, B, C)) (bM E (va_A (MW E r v f B C) sz) (MWu E r)) (va_A (MW E r v f B C) sz)) 0 0 (va_A (MW E r v f B C) sz) := by
  refine ofM (by decide) rfl (Nat.le_of_ble_eq_true rfl) ?_
  intro p e s m below meth c A hx hb hr hlocks hml hown hin hts hK hP hD hS hA hsz hAe ls hl
  rw [← hAe]
  have hl : lv_has ls 6 [(0, .ref (r 0)), (1, .int a), (2, .int b), (3, .int (nI w))] := hl
  refine lv_aload_n hx hb dX5_does_0 rfl (lv_at hl 0 rfl) ?_
  refine lv_iload_n hx hb dX5_does_1 rfl (lv_at hl 3 rfl) ?_
  refine lv_aload_n hx hb dX5_does_2 rfl (lv_at hl 0 rfl) ?_
  refine va_get (D := E.1) (ci := 5) (v := .int (v 1)) (C := RX5) (T := TX5) (N := 26) hx hb hts (fun _ h => (List.mem_cons_of_mem _ (List.mem_append_right _ h))) hown hK.1 hP 0 rfl rfl 1 (by decide) (hts _ (List.mem_of_getElem? (i := 1) rfl)) (fun _ h9 => h9) rfl dX5_does_3 ?_
  refine w_top (show (v 1) = nI nw from hnw) ?_
  refine lv_aload_n hx hb dX5_does_6 rfl (lv_at hl 0 rfl) ?_
  refine va_get (D := E.1) (ci := 5) (v := .ref (r 21)) (C := RX5) (T := TX5) (N := 26) hx hb hts (fun _ h => (List.mem_cons_of_mem _ (List.mem_append_right _ h))) hown hK.1 hP 0 rfl rfl 21 (by decide) (hts _ (List.mem_of_getElem? (i := 2) rfl)) (fun _ h9 => h9) rfl dX5_does_7 ?_
  refine lv_iconst (v := 0) hx hb dX5_does_10 (by decide) ?_
  refine n_iald (f := f 21) hx hb hK.1 hP 12 0 rfl rfl (i := 0) (by omega) (by decide) dX5_does_11 ?_
  refine lv_aload_n hx hb dX5_does_12 rfl (lv_at hl 0 rfl) ?_
  refine va_get (D := E.1) (ci := 5) (v := .ref (r 21)) (C := RX5) (T := TX5) (N := 26) hx hb hts (fun _ h => (List.mem_cons_of_mem _ (List.mem_append_right _ h))) hown hK.1 hP 0 rfl rfl 21 (by decide) (hts _ (List.mem_of_getElem? (i := 2) rfl)) (fun _ h9 => h9) rfl dX5_does_13 ?_
  refine lv_iconst (v := 1) hx hb dX5_does_16 (by decide) ?_
  refine n_iald (f := f 21) hx hb hK.1 hP 12 0 rfl rfl (i := 1) (by omega) (by decide) dX5_does_17 ?_
  refine lv_iload_n hx hb dX5_does_18 rfl (lv_at hl 1 rfl) ?_
  refine lv_iload_n hx hb dX5_does_19 rfl (lv_at hl 2 rfl) ?_
  refine cR_V ⟨hx, hb, hml, hown, hts⟩ (c_X5_money l E r v f B C w nw (f 21 0) (f 21 1) a b (by omega) (by omega)) (cwV 6 hts gX5_does_X5_money rfl rfl rfl (by decide +kernel) ⟨Nat.le_of_ble_eq_true rfl, Nat.le_of_ble_eq_true rfl⟩) hK hP 5 0 rfl rfl rfl hl.1 rfl (Nat.le_of_ble_eq_true rfl) dX5_does_20 ⟨Nat.le_of_ble_eq_true rfl, Nat.le_of_ble_eq_true rfl⟩ ?_
  refine lv_istore (lv' := [(4, .int (m_money f w nw (f 21 0) (f 21 1) a b)), (0, .ref (r 0)), (1, .int a), (2, .int b), (3, .int (nI w))]) hx hb dX5_does_23 hl (by decide) rfl (fun ls hl => ?_)
  refine lv_aload_n hx hb dX5_does_25 rfl (lv_at hl 1 rfl) ?_
  refine lv_iload_n hx hb dX5_does_26 rfl (lv_at hl 2 rfl) ?_
  refine lv_iload_n hx hb dX5_does_27 rfl (lv_at hl 3 rfl) ?_
  refine cR_V ⟨hx, hb, hml, hown, hts⟩ (c_X5_loses l E r v f B C a b) (cwV 2 hts gX5_does_X5_loses rfl rfl rfl (by decide +kernel) ⟨Nat.le_of_ble_eq_true rfl, Nat.le_of_ble_eq_true rfl⟩) hK hP 5 0 rfl rfl rfl hl.1 rfl (Nat.le_of_ble_eq_true rfl) dX5_does_28 ⟨Nat.le_of_ble_eq_true rfl, Nat.le_of_ble_eq_true rfl⟩ ?_
  refine lv_istore (lv' := [(5, .int (m_loses f a b)), (4, .int (m_money f w nw (f 21 0) (f 21 1) a b)), (0, .ref (r 0)), (1, .int a), (2, .int b), (3, .int (nI w))]) hx hb dX5_does_31 hl (by decide) rfl (fun ls hl => ?_)
  refine lv_aload_n hx hb dX5_does_33 rfl (lv_at hl 2 rfl) ?_
  refine va_get (D := E.1) (ci := 5) (v := .ref (r 22)) (C := RX5) (T := TX5) (N := 26) hx hb hts (fun _ h => (List.mem_cons_of_mem _ (List.mem_append_right _ h))) hown hK.1 hP 0 rfl rfl 22 (by decide) (hts _ (List.mem_of_getElem? (i := 3) rfl)) (fun _ h9 => h9) rfl dX5_does_34 ?_
  refine lv_iconst (v := 0) hx hb dX5_does_37 (by decide) ?_
  refine lv_dup2_11 hx hb dX5_does_38 rfl rfl ?_
  refine n_iald (f := f 22) hx hb hK.1 hP 13 0 rfl rfl (i := 0) (by omega) (by decide) dX5_does_39 ?_
  refine w_join (fun x : Int32 => x = m_st (f 21 0) a) (fun x => F0 m 58 ls (.int x :: [.int (f 22 0), .int 0, .ref (r 22)])) ?_ (fun J58 => ?_)
  · rintro _ rfl
    refine lv_iadd hx hb dX5_does_58 ?_
    refine n_iast (f := f 22) hx hb hK.1 hP hD hS 13 0 rfl rfl (i := 0) (by omega) (by decide) dX5_does_59 (fun H locs hP hD hS => ?_)
    have hP : va_P E.1 vwCl (MW E r v (va_up f 22 (upd (f 22) 0 ((f 22 0) + (m_st (f 21 0) a)))) B C) H := hP
    have hD : va_D A (MW E r v (va_up f 22 (upd (f 22) 0 ((f 22 0) + (m_st (f 21 0) a)))) B C) := hD
    refine lv_aload_n hx hb dX5_does_60 rfl (lv_at hl 2 rfl) ?_
    refine va_get (D := E.1) (ci := 5) (v := .ref (r 22)) (C := RX5) (T := TX5) (N := 26) hx hb hts (fun _ h => (List.mem_cons_of_mem _ (List.mem_append_right _ h))) hown hK.1 hP 0 rfl rfl 22 (by decide) (hts _ (List.mem_of_getElem? (i := 3) rfl)) (fun _ h9 => h9) rfl dX5_does_61 ?_
    refine lv_iconst (v := 1) hx hb dX5_does_64 (by decide) ?_
    refine lv_dup2_11 hx hb dX5_does_65 rfl rfl ?_
    refine n_iald (f := upd (f 22) 0 ((f 22 0) + (m_st (f 21 0) a))) hx hb hK.1 hP 13 0 rfl rfl (i := 1) (by omega) (by decide) dX5_does_66 ?_
    refine w_top (show _ = f 22 1 from rfl) ?_
    refine w_join (fun x : Int32 => x = m_st (f 21 1) b) (fun x => F0 m 85 ls (.int x :: [.int (f 22 1), .int 1, .ref (r 22)])) ?_ (fun J85 => ?_)
    · rintro _ rfl
      refine lv_iadd hx hb dX5_does_85 ?_
      refine n_iast (f := upd (f 22) 0 ((f 22 0) + (m_st (f 21 0) a))) hx hb hK.1 hP hD hS 13 0 rfl rfl (i := 1) (by omega) (by decide) dX5_does_86 (fun H locs hP hD hS => ?_)
      have hP : va_P E.1 vwCl (MW E r v (va_up (va_up f 22 (upd (f 22) 0 ((f 22 0) + (m_st (f 21 0) a)))) 22 (upd (upd (f 22) 0 ((f 22 0) + (m_st (f 21 0) a))) 1 ((f 22 1) + (m_st (f 21 1) b)))) B C) H := hP
      have hD : va_D A (MW E r v (va_up (va_up f 22 (upd (f 22) 0 ((f 22 0) + (m_st (f 21 0) a)))) 22 (upd (upd (f 22) 0 ((f 22 0) + (m_st (f 21 0) a))) 1 ((f 22 1) + (m_st (f 21 1) b)))) B C) := hD
      refine lv_aload_n hx hb dX5_does_87 rfl (lv_at hl 2 rfl) ?_
      refine lv_dup hx hb dX5_does_88 rfl ?_
      refine va_get (D := E.1) (ci := 5) (v := .int (v 4)) (C := RX5) (T := TX5) (N := 26) hx hb hts (fun _ h => (List.mem_cons_of_mem _ (List.mem_append_right _ h))) hown hK.1 hP 0 rfl rfl 4 (by decide) (hts _ (List.mem_of_getElem? (i := 4) rfl)) (fun _ h9 => h9) rfl dX5_does_89 ?_
      refine lv_aload_n hx hb dX5_does_92 rfl (lv_at hl 2 rfl) ?_
      refine va_get (D := E.1) (ci := 5) (v := .ref (r 8)) (C := RX5) (T := TX5) (N := 26) hx hb hts (fun _ h => (List.mem_cons_of_mem _ (List.mem_append_right _ h))) hown hK.1 hP 0 rfl rfl 8 (by decide) (hts _ (List.mem_of_getElem? (i := 5) rfl)) (fun _ h9 => h9) rfl dX5_does_93 ?_
      refine lv_aload_n hx hb dX5_does_96 rfl (lv_at hl 2 rfl) ?_
      refine va_get (D := E.1) (ci := 5) (v := .int (v 1)) (C := RX5) (T := TX5) (N := 26) hx hb hts (fun _ h => (List.mem_cons_of_mem _ (List.mem_append_right _ h))) hown hK.1 hP 0 rfl rfl 1 (by decide) (hts _ (List.mem_of_getElem? (i := 1) rfl)) (fun _ h9 => h9) rfl dX5_does_97 ?_
      refine w_top (show (v 1) = nI nw from hnw) ?_
      refine n_iald (f := f 8) hx hb hK.1 hP 1 0 rfl rfl (i := nw) (by omega) (by decide) dX5_does_100 ?_
      refine lv_iload hx hb dX5_does_101 (lv_at hl 0 rfl) ?_
      refine lv_isub hx hb dX5_does_103 ?_
      refine lv_iadd hx hb dX5_does_104 ?_
      refine va_put (D := E.1) (ci := 5) (v := .int ((v 4) + ((f 8 nw) - (m_loses f a b)))) (ty := .int) (C := RX5) (T := TX5) (N := 26) hx hb hts (fun _ h => (List.mem_cons_of_mem _ (List.mem_append_right _ h))) tyX5 tyX5_ok nmX5 hown hK.1 hP hD hS 0 rfl rfl 4 (by decide) (hts _ (List.mem_of_getElem? (i := 4) rfl)) (fun _ h9 => h9) rfl (by decide +kernel) rfl rfl (Nat.le_of_ble_eq_true rfl) dX5_does_105 (fun H locs hP hD hS => ?_)
      have hP : va_P E.1 vwCl (MW E r (upd v 4 ((v 4) + ((f 8 nw) - (m_loses f a b)))) (va_up (va_up f 22 (upd (f 22) 0 ((f 22 0) + (m_st (f 21 0) a)))) 22 (upd (upd (f 22) 0 ((f 22 0) + (m_st (f 21 0) a))) 1 ((f 22 1) + (m_st (f 21 1) b)))) B C) H := hP
      have hD : va_D A (MW E r (upd v 4 ((v 4) + ((f 8 nw) - (m_loses f a b)))) (va_up (va_up f 22 (upd (f 22) 0 ((f 22 0) + (m_st (f 21 0) a)))) 22 (upd (upd (f 22) 0 ((f 22 0) + (m_st (f 21 0) a))) 1 ((f 22 1) + (m_st (f 21 1) b)))) B C) := hD
      refine lv_aload_n hx hb dX5_does_108 rfl (lv_at hl 2 rfl) ?_
      refine lv_dup hx hb dX5_does_109 rfl ?_
      refine va_get (D := E.1) (ci := 5) (v := .int (v 5)) (C := RX5) (T := TX5) (N := 26) hx hb hts (fun _ h => (List.mem_cons_of_mem _ (List.mem_append_right _ h))) hown hK.1 hP 0 rfl rfl 5 (by decide) (hts _ (List.mem_of_getElem? (i := 6) rfl)) (fun _ h9 => h9) rfl dX5_does_110 ?_
      refine lv_iload hx hb dX5_does_113 (lv_at hl 0 rfl) ?_
      refine lv_aload_n hx hb dX5_does_115 rfl (lv_at hl 2 rfl) ?_
      refine va_get (D := E.1) (ci := 5) (v := .ref (r 9)) (C := RX5) (T := TX5) (N := 26) hx hb hts (fun _ h => (List.mem_cons_of_mem _ (List.mem_append_right _ h))) hown hK.1 hP 0 rfl rfl 9 (by decide) (hts _ (List.mem_of_getElem? (i := 7) rfl)) (fun _ h9 => h9) rfl dX5_does_116 ?_
      refine lv_aload_n hx hb dX5_does_119 rfl (lv_at hl 2 rfl) ?_
      refine va_get (D := E.1) (ci := 5) (v := .int (v 1)) (C := RX5) (T := TX5) (N := 26) hx hb hts (fun _ h => (List.mem_cons_of_mem _ (List.mem_append_right _ h))) hown hK.1 hP 0 rfl rfl 1 (by decide) (hts _ (List.mem_of_getElem? (i := 1) rfl)) (fun _ h9 => h9) rfl dX5_does_120 ?_
      refine w_top (show (v 1) = nI nw from hnw) ?_
      refine n_iald (f := f 9) hx hb hK.1 hP 2 0 rfl rfl (i := nw) (by omega) (by decide) dX5_does_123 ?_
      refine lv_isub hx hb dX5_does_124 ?_
      refine lv_iadd hx hb dX5_does_125 ?_
      refine va_put (D := E.1) (ci := 5) (v := .int ((v 5) + ((m_loses f a b) - (f 9 nw)))) (ty := .int) (C := RX5) (T := TX5) (N := 26) hx hb hts (fun _ h => (List.mem_cons_of_mem _ (List.mem_append_right _ h))) tyX5 tyX5_ok nmX5 hown hK.1 hP hD hS 0 rfl rfl 5 (by decide) (hts _ (List.mem_of_getElem? (i := 6) rfl)) (fun _ h9 => h9) rfl (by decide +kernel) rfl rfl (Nat.le_of_ble_eq_true rfl) dX5_does_126 (fun H locs hP hD hS => ?_)
      have hP : va_P E.1 vwCl (MW E r (upd (upd v 4 ((v 4) + ((f 8 nw) - (m_loses f a b)))) 5 ((v 5) + ((m_loses f a b) - (f 9 nw)))) (va_up (va_up f 22 (upd (f 22) 0 ((f 22 0) + (m_st (f 21 0) a)))) 22 (upd (upd (f 22) 0 ((f 22 0) + (m_st (f 21 0) a))) 1 ((f 22 1) + (m_st (f 21 1) b)))) B C) H := hP
      have hD : va_D A (MW E r (upd (upd v 4 ((v 4) + ((f 8 nw) - (m_loses f a b)))) 5 ((v 5) + ((m_loses f a b) - (f 9 nw)))) (va_up (va_up f 22 (upd (f 22) 0 ((f 22 0) + (m_st (f 21 0) a)))) 22 (upd (upd (f 22) 0 ((f 22 0) + (m_st (f 21 0) a))) 1 ((f 22 1) + (m_st (f 21 1) b)))) B C) := hD
      refine lv_aload_n hx hb dX5_does_129 rfl (lv_at hl 2 rfl) ?_
      refine va_get (D := E.1) (ci := 5) (v := .ref (r 21)) (C := RX5) (T := TX5) (N := 26) hx hb hts (fun _ h => (List.mem_cons_of_mem _ (List.mem_append_right _ h))) hown hK.1 hP 0 rfl rfl 21 (by decide) (hts _ (List.mem_of_getElem? (i := 2) rfl)) (fun _ h9 => h9) rfl dX5_does_130 ?_
      refine lv_iconst (v := 0) hx hb dX5_does_133 (by decide) ?_
      refine lv_iload_n hx hb dX5_does_134 rfl (lv_at hl 3 rfl) ?_
      refine n_iast (f := f 21) hx hb hK.1 hP hD hS 12 0 rfl rfl (i := 0) (by omega) (by decide) dX5_does_135 (fun H locs hP hD hS => ?_)
      have hP : va_P E.1 vwCl (MW E r (upd (upd v 4 ((v 4) + ((f 8 nw) - (m_loses f a b)))) 5 ((v 5) + ((m_loses f a b) - (f 9 nw)))) (va_up (va_up (va_up f 22 (upd (f 22) 0 ((f 22 0) + (m_st (f 21 0) a)))) 22 (upd (upd (f 22) 0 ((f 22 0) + (m_st (f 21 0) a))) 1 ((f 22 1) + (m_st (f 21 1) b)))) 21 (upd (f 21) 0 a)) B C) H := hP
      have hD : va_D A (MW E r (upd (upd v 4 ((v 4) + ((f 8 nw) - (m_loses f a b)))) 5 ((v 5) + ((m_loses f a b) - (f 9 nw)))) (va_up (va_up (va_up f 22 (upd (f 22) 0 ((f 22 0) + (m_st (f 21 0) a)))) 22 (upd (upd (f 22) 0 ((f 22 0) + (m_st (f 21 0) a))) 1 ((f 22 1) + (m_st (f 21 1) b)))) 21 (upd (f 21) 0 a)) B C) := hD
      refine lv_aload_n hx hb dX5_does_136 rfl (lv_at hl 2 rfl) ?_
      refine va_get (D := E.1) (ci := 5) (v := .ref (r 21)) (C := RX5) (T := TX5) (N := 26) hx hb hts (fun _ h => (List.mem_cons_of_mem _ (List.mem_append_right _ h))) hown hK.1 hP 0 rfl rfl 21 (by decide) (hts _ (List.mem_of_getElem? (i := 2) rfl)) (fun _ h9 => h9) rfl dX5_does_137 ?_
      refine lv_iconst (v := 1) hx hb dX5_does_140 (by decide) ?_
      refine lv_iload_n hx hb dX5_does_141 rfl (lv_at hl 4 rfl) ?_
      refine n_iast (f := upd (f 21) 0 a) hx hb hK.1 hP hD hS 12 0 rfl rfl (i := 1) (by omega) (by decide) dX5_does_142 (fun H locs hP hD hS => ?_)
      have hP : va_P E.1 vwCl (MW E r (upd (upd v 4 ((v 4) + ((f 8 nw) - (m_loses f a b)))) 5 ((v 5) + ((m_loses f a b) - (f 9 nw)))) (va_up (va_up (va_up (va_up f 22 (upd (f 22) 0 ((f 22 0) + (m_st (f 21 0) a)))) 22 (upd (upd (f 22) 0 ((f 22 0) + (m_st (f 21 0) a))) 1 ((f 22 1) + (m_st (f 21 1) b)))) 21 (upd (f 21) 0 a)) 21 (upd (upd (f 21) 0 a) 1 b)) B C) H := hP
      have hD : va_D A (MW E r (upd (upd v 4 ((v 4) + ((f 8 nw) - (m_loses f a b)))) 5 ((v 5) + ((m_loses f a b) - (f 9 nw)))) (va_up (va_up (va_up (va_up f 22 (upd (f 22) 0 ((f 22 0) + (m_st (f 21 0) a)))) 22 (upd (upd (f 22) 0 ((f 22 0) + (m_st (f 21 0) a))) 1 ((f 22 1) + (m_st (f 21 1) b)))) 21 (upd (f 21) 0 a)) 21 (upd (upd (f 21) 0 a) 1 b)) B C) := hD
      refine lv_aload_n hx hb dX5_does_143 rfl (lv_at hl 2 rfl) ?_
      refine lv_dup hx hb dX5_does_144 rfl ?_
      refine va_get (D := E.1) (ci := 5) (v := .int (v 23)) (C := RX5) (T := TX5) (N := 26) hx hb hts (fun _ h => (List.mem_cons_of_mem _ (List.mem_append_right _ h))) hown hK.1 hP 0 rfl rfl 23 (by decide) (hts _ (List.mem_of_getElem? (i := 8) rfl)) (fun _ h9 => h9) rfl dX5_does_145 ?_
      refine lv_iload hx hb dX5_does_148 (lv_at hl 1 rfl) ?_
      refine lv_iadd hx hb dX5_does_150 ?_
      refine va_put (D := E.1) (ci := 5) (v := .int ((v 23) + (m_money f w nw (f 21 0) (f 21 1) a b))) (ty := .int) (C := RX5) (T := TX5) (N := 26) hx hb hts (fun _ h => (List.mem_cons_of_mem _ (List.mem_append_right _ h))) tyX5 tyX5_ok nmX5 hown hK.1 hP hD hS 0 rfl rfl 23 (by decide) (hts _ (List.mem_of_getElem? (i := 8) rfl)) (fun _ h9 => h9) rfl (by decide +kernel) rfl rfl (Nat.le_of_ble_eq_true rfl) dX5_does_151 (fun H locs hP hD hS => ?_)
      have hP : va_P E.1 vwCl (MW E r (upd (upd (upd v 4 ((v 4) + ((f 8 nw) - (m_loses f a b)))) 5 ((v 5) + ((m_loses f a b) - (f 9 nw)))) 23 ((v 23) + (m_money f w nw (f 21 0) (f 21 1) a b))) (va_up (va_up (va_up (va_up f 22 (upd (f 22) 0 ((f 22 0) + (m_st (f 21 0) a)))) 22 (upd (upd (f 22) 0 ((f 22 0) + (m_st (f 21 0) a))) 1 ((f 22 1) + (m_st (f 21 1) b)))) 21 (upd (f 21) 0 a)) 21 (upd (upd (f 21) 0 a) 1 b)) B C) H := hP
      have hD : va_D A (MW E r (upd (upd (upd v 4 ((v 4) + ((f 8 nw) - (m_loses f a b)))) 5 ((v 5) + ((m_loses f a b) - (f 9 nw)))) 23 ((v 23) + (m_money f w nw (f 21 0) (f 21 1) a b))) (va_up (va_up (va_up (va_up f 22 (upd (f 22) 0 ((f 22 0) + (m_st (f 21 0) a)))) 22 (upd (upd (f 22) 0 ((f 22 0) + (m_st (f 21 0) a))) 1 ((f 22 1) + (m_st (f 21 1) b)))) 21 (upd (f 21) 0 a)) 21 (upd (upd (f 21) 0 a) 1 b)) B C) := hD
      refine lv_aload_n hx hb dX5_does_154 rfl (lv_at hl 2 rfl) ?_
      refine lv_dup hx hb dX5_does_155 rfl ?_
      refine va_get (D := E.1) (ci := 5) (v := .int (v 1)) (C := RX5) (T := TX5) (N := 26) hx hb hts (fun _ h => (List.mem_cons_of_mem _ (List.mem_append_right _ h))) hown hK.1 hP 0 rfl rfl 1 (by decide) (hts _ (List.mem_of_getElem? (i := 1) rfl)) (fun _ h9 => h9) rfl dX5_does_156 ?_
      refine w_top (show (v 1) = nI nw from hnw) ?_
      refine lv_iconst (v := 1) hx hb dX5_does_159 (by decide) ?_
      refine lv_iadd hx hb dX5_does_160 ?_
      refine w_top (show ((nI nw) + 1) = (nI (nw + 1)) from nI_add _ _) ?_
      refine va_put (D := E.1) (ci := 5) (v := .int (nI (nw + 1))) (ty := .int) (C := RX5) (T := TX5) (N := 26) hx hb hts (fun _ h => (List.mem_cons_of_mem _ (List.mem_append_right _ h))) tyX5 tyX5_ok nmX5 hown hK.1 hP hD hS 0 rfl rfl 1 (by decide) (hts _ (List.mem_of_getElem? (i := 1) rfl)) (fun _ h9 => h9) rfl (by decide +kernel) rfl rfl (Nat.le_of_ble_eq_true rfl) dX5_does_161 (fun H locs hP hD hS => ?_)
      have hP : va_P E.1 vwCl (MW E r (upd (upd (upd (upd v 4 ((v 4) + ((f 8 nw) - (m_loses f a b)))) 5 ((v 5) + ((m_loses f a b) - (f 9 nw)))) 23 ((v 23) + (m_money f w nw (f 21 0) (f 21 1) a b))) 1 (nI (nw + 1))) (va_up (va_up (va_up (va_up f 22 (upd (f 22) 0 ((f 22 0) + (m_st (f 21 0) a)))) 22 (upd (upd (f 22) 0 ((f 22 0) + (m_st (f 21 0) a))) 1 ((f 22 1) + (m_st (f 21 1) b)))) 21 (upd (f 21) 0 a)) 21 (upd (upd (f 21) 0 a) 1 b)) B C) H := hP
      have hD : va_D A (MW E r (upd (upd (upd (upd v 4 ((v 4) + ((f 8 nw) - (m_loses f a b)))) 5 ((v 5) + ((m_loses f a b) - (f 9 nw)))) 23 ((v 23) + (m_money f w nw (f 21 0) (f 21 1) a b))) 1 (nI (nw + 1))) (va_up (va_up (va_up (va_up f 22 (upd (f 22) 0 ((f 22 0) + (m_st (f 21 0) a)))) 22 (upd (upd (f 22) 0 ((f 22 0) + (m_st (f 21 0) a))) 1 ((f 22 1) + (m_st (f 21 1) b)))) 21 (upd (f 21) 0 a)) 21 (upd (upd (f 21) 0 a) 1 b)) B C) := hD
      refine lv_iload hx hb dX5_does_164 (lv_at hl 1 rfl) ?_
      exact q_ret (((upd (upd (upd (upd v 4 ((v 4) + ((f 8 nw) - (m_loses f a b)))) 5 ((v 5) + ((m_loses f a b) - (f 9 nw)))) 23 ((v 23) + (m_money f w nw (f 21 0) (f 21 1) a b))) 1 (nI (nw + 1))), (va_up (va_up (va_up (va_up f 22 (upd (f 22) 0 ((f 22 0) + (m_st (f 21 0) a)))) 22 (upd (upd (f 22) 0 ((f 22 0) + (m_st (f 21 0) a))) 1 ((f 22 1) + (m_st (f 21 1) b)))) 21 (upd (f 21) 0 a)) 21 (upd (upd (f 21) 0 a) 1 b)), B, C) : MS) hx hb hr hlocks ⟨rfl, rfl⟩ hP hD hS dX5_does_166
    · skip
      refine w_top (show _ = f 22 1 from rfl) ?_
      refine lv_aload_n hx hb dX5_does_67 rfl (lv_at hl 2 rfl) ?_
      refine va_get (D := E.1) (ci := 5) (v := .ref (r 21)) (C := RX5) (T := TX5) (N := 26) hx hb hts (fun _ h => (List.mem_cons_of_mem _ (List.mem_append_right _ h))) hown hK.1 hP 0 rfl rfl 21 (by decide) (hts _ (List.mem_of_getElem? (i := 2) rfl)) (fun _ h9 => h9) rfl dX5_does_68 ?_
      refine lv_iconst (v := 1) hx hb dX5_does_71 (by decide) ?_
      refine n_iald (f := f 21) hx hb hK.1 hP 12 0 rfl rfl (i := 1) (by omega) (by decide) dX5_does_72 ?_
      refine lv_if_ne (tgt := 84) hx hb dX5_does_73 (by decide) (fun c_1 => ?_) (fun c_1 => ?_)
      · skip
        refine lv_iconst (v := 0) hx hb dX5_does_84 (by decide) ?_
        exact J85 _ (by first | rfl | (simp [m_st, c_1]; done) | (simp only [m_st, c_1, if_true, if_false, reduceIte, not_true_eq_false, not_false_eq_true]; done) | (simp only [m_st]; split <;> first | rfl | (simp_all; done) | omega) | (simp_all [m_st]; done))
      · skip
        refine lv_iload_n hx hb dX5_does_76 rfl (lv_at hl 4 rfl) ?_
        refine lv_if_eq (tgt := 84) hx hb dX5_does_77 (by decide) (fun c_2 => ?_) (fun c_2 => ?_)
        · skip
          refine lv_iconst (v := 0) hx hb dX5_does_84 (by decide) ?_
          exact J85 _ (by first | rfl | (simp [m_st, c_1, c_2]; done) | (simp only [m_st, c_1, c_2, if_true, if_false, reduceIte, not_true_eq_false, not_false_eq_true]; done) | (simp only [m_st]; split <;> first | rfl | (simp_all; done) | omega) | (simp_all [m_st]; done))
        · skip
          refine lv_iconst (v := 1) hx hb dX5_does_80 (by decide) ?_
          refine lv_goto (tgt := 85) hx hb dX5_does_81 (by decide) ?_
          exact J85 _ (by first | rfl | (simp [m_st, c_1, c_2]; done) | (simp only [m_st, c_1, c_2, if_true, if_false, reduceIte, not_true_eq_false, not_false_eq_true]; done) | (simp only [m_st]; split <;> first | rfl | (simp_all; done) | omega) | (simp_all [m_st]; done))
  · skip
    refine lv_aload_n hx hb dX5_does_40 rfl (lv_at hl 2 rfl) ?_
    refine va_get (D := E.1) (ci := 5) (v := .ref (r 21)) (C := RX5) (T := TX5) (N := 26) hx hb hts (fun _ h => (List.mem_cons_of_mem _ (List.mem_append_right _ h))) hown hK.1 hP 0 rfl rfl 21 (by decide) (hts _ (List.mem_of_getElem? (i := 2) rfl)) (fun _ h9 => h9) rfl dX5_does_41 ?_
    refine lv_iconst (v := 0) hx hb dX5_does_44 (by decide) ?_
    refine n_iald (f := f 21) hx hb hK.1 hP 12 0 rfl rfl (i := 0) (by omega) (by decide) dX5_does_45 ?_
    refine lv_if_ne (tgt := 57) hx hb dX5_does_46 (by decide) (fun c_3 => ?_) (fun c_3 => ?_)
    · skip
      refine lv_iconst (v := 0) hx hb dX5_does_57 (by decide) ?_
      exact J58 _ (by first | rfl | (simp [m_st, c_3]; done) | (simp only [m_st, c_3, if_true, if_false, reduceIte, not_true_eq_false, not_false_eq_true]; done) | (simp only [m_st]; split <;> first | rfl | (simp_all; done) | omega) | (simp_all [m_st]; done))
    · skip
      refine lv_iload_n hx hb dX5_does_49 rfl (lv_at hl 3 rfl) ?_
      refine lv_if_eq (tgt := 57) hx hb dX5_does_50 (by decide) (fun c_4 => ?_) (fun c_4 => ?_)
      · skip
        refine lv_iconst (v := 0) hx hb dX5_does_57 (by decide) ?_
        exact J58 _ (by first | rfl | (simp [m_st, c_3, c_4]; done) | (simp only [m_st, c_3, c_4, if_true, if_false, reduceIte, not_true_eq_false, not_false_eq_true]; done) | (simp only [m_st]; split <;> first | rfl | (simp_all; done) | omega) | (simp_all [m_st]; done))
      · skip
        refine lv_iconst (v := 1) hx hb dX5_does_53 (by decide) ?_
        refine lv_goto (tgt := 58) hx hb dX5_does_54 (by decide) ?_
        exact J58 _ (by first | rfl | (simp [m_st, c_3, c_4]; done) | (simp only [m_st, c_3, c_4, if_true, if_false, reduceIte, not_true_eq_false, not_false_eq_true]; done) | (simp only [m_st]; split <;> first | rfl | (simp_all; done) | omega) | (simp_all [m_st]; done))
end
section
/-- a stretch of a row is filled -/
def rowF (g : Nat → Int32) (a b : Nat) (y : Int32) : Nat → Int32 := fun j => if a ≤ j ∧ j < b then y else g j
theorem rowF_0 (g : Nat → Int32) (a : Nat) (y : Int32) : rowF g a a y = g := by
  funext j
  exact if_neg (by omega)
theorem rowF_s {g : Nat → Int32} {a b : Nat} {y : Int32} (h : a ≤ b) : upd (rowF g a b y) b y = rowF g a (b + 1) y := by
  funext j
  show (if j = b then y else if a ≤ j ∧ j < b then y else g j) = if a ≤ j ∧ j < b + 1 then y else g j
  by_cases h1 : j = b
  · rw [if_pos h1, if_pos (by omega)]
  · rw [if_neg h1]
    by_cases h2 : a ≤ j ∧ j < b
    · rw [if_pos h2, if_pos (by omega)]
    · rw [if_neg h2, if_neg (by omega)]
noncomputable def s_out (v : Nat → Int32) (f : Nat → Nat → Int32) (k fr to y : Int32) : AN := cI (m_in k 0 1 ∧ m_in fr 0 23 ∧ m_in to 0 23 ∧ fr ≤ to) (1, upd v 0 0, va_up f 16 (rowF (f 16) (24 * k.toNatClampNeg + fr.toNatClampNeg) (24 * k.toNatClampNeg + to.toNatClampNeg + 1) y)) (0, upd v 0 0, f)
set_option maxHeartbeats 4000000 in
set_option maxRecDepth 100000 in
theorem c_X5_out (l : Launch) (E : GG) (r : Nat → Nat) (v : Nat → Int32) (f : Nat → Nat → Int32) (B C : Nat → Int32) (sz : Nat) (k : Int32) (fr : Int32) (to : Int32) (y : Int32) (hy : vp_nar .boolean y = y) : Met l yX5_out wsX5_out (Rm 2 0 0) (pM E [.ref (r 0), .int k, .int fr, .int to, .int y] (MW E r v f B C) sz) (va_Qi (fun (x : Int32) (u : MS) => x = (s_out v f k fr to y).1 ∧ u = ((s_out v f k fr to y).2.1, (s_out v f k fr to y).2.2, B, C)) (bM E (va_A (MW E r v f B C) sz) (MWu E r)) (va_A (MW E r v f B C) sz)) 0 0 (va_A (MW E r v f B C) sz) := by
  refine ofM (by decide) rfl (Nat.le_of_ble_eq_true rfl) ?_
  intro p e s m below meth c A hx hb hr hlocks hml hown hin hts hK hP hD hS hA hsz hAe ls hl
  rw [← hAe]
  have hl : lv_has ls 6 [(0, .ref (r 0)), (1, .int k), (2, .int fr), (3, .int to), (4, .int y)] := hl
  refine lv_aload_n hx hb dX5_out_0 rfl (lv_at hl 0 rfl) ?_
  refine lv_iconst (v := 0) hx hb dX5_out_1 (by decide) ?_
  refine va_put (D := E.1) (ci := 5) (v := .int 0) (ty := .int) (C := RX5) (T := TX5) (N := 26) hx hb hts (fun _ h => (List.mem_cons_of_mem _ (List.mem_append_right _ h))) tyX5 tyX5_ok nmX5 hown hK.1 hP hD hS 0 rfl rfl 0 (by decide) (hts _ (List.mem_of_getElem? (i := 1) rfl)) (fun _ h9 => h9) rfl (by decide +kernel) rfl rfl (Nat.le_of_ble_eq_true rfl) dX5_out_2 (fun H locs hP hD hS => ?_)
  have hP : va_P E.1 vwCl (MW E r (upd v 0 0) f B C) H := hP
  have hD : va_D A (MW E r (upd v 0 0) f B C) := hD
  refine lv_iload_n hx hb dX5_out_5 rfl (lv_at hl 1 rfl) ?_
  refine lv_iconst (v := 0) hx hb dX5_out_6 (by decide) ?_
  refine lv_iconst (v := 1) hx hb dX5_out_7 (by decide) ?_
  refine cR_S ⟨hx, hb, hml, hown, hts⟩ (c_X5_within l E k 0 1) (va_cwS 3 hts gX5_out_X5_within rfl rfl rfl (by decide +kernel) ⟨Nat.le_of_ble_eq_true rfl, Nat.le_of_ble_eq_true rfl⟩) hK nilP rfl hl.1 rfl (Nat.le_of_ble_eq_true rfl) dX5_out_8 ⟨Nat.le_of_ble_eq_true rfl, Nat.le_of_ble_eq_true rfl⟩ ?_
  refine b_if_eq (q := (m_in k 0 1)) (tgt := 33) hx hb dX5_out_11 (by decide) (fun c_1 => ?_) (fun c_1 => ?_)
  · skip
    refine lv_iconst (v := 0) hx hb dX5_out_33 (by decide) ?_
    exact qz_ret (((upd v 0 0), f, B, C) : MS) hx hb hr hlocks rfl (by rw [s_out, cI_f (by simp_all)]; exact ⟨rfl, rfl⟩) hP hD hS dX5_out_34
  · skip
    refine lv_iload_n hx hb dX5_out_14 rfl (lv_at hl 2 rfl) ?_
    refine cR_S ⟨hx, hb, hml, hown, hts⟩ (c_X5_isHour l E fr) (va_cwS 1 hts gX5_out_X5_isHour rfl rfl rfl (by decide +kernel) ⟨Nat.le_of_ble_eq_true rfl, Nat.le_of_ble_eq_true rfl⟩) hK nilP rfl hl.1 rfl (Nat.le_of_ble_eq_true rfl) dX5_out_15 ⟨Nat.le_of_ble_eq_true rfl, Nat.le_of_ble_eq_true rfl⟩ ?_
    refine b_if_eq (q := (m_in fr 0 23)) (tgt := 33) hx hb dX5_out_18 (by decide) (fun c_2 => ?_) (fun c_2 => ?_)
    · skip
      refine lv_iconst (v := 0) hx hb dX5_out_33 (by decide) ?_
      exact qz_ret (((upd v 0 0), f, B, C) : MS) hx hb hr hlocks rfl (by rw [s_out, cI_f (by simp_all)]; exact ⟨rfl, rfl⟩) hP hD hS dX5_out_34
    · skip
      refine lv_iload_n hx hb dX5_out_21 rfl (lv_at hl 3 rfl) ?_
      refine cR_S ⟨hx, hb, hml, hown, hts⟩ (c_X5_isHour l E to) (va_cwS 1 hts gX5_out_X5_isHour rfl rfl rfl (by decide +kernel) ⟨Nat.le_of_ble_eq_true rfl, Nat.le_of_ble_eq_true rfl⟩) hK nilP rfl hl.1 rfl (Nat.le_of_ble_eq_true rfl) dX5_out_22 ⟨Nat.le_of_ble_eq_true rfl, Nat.le_of_ble_eq_true rfl⟩ ?_
      refine b_if_eq (q := (m_in to 0 23)) (tgt := 33) hx hb dX5_out_25 (by decide) (fun c_3 => ?_) (fun c_3 => ?_)
      · skip
        refine lv_iconst (v := 0) hx hb dX5_out_33 (by decide) ?_
        exact qz_ret (((upd v 0 0), f, B, C) : MS) hx hb hr hlocks rfl (by rw [s_out, cI_f (by simp_all)]; exact ⟨rfl, rfl⟩) hP hD hS dX5_out_34
      · skip
        refine lv_iload_n hx hb dX5_out_28 rfl (lv_at hl 2 rfl) ?_
        refine lv_iload_n hx hb dX5_out_29 rfl (lv_at hl 3 rfl) ?_
        refine lv_icmp_le (tgt := 35) hx hb dX5_out_30 (by decide) (fun c_4 => ?_) (fun c_4 => ?_)
        · skip
          obtain ⟨kn, hkn, ekn⟩ : ∃ j : Nat, j ≤ 1 ∧ k = nI j := ⟨_, (inN c_1 1 (by decide) (by decide)).2, (inN c_1 1 (by decide) (by decide)).1⟩
          obtain ⟨fn, hfn, efn⟩ : ∃ j : Nat, j ≤ 23 ∧ fr = nI j := ⟨_, (inN c_2 23 (by decide) (by decide)).2, (inN c_2 23 (by decide) (by decide)).1⟩
          obtain ⟨tn, htn, etn⟩ : ∃ j : Nat, j ≤ 23 ∧ to = nI j := ⟨_, (inN c_3 23 (by decide) (by decide)).2, (inN c_3 23 (by decide) (by decide)).1⟩
          subst ekn efn etn
          have c4 := (nI_leI (by omega) (by omega)).mp c_4
          refine lv_iload_n hx hb dX5_out_35 rfl (lv_at hl 2 rfl) ?_
          refine lv_istore (lv' := [(5, .int (nI fn)), (0, .ref (r 0)), (1, .int (nI kn)), (2, .int (nI fn)), (3, .int (nI tn)), (4, .int y)]) hx hb dX5_out_36 hl (by decide) rfl (fun ls hl => ?_)
          have hP : va_P E.1 vwCl (MW E r (upd v 0 0) (va_up f 16 (rowF (f 16) (24 * kn + fn) (24 * kn + fn) y)) B C) H := by rw [rowF_0]; exact hP
          have hD : va_D A (MW E r (upd v 0 0) (va_up f 16 (rowF (f 16) (24 * kn + fn) (24 * kn + fn) y)) B C) := by rw [rowF_0]; exact hD
          refine w_while (σ := Heap × List Loc × Array Slot × Nat) (fun ⟨H, locs, ls, h⟩ => tn + 1 - h) (fun ⟨H, locs, ls, h⟩ => va_P E.1 vwCl (MW E r (upd v 0 0) (va_up f 16 (rowF (f 16) (24 * kn + fn) (24 * kn + h) y)) B C) H ∧ va_D A (MW E r (upd v 0 0) (va_up f 16 (rowF (f 16) (24 * kn + fn) (24 * kn + h) y)) B C) ∧ va_S A s.heap H locs ∧ lv_has ls 6 [(0, .ref (r 0)), (1, .int (nI kn)), (2, .int (nI fn)), (3, .int (nI tn)), (4, .int y), (5, .int (nI h))] ∧ fn ≤ h ∧ h ≤ tn + 1) (fun ⟨H, locs, ls, h⟩ => H) (fun ⟨H, locs, ls, h⟩ => locs) (fun ⟨H, locs, ls, h⟩ => F0 m 38 ls []) ?_ (H, locs, ls, fn) ⟨hP, hD, hS, lv_sub hl [1, 2, 3, 4, 5, 0] rfl, Nat.le_refl _, by omega⟩
          rintro ⟨H, locs, ls, h⟩ ⟨hP, hD, hS, hl, h1, h2⟩ ih38
          dsimp only at hP hD hS hl ⊢
          refine lv_iload hx hb dX5_out_38 (lv_at hl 5 rfl) ?_
          refine lv_iload_n hx hb dX5_out_40 rfl (lv_at hl 3 rfl) ?_
          refine n_icmp_gt (tgt := 64) (a := h) (b := tn) hx hb dX5_out_41 (by decide) (by omega) (by omega) (fun c_5 => ?_) (fun c_5 => ?_)
          · skip
            refine lv_iconst (v := 1) hx hb dX5_out_64 (by decide) ?_
            exact qz_ret (((upd v 0 0), (va_up f 16 (rowF (f 16) (24 * kn + fn) (24 * kn + h) y)), B, C) : MS) hx hb hr hlocks rfl (by rw [s_out, cI_t (by simp_all), nI_clamp (by omega), nI_clamp (by omega), nI_clamp (by omega)]; obtain rfl : h = tn + 1 := (by omega); exact ⟨rfl, rfl⟩) hP hD hS dX5_out_65
          · skip
            refine lv_aload_n hx hb dX5_out_44 rfl (lv_at hl 0 rfl) ?_
            refine va_get (D := E.1) (ci := 5) (v := .ref (r 16)) (C := RX5) (T := TX5) (N := 26) hx hb hts (fun _ h => (List.mem_cons_of_mem _ (List.mem_append_right _ h))) hown hK.1 hP 0 rfl rfl 16 (by decide) (hts _ (List.mem_of_getElem? (i := 2) rfl)) (fun _ h9 => h9) rfl dX5_out_45 ?_
            refine lv_bipush (v := 24) hx hb dX5_out_48 (by decide) ?_
            refine lv_iload_n hx hb dX5_out_50 rfl (lv_at hl 1 rfl) ?_
            refine lv_imul hx hb dX5_out_51 ?_
            refine w_top (show (24 * (nI kn)) = (nI (24 * kn)) from pk_mul _ _) ?_
            refine lv_iload hx hb dX5_out_52 (lv_at hl 5 rfl) ?_
            refine lv_iadd hx hb dX5_out_54 ?_
            refine w_top (show ((nI (24 * kn)) + (nI h)) = (nI ((24 * kn) + h)) from nI_add _ _) ?_
            refine lv_iload hx hb dX5_out_55 (lv_at hl 4 rfl) ?_
            refine n_zast (f := rowF (f 16) (24 * kn + fn) (24 * kn + h) y) hx hb hK.1 hP hD hS 9 1 rfl rfl (i := (24 * kn) + h) (by omega) (by decide) hy dX5_out_57 (fun H locs hP hD hS => ?_)
            have hP : va_P E.1 vwCl (MW E r (upd v 0 0) (va_up (va_up f 16 (rowF (f 16) (24 * kn + fn) (24 * kn + h) y)) 16 (upd (rowF (f 16) (24 * kn + fn) (24 * kn + h) y) ((24 * kn) + h) y)) B C) H := hP
            have hD : va_D A (MW E r (upd v 0 0) (va_up (va_up f 16 (rowF (f 16) (24 * kn + fn) (24 * kn + h) y)) 16 (upd (rowF (f 16) (24 * kn + fn) (24 * kn + h) y) ((24 * kn) + h) y)) B C) := hD
            refine lv_iinc (v := (nI (h + 1))) (lv' := [(5, .int (nI (h + 1))), (0, .ref (r 0)), (1, .int (nI kn)), (2, .int (nI fn)), (3, .int (nI tn)), (4, .int y)]) hx hb dX5_out_58 hl (k := 5) rfl (nI_1 _) (by decide) rfl (fun ls hl => ?_)
            refine lv_goto (tgt := 38) hx hb dX5_out_61 (by decide) ?_
            have hP : va_P E.1 vwCl (MW E r (upd v 0 0) (va_up f 16 (upd (rowF (f 16) (24 * kn + fn) (24 * kn + h) y) (24 * kn + h) y)) B C) H := hP
            have hD : va_D A (MW E r (upd v 0 0) (va_up f 16 (upd (rowF (f 16) (24 * kn + fn) (24 * kn + h) y) (24 * kn + h) y)) B C) := hD
            rw [rowF_s (by omega)] at hP hD
            exact ih38 (H, locs, ls, h + 1) ⟨hP, hD, hS, lv_sub hl [1, 2, 3, 4, 5, 0] rfl, by omega, by omega⟩ (by dsimp only; omega)
        · skip
          refine lv_iconst (v := 0) hx hb dX5_out_33 (by decide) ?_
          exact qz_ret (((upd v 0 0), f, B, C) : MS) hx hb hr hlocks rfl (by rw [s_out, cI_f (by simp_all)]; exact ⟨rfl, rfl⟩) hP hD hS dX5_out_34
def m_sum (f : Nat → Nat → Int32) (nw : Nat) (t : Int32) : Nat → Int32
  | 0 => t
  | k + 1 => m_sum f nw t k + f 8 (nw + k) - f 9 (nw + k)
/-- what both lakes hold together ahead of an hour -/
def m_sg (f : Nat → Nat → Int32) (nw : Nat) (t : Int32) (h : Nat) : Int32 := m_sum f nw t (h - nw)
theorem m_sg_0 (f : Nat → Nat → Int32) (nw : Nat) (t : Int32) : m_sg f nw t nw = t := by rw [m_sg, Nat.sub_self]; rfl
theorem m_sg_s (f : Nat → Nat → Int32) {nw h : Nat} (t : Int32) (hh : nw ≤ h) : m_sg f nw t (h + 1) = m_sg f nw t h + f 8 h - f 9 h := by
  rw [m_sg, m_sg, show h + 1 - nw = (h - nw) + 1 by omega]
  show m_sum f nw t (h - nw) + f 8 (nw + (h - nw)) - f 9 (nw + (h - nw)) = _
  rw [show nw + (h - nw) = h by omega]
theorem m_sg_0' {f : Nat → Nat → Int32} {nw : Nat} {t : Int32} {g : Nat → Int32} : ∀ k, nw ≤ k → k ≤ nw → upd g nw t k = m_sg f nw t k := by
  intro k h1 h2
  obtain rfl : k = nw := by omega
  rw [m_sg_0]; exact if_pos rfl
theorem m_sg_s' {f : Nat → Nat → Int32} {nw h : Nat} {t : Int32} {g : Nat → Int32} (hh : nw ≤ h) (hg : ∀ k, nw ≤ k → k ≤ h → g k = m_sg f nw t k) : ∀ k, nw ≤ k → k ≤ h + 1 → upd g (h + 1) (g h + f 8 h - f 9 h) k = m_sg f nw t k := by
  intro k h1 h2
  by_cases e : k = h + 1
  · rw [e, m_sg_s f t hh, ← hg h hh (Nat.le_refl h)]; exact if_pos rfl
  · rw [← hg k h1 (by omega)]; exact if_neg e
theorem m_then_lt {v : Nat → Int32} {f : Nat → Nat → Int32} {h s a b : Nat} {t : Int32} (hl : m_leg v f h s t a b) (h40 : (v 2).toInt ≤ 40) (ha : a < 3) (hb : b < 3) : m_then f h s a b < 369 := by
  have := m_to_le hl h40
  show 9 * m_to f h (nI (s / 9)) (nI a) (nI b) + 3 * a + b < 369
  omega
theorem m_br_congr {v : Nat → Int32} {f : Nat → Nat → Int32} {h s a b : Nat} {t : Int32} {nx nx' : Nat → Int32} {fin : Int32 → Int32} (h40 : (v 2).toInt ≤ 40) (ha : a < 3) (hb : b < 3) (hn : ∀ k, k < 369 → nx k = nx' k) : m_br v f h s t a b nx fin = m_br v f h s t a b nx' fin := by
  by_cases hl : m_leg v f h s t a b
  · have e := hn _ (m_then_lt hl h40 ha hb)
    rw [m_br, m_br, if_pos hl, if_pos hl, e]
  · rw [m_br, m_br, if_neg hl, if_neg hl]
theorem m_b9_congr {g g' : Nat → Nat → Int32} (h : ∀ a b, a < 3 → b < 3 → g a b = g' a b) : m_b9 g = m_b9 g' := by
  unfold m_b9
  rw [h 0 0 (by decide) (by decide), h 0 1 (by decide) (by decide), h 0 2 (by decide) (by decide), h 1 0 (by decide) (by decide), h 1 1 (by decide) (by decide), h 1 2 (by decide) (by decide), h 2 0 (by decide) (by decide), h 2 1 (by decide) (by decide), h 2 2 (by decide) (by decide)]
/-- the value of a state with n hours left, in a world -/
noncomputable def mV (v : Nat → Int32) (f : Nat → Nat → Int32) (sg : Nat → Int32) (w : Nat) : Nat → Nat → Int32
  | 0 => fun s => nI (s / 9) * v 20
  | n + 1 => fun s => m_b9 (fun a b => m_br v f (23 - n) s (sg (23 - n)) a b (mV v f sg w n) (m_finW f w (23 - n) s a b))
def mW3 (f : Nat → Nat → Int32) (g : Nat → Int32) : Int32 := if g 0 = nev then nev else if g 1 = nev then nev else if g 2 = nev then nev else 0 + f 17 0 * g 0 + f 17 1 * g 1 + f 17 2 * g 2
/-- the same for all worlds, weighed -/
noncomputable def mA (v : Nat → Int32) (f : Nat → Nat → Int32) (sg : Nat → Int32) (rv : Nat) : Nat → Nat → Int32
  | 0 => fun s => mW3 f (fun w => mV v f sg w 0 s)
  | n + 1 => fun s => if rv ≤ 23 - n then mW3 f (fun w => mV v f sg w (n + 1) s) else m_b9 (fun a b => m_br v f (23 - n) s (sg (23 - n)) a b (mA v f sg rv n) (m_finA f (23 - n) s a b))
/-- the large rows are right from hour j on -/
def okB (v : Nat → Int32) (f : Nat → Nat → Int32) (sg : Nat → Int32) (j : Nat) (B : Nat → Int32) : Prop := ∀ w h s, w < 3 → j ≤ h → h ≤ 24 → s < 369 → B (9225 * w + 369 * h + s) = mV v f sg w (24 - h) s
def okC (v : Nat → Int32) (f : Nat → Nat → Int32) (sg : Nat → Int32) (rv j : Nat) (C : Nat → Int32) : Prop := ∀ h s, j ≤ h → h ≤ 24 → s < 369 → C (369 * h + s) = mA v f sg rv (24 - h) s
/-- and in hour h for the states below s -/
def okBs (v : Nat → Int32) (f : Nat → Nat → Int32) (sg : Nat → Int32) (h s1 : Nat) (B : Nat → Int32) : Prop := ∀ w s, w < 3 → s < s1 → B (9225 * w + 369 * h + s) = mV v f sg w (24 - h) s
def okCs (v : Nat → Int32) (f : Nat → Nat → Int32) (sg : Nat → Int32) (rv h s1 : Nat) (C : Nat → Int32) : Prop := ∀ s, s < s1 → C (369 * h + s) = mA v f sg rv (24 - h) s
theorem okB_upd {v : Nat → Int32} {f : Nat → Nat → Int32} {sg B : Nat → Int32} {h w s : Nat} {x : Int32} (hB : okB v f sg (h + 1) B) (hw : w < 3) (hs : s < 369) (hh : h ≤ 24) : okB v f sg (h + 1) (upd B (9225 * w + 369 * h + s) x) := by
  intro w' h' s' h1 h2 h3 h4
  rw [← hB w' h' s' h1 h2 h3 h4]
  exact if_neg (by omega)
theorem okC_upd {v : Nat → Int32} {f : Nat → Nat → Int32} {sg C : Nat → Int32} {rv h s : Nat} {x : Int32} (hC : okC v f sg rv (h + 1) C) (hs : s < 369) : okC v f sg rv (h + 1) (upd C (369 * h + s) x) := by
  intro h' s' h2 h3 h4
  rw [← hC h' s' h2 h3 h4]
  exact if_neg (by omega)
theorem okBs_3 {v : Nat → Int32} {f : Nat → Nat → Int32} {sg B : Nat → Int32} {h s : Nat} (hB : okBs v f sg h s B) (hs : s < 369) (hh : h ≤ 24) : okBs v f sg h (s + 1) (upd (upd (upd B (0 + 369 * h + s) (mV v f sg 0 (24 - h) s)) (9225 + 369 * h + s) (mV v f sg 1 (24 - h) s)) (18450 + 369 * h + s) (mV v f sg 2 (24 - h) s)) := by
  intro w s' hw hs'
  by_cases e : s' = s
  · subst e
    rcases (show w = 0 ∨ w = 1 ∨ w = 2 by omega) with rfl | rfl | rfl
    · show (if _ then _ else if _ then _ else if _ then _ else _) = _
      rw [if_neg (by omega), if_neg (by omega), if_pos (by omega)]
    · show (if _ then _ else if _ then _ else if _ then _ else _) = _
      rw [if_neg (by omega), if_pos (by omega)]
    · show (if _ then _ else if _ then _ else if _ then _ else _) = _
      rw [if_pos (by omega)]
  · rw [← hB w s' hw (by omega)]
    show (if _ then _ else if _ then _ else if _ then _ else _) = _
    rw [if_neg (by omega), if_neg (by omega), if_neg (by omega)]
theorem okCs_1 {v : Nat → Int32} {f : Nat → Nat → Int32} {sg C : Nat → Int32} {rv h s : Nat} (hC : okCs v f sg rv h s C) : okCs v f sg rv h (s + 1) (upd C (369 * h + s) (mA v f sg rv (24 - h) s)) := by
  intro s' hs'
  by_cases e : s' = s
  · subst e; exact if_pos rfl
  · rw [← hC s' (by omega)]
    exact if_neg (by omega)
theorem mV_step {v : Nat → Int32} {f : Nat → Nat → Int32} {sg B : Nat → Int32} {w h s : Nat} (h40 : (v 2).toInt ≤ 40) (hB : okB v f sg (h + 1) B) (hw : w < 3) (hh : h < 24) : m_b9 (m_brW v f B w h s (sg h)) = mV v f sg w (24 - h) s := by
  rw [show 24 - h = (23 - h) + 1 by omega]
  show _ = m_b9 (fun a b => m_br v f (23 - (23 - h)) s (sg (23 - (23 - h))) a b (mV v f sg w (23 - h)) (m_finW f w (23 - (23 - h)) s a b))
  rw [show 23 - (23 - h) = h by omega]
  refine m_b9_congr (fun a b ha hb => m_br_congr h40 ha hb (fun k hk => ?_))
  have := hB w (h + 1) k hw (Nat.le_refl _) (by omega) hk
  rw [show 24 - (h + 1) = 23 - h by omega] at this
  exact this
theorem mA_step {v : Nat → Int32} {f : Nat → Nat → Int32} {sg C : Nat → Int32} {rv h s : Nat} (h40 : (v 2).toInt ≤ 40) (hC : okC v f sg rv (h + 1) C) (hh : h < 24) (hr : ¬ rv ≤ h) : m_b9 (m_brA v f C h s (sg h)) = mA v f sg rv (24 - h) s := by
  rw [show 24 - h = (23 - h) + 1 by omega]
  show _ = if rv ≤ 23 - (23 - h) then _ else m_b9 (fun a b => m_br v f (23 - (23 - h)) s (sg (23 - (23 - h))) a b (mA v f sg rv (23 - h)) (m_finA f (23 - (23 - h)) s a b))
  rw [show 23 - (23 - h) = h by omega, if_neg hr]
  refine m_b9_congr (fun a b ha hb => m_br_congr h40 ha hb (fun k hk => ?_))
  have := hC (h + 1) k (Nat.le_refl _) (by omega) hk
  rw [show 24 - (h + 1) = 23 - h by omega] at this
  exact this
theorem mW_step {v : Nat → Int32} {f : Nat → Nat → Int32} {sg B : Nat → Int32} {rv h s : Nat} (hB : okBs v f sg h (s + 1) B) (hr : h = 24 ∨ rv ≤ h) (hh : h ≤ 24) : m_wt f B h s = mA v f sg rv (24 - h) s := by
  have e0 := hB 0 s (by decide) (by omega)
  have e1 := hB 1 s (by decide) (by omega)
  have e2 := hB 2 s (by decide) (by omega)
  have k : m_wt f B h s = mW3 f (fun w => mV v f sg w (24 - h) s) := by
    rw [m_wt, show 0 + 369 * h + s = 9225 * 0 + 369 * h + s by omega, show 9225 + 369 * h + s = 9225 * 1 + 369 * h + s by omega, show 18450 + 369 * h + s = 9225 * 2 + 369 * h + s by omega, e0, e1, e2]
    rfl
  rw [k]
  by_cases e : h = 24
  · subst e; rfl
  · rw [show 24 - h = (23 - h) + 1 by omega]
    show _ = if rv ≤ 23 - (23 - h) then _ else _
    rw [show 23 - (23 - h) = h by omega, if_pos (by omega)]
theorem m1_lt {n : Nat} (h : n < 2 ^ 30) : nI n - 1 < nI n := by
  rw [Int32.lt_iff_toInt_lt, show (1 : Int32) = nI 1 from rfl, pk_sub_toInt h (by decide), nI_toInt (by omega)]
  omega
theorem m1_eq (x : Int32) : x + Int32.ofInt (-1) = x - 1 := by
  rw [Int32.sub_eq_add_neg]; rfl
end
section
theorem okB_dn {v : Nat → Int32} {f : Nat → Nat → Int32} {sg B : Nat → Int32} {h : Nat} (hB : okB v f sg (h + 1) B) (hs : okBs v f sg h 369 B) : okB v f sg h B := by
  intro w h' s h1 h2 h3 h4
  by_cases e : h' = h
  · subst e; exact hs w s h1 h4
  · exact hB w h' s h1 (by omega) h3 h4
theorem okC_dn {v : Nat → Int32} {f : Nat → Nat → Int32} {sg C : Nat → Int32} {rv h : Nat} (hC : okC v f sg rv (h + 1) C) (hs : okCs v f sg rv h 369 C) : okC v f sg rv h C := by
  intro h' s h2 h3 h4
  by_cases e : h' = h
  · subst e; exact hs s h4
  · exact hC h' s (by omega) h3 h4
set_option maxHeartbeats 4000000 in
set_option maxRecDepth 100000 in
theorem c_X5_laysOut (l : Launch) (E : GG) (r : Nat → Nat) (v : Nat → Int32) (f : Nat → Nat → Int32) (B C : Nat → Int32) (sz : Nat) (t : Int32) (nw rv : Nat) (hnw : v 1 = nI nw) (hn24 : nw ≤ 24) (hrv : v 19 = nI rv) (hr24 : rv ≤ 24) (h40 : (v 2).toInt ≤ 40) : Met l yX5_laysOut wsX5_laysOut (Rm 5 1 25) (pM E [.ref (r 0), .int t] (MW E r v f B C) sz) (va_Qv (fun (u : MS) => u.1 = v ∧ u.2.1 = f ∧ okB v f (m_sg f nw t) nw u.2.2.1 ∧ okC v f (m_sg f nw t) rv nw u.2.2.2) (bM E (va_A (MW E r v f B C) sz) (MWu E r)) (va_A (MW E r v f B C) sz)) 1 25 (va_A (MW E r v f B C) sz) := by
  refine ofM (by decide) rfl (Nat.le_of_ble_eq_true rfl) ?_
  intro p e s m below meth c A hx hb hr hlocks hml hown hin hts hK hP hD hS hA hsz hAe ls hl
  rw [← hAe]
  have hl : lv_has ls 6 [(0, .ref (r 0)), (1, .int t)] := hl
  refine lv_bipush (v := 25) hx hb dX5_laysOut_0 (by decide) ?_
  refine n_newI (N := 25) hx hb (hts _ (List.mem_of_getElem? (i := 1) rfl)) hK hP hD hS hA (by decide) (by decide) (by decide) (Nat.le_of_ble_eq_true rfl) (Nat.le_of_ble_eq_true rfl) dX5_laysOut_2 (fun q_1 H hP hD hS => ?_)
  have hP : va_P E.1 vwCl (MW E r v f B C ++ [(q_1, .inl (E.2 0, 25, .inl (fun _ => 0)))]) H := hP
  have hD : va_D A (MW E r v f B C ++ [(q_1, .inl (E.2 0, 25, .inl (fun _ => 0)))]) := hD
  refine lv_astore_n (lv' := [(2, .ref q_1), (0, .ref (r 0)), (1, .int t)]) hx hb dX5_laysOut_4 rfl hl (by decide) rfl (fun ls hl => ?_)
  refine lv_aload_n hx hb dX5_laysOut_5 rfl (lv_at hl 0 rfl) ?_
  refine lv_aload_n hx hb dX5_laysOut_6 rfl (lv_at hl 1 rfl) ?_
  refine va_get (D := E.1) (ci := 5) (v := .int (v 1)) (C := RX5) (T := TX5) (N := 26) hx hb hts (fun _ h => (List.mem_cons_of_mem _ (List.mem_append_right _ h))) hown hK.1 hP 0 rfl rfl 1 (by decide) (hts _ (List.mem_of_getElem? (i := 2) rfl)) (fun _ h9 => h9) rfl dX5_laysOut_7 ?_
  refine w_top (show (v 1) = nI nw from hnw) ?_
  refine lv_iload_n hx hb dX5_laysOut_10 rfl (lv_at hl 2 rfl) ?_
  refine n_iast (f := (fun _ => 0)) hx hb hK.1 hP hD hS 16 0 rfl rfl (i := nw) (by omega) (by decide) dX5_laysOut_11 (fun H locs hP hD hS => ?_)
  have hP : va_P E.1 vwCl (MW E r v f B C ++ [(q_1, .inl (E.2 0, 25, .inl (upd (fun _ => 0) nw t)))]) H := hP
  have hD : va_D A (MW E r v f B C ++ [(q_1, .inl (E.2 0, 25, .inl (upd (fun _ => 0) nw t)))]) := hD
  refine lv_aload_n hx hb dX5_laysOut_12 rfl (lv_at hl 1 rfl) ?_
  refine va_get (D := E.1) (ci := 5) (v := .int (v 1)) (C := RX5) (T := TX5) (N := 26) hx hb hts (fun _ h => (List.mem_cons_of_mem _ (List.mem_append_right _ h))) hown hK.1 hP 0 rfl rfl 1 (by decide) (hts _ (List.mem_of_getElem? (i := 2) rfl)) (fun _ h9 => h9) rfl dX5_laysOut_13 ?_
  refine w_top (show (v 1) = nI nw from hnw) ?_
  refine lv_istore_n (lv' := [(3, .int (nI nw)), (2, .ref q_1), (0, .ref (r 0)), (1, .int t)]) hx hb dX5_laysOut_16 rfl hl (by decide) rfl (fun ls hl => ?_)
  refine w_while (σ := Heap × List Loc × Array Slot × Nat × (Nat → Int32)) (fun ⟨H, locs, ls, h, g⟩ => 24 - h) (fun ⟨H, locs, ls, h, g⟩ => va_P E.1 vwCl (MW E r v f B C ++ [(q_1, .inl (E.2 0, 25, .inl g))]) H ∧ va_D A (MW E r v f B C ++ [(q_1, .inl (E.2 0, 25, .inl g))]) ∧ va_S A s.heap H locs ∧ lv_has ls 6 [(0, .ref (r 0)), (1, .int t), (2, .ref q_1), (3, .int (nI h))] ∧ nw ≤ h ∧ h ≤ 24 ∧ ∀ k, nw ≤ k → k ≤ h → g k = m_sg f nw t k) (fun ⟨H, locs, ls, h, g⟩ => H) (fun ⟨H, locs, ls, h, g⟩ => locs) (fun ⟨H, locs, ls, h, g⟩ => F0 m 17 ls []) ?_ (H, locs, ls, nw, upd (fun _ => 0) nw t) ⟨hP, hD, hS, lv_sub hl [2, 3, 1, 0] rfl, Nat.le_refl _, hn24, m_sg_0'⟩
  rintro ⟨H, locs, ls, h, g⟩ ⟨hP, hD, hS, hl, h1, h2, hg⟩ ih17
  dsimp only at hP hD hS hl ⊢
  refine lv_iload_n hx hb dX5_laysOut_17 rfl (lv_at hl 3 rfl) ?_
  refine lv_bipush (v := 24) hx hb dX5_laysOut_18 (by decide) ?_
  refine n_icmp_ge (tgt := 51) (a := h) (b := 24) hx hb dX5_laysOut_20 (by decide) (by omega) (by omega) (fun c_2 => ?_) (fun c_2 => ?_)
  · skip
    obtain rfl : h = 24 := by omega
    refine lv_bipush (v := 24) hx hb dX5_laysOut_51 (by decide) ?_
    refine lv_istore_n (lv' := [(3, .int 24), (0, .ref (r 0)), (1, .int t), (2, .ref q_1)]) hx hb dX5_laysOut_53 rfl hl (by decide) rfl (fun ls hl => ?_)
    refine w_while (σ := Heap × List Loc × Array Slot × Nat × (Nat → Int32) × (Nat → Int32)) (fun ⟨H, locs, ls, j, B, C⟩ => j) (fun ⟨H, locs, ls, j, B, C⟩ => va_P E.1 vwCl (MW E r v f B C ++ [(q_1, .inl (E.2 0, 25, .inl g))]) H ∧ va_D A (MW E r v f B C ++ [(q_1, .inl (E.2 0, 25, .inl g))]) ∧ va_S A s.heap H locs ∧ lv_has ls 6 [(0, .ref (r 0)), (1, .int t), (2, .ref q_1), (3, .int (nI j - 1))] ∧ nw ≤ j ∧ j ≤ 25 ∧ okB v f (m_sg f nw t) j B ∧ okC v f (m_sg f nw t) rv j C) (fun ⟨H, locs, ls, j, B, C⟩ => H) (fun ⟨H, locs, ls, j, B, C⟩ => locs) (fun ⟨H, locs, ls, j, B, C⟩ => F0 m 54 ls []) ?_ (H, locs, ls, 25, B, C) ⟨hP, hD, hS, lv_sub hl [1, 2, 3, 0] rfl, by omega, Nat.le_refl _, fun w h s h1 h2 h3 => absurd h2 (by omega), fun h s h1 h2 => absurd h1 (by omega)⟩
    rintro ⟨H, locs, ls, j, B, C⟩ ⟨hP, hD, hS, hl, h3, h4, hB, hC⟩ ih54
    dsimp only at hP hD hS hl ⊢
    rcases Nat.eq_or_lt_of_le h3 with hj | hj
    · skip
      refine lv_iload_n hx hb dX5_laysOut_54 rfl (lv_at hl 3 rfl) ?_
      refine lv_aload_n hx hb dX5_laysOut_55 rfl (lv_at hl 0 rfl) ?_
      refine va_get (D := E.1) (ci := 5) (v := .int (v 1)) (C := RX5) (T := TX5) (N := 26) hx hb hts (fun _ h => (List.mem_cons_of_mem _ (List.mem_append_right _ h))) hown hK.1 hP 0 rfl rfl 1 (by decide) (hts _ (List.mem_of_getElem? (i := 2) rfl)) (fun _ h9 => h9) rfl dX5_laysOut_56 ?_
      refine w_top (show (v 1) = nI nw from hnw) ?_
      refine lv_icmp_lt (tgt := 199) hx hb dX5_laysOut_59 (by decide) (fun c_3 => ?_) (fun c_3 => ?_)
      · skip
        refine W.widen (k := 1) (n := 25) (Nat.le_of_ble_eq_true rfl) (Nat.le_of_ble_eq_true rfl) ?_
        exact qv_ret ((v, f, B, C) : MS) hx hb hr hlocks ⟨rfl, rfl, by rw [← hj] at hB; exact hB, by rw [← hj] at hC; exact hC⟩ (hP.sub (ws' := MW E r v f B C) [0, 1, 2, 3, 4, 5, 6, 7, 8, 9, 10, 11, 12, 13, 14, 15] rfl) (hD.sub (ws' := MW E r v f B C) [0, 1, 2, 3, 4, 5, 6, 7, 8, 9, 10, 11, 12, 13, 14, 15] (by decide) rfl) hS dX5_laysOut_199
      · skip
        exact absurd (by rw [← hj]; exact m1_lt (by omega)) c_3
    · obtain ⟨h, rfl⟩ : ∃ h, j = h + 1 := ⟨j - 1, by omega⟩
      rw [nI_pred] at hl
      refine lv_iload_n hx hb dX5_laysOut_54 rfl (lv_at hl 3 rfl) ?_
      refine lv_aload_n hx hb dX5_laysOut_55 rfl (lv_at hl 0 rfl) ?_
      refine va_get (D := E.1) (ci := 5) (v := .int (v 1)) (C := RX5) (T := TX5) (N := 26) hx hb hts (fun _ h => (List.mem_cons_of_mem _ (List.mem_append_right _ h))) hown hK.1 hP 0 rfl rfl 1 (by decide) (hts _ (List.mem_of_getElem? (i := 2) rfl)) (fun _ h9 => h9) rfl dX5_laysOut_56 ?_
      refine w_top (show (v 1) = nI nw from hnw) ?_
      refine n_icmp_lt (tgt := 199) (a := h) (b := nw) hx hb dX5_laysOut_59 (by decide) (by omega) (by omega) (fun c_4 => ?_) (fun c_4 => ?_)
      · skip
        exact absurd c_4 (by omega)
      · skip
        refine lv_iconst (v := 0) hx hb dX5_laysOut_62 (by decide) ?_
        refine lv_istore (lv' := [(4, .int 0), (0, .ref (r 0)), (1, .int t), (2, .ref q_1), (3, .int (nI h))]) hx hb dX5_laysOut_63 hl (by decide) rfl (fun ls hl => ?_)
        refine w_while (σ := Heap × List Loc × Array Slot × Nat × (Nat → Int32) × (Nat → Int32)) (fun ⟨H, locs, ls, s1, B, C⟩ => 369 - s1) (fun ⟨H, locs, ls, s1, B, C⟩ => va_P E.1 vwCl (MW E r v f B C ++ [(q_1, .inl (E.2 0, 25, .inl g))]) H ∧ va_D A (MW E r v f B C ++ [(q_1, .inl (E.2 0, 25, .inl g))]) ∧ va_S A s.heap H locs ∧ lv_has ls 6 [(0, .ref (r 0)), (1, .int t), (2, .ref q_1), (3, .int (nI h)), (4, .int (nI s1))] ∧ s1 ≤ 369 ∧ okB v f (m_sg f nw t) (h + 1) B ∧ okC v f (m_sg f nw t) rv (h + 1) C ∧ okBs v f (m_sg f nw t) h s1 B ∧ okCs v f (m_sg f nw t) rv h s1 C) (fun ⟨H, locs, ls, s1, B, C⟩ => H) (fun ⟨H, locs, ls, s1, B, C⟩ => locs) (fun ⟨H, locs, ls, s1, B, C⟩ => F0 m 65 ls []) ?_ (H, locs, ls, 0, B, C) ⟨hP, hD, hS, lv_sub hl [1, 2, 3, 4, 0] rfl, by omega, hB, hC, fun w s hw hs => absurd hs (Nat.not_lt_zero _), fun s hs => absurd hs (Nat.not_lt_zero _)⟩
        rintro ⟨H, locs, ls, s1, B, C⟩ ⟨hP, hD, hS, hl, h5, hB, hC, hBs, hCs⟩ ih65
        dsimp only at hP hD hS hl ⊢
        refine lv_iload hx hb dX5_laysOut_65 (lv_at hl 4 rfl) ?_
        refine lv_sipush (v := 369) hx hb dX5_laysOut_67 (by decide) ?_
        refine n_icmp_ge (tgt := 193) (a := s1) (b := 369) hx hb dX5_laysOut_70 (by decide) (by omega) (by omega) (fun c_5 => ?_) (fun c_5 => ?_)
        · skip
          have hs1 : s1 = 369 := by omega
          rw [hs1] at hBs hCs
          refine lv_iinc (v := (nI h - 1)) (lv' := [(3, .int (nI h - 1)), (0, .ref (r 0)), (1, .int t), (2, .ref q_1), (4, .int (nI s1))]) hx hb dX5_laysOut_193 hl (k := 3) rfl (m1_eq _) (by decide) rfl (fun ls hl => ?_)
          refine lv_goto (tgt := 54) hx hb dX5_laysOut_196 (by decide) ?_
          exact ih54 (H, locs, ls, h, B, C) ⟨hP, hD, hS, lv_sub hl [1, 2, 3, 0] rfl, by omega, by omega, okB_dn hB hBs, okC_dn hC hCs⟩ (by dsimp only; omega)
        · skip
          refine lv_iconst (v := 0) hx hb dX5_laysOut_73 (by decide) ?_
          refine lv_istore (lv' := [(5, .int 0), (0, .ref (r 0)), (1, .int t), (2, .ref q_1), (3, .int (nI h)), (4, .int (nI s1))]) hx hb dX5_laysOut_74 hl (by decide) rfl (fun ls hl => ?_)
          refine lv_iload hx hb dX5_laysOut_76 (lv_at hl 0 rfl) ?_
          refine lv_iconst (v := 3) hx hb dX5_laysOut_78 (by decide) ?_
          refine n_icmp_ge (tgt := 139) (a := 0) (b := 3) hx hb dX5_laysOut_79 (by decide) (by omega) (by omega) (fun c_6 => ?_) (fun c_6 => ?_)
          · skip
            exact absurd c_6 (by decide)
          · skip
            refine lv_aload_n hx hb dX5_laysOut_82 rfl (lv_at hl 1 rfl) ?_
            refine va_get (D := E.1) (ci := 5) (v := .ref (r 24)) (C := RX5) (T := TX5) (N := 26) hx hb hts (fun _ h => (List.mem_cons_of_mem _ (List.mem_append_right _ h))) hown hK.1 hP 0 rfl rfl 24 (by decide) (hts _ (List.mem_of_getElem? (i := 5) rfl)) (fun _ h9 => h9) rfl dX5_laysOut_83 ?_
            refine lv_sipush (v := 9225) hx hb dX5_laysOut_86 (by decide) ?_
            refine lv_iload hx hb dX5_laysOut_89 (lv_at hl 0 rfl) ?_
            refine lv_imul hx hb dX5_laysOut_91 ?_
            refine w_top (show (9225 * 0) = (nI 0) from pk_mul _ _) ?_
            refine lv_sipush (v := 369) hx hb dX5_laysOut_92 (by decide) ?_
            refine lv_iload_n hx hb dX5_laysOut_95 rfl (lv_at hl 4 rfl) ?_
            refine lv_imul hx hb dX5_laysOut_96 ?_
            refine w_top (show (369 * (nI h)) = (nI (369 * h)) from pk_mul _ _) ?_
            refine lv_iadd hx hb dX5_laysOut_97 ?_
            refine w_top (show ((nI 0) + (nI (369 * h))) = (nI (0 + (369 * h))) from nI_add _ _) ?_
            refine lv_iload hx hb dX5_laysOut_98 (lv_at hl 5 rfl) ?_
            refine lv_iadd hx hb dX5_laysOut_100 ?_
            refine w_top (show ((nI (0 + (369 * h))) + (nI s1)) = (nI ((0 + (369 * h)) + s1)) from nI_add _ _) ?_
            refine w_join (fun x : Int32 => x = mV v f (m_sg f nw t) 0 (24 - h) s1) (fun x => F0 m 132 ls (.int x :: [.int (nI ((0 + (369 * h)) + s1)), .ref (r 24)])) ?_ (fun J132 => ?_)
            · rintro _ rfl
              refine n_iast (f := B) hx hb hK.1 hP hD hS 14 0 rfl rfl (i := (0 + (369 * h)) + s1) (by omega) (by decide) dX5_laysOut_132 (fun H locs hP hD hS => ?_)
              have hP : va_P E.1 vwCl (MW E r v f (upd B ((0 + (369 * h)) + s1) (mV v f (m_sg f nw t) 0 (24 - h) s1)) C ++ [(q_1, .inl (E.2 0, 25, .inl g))]) H := hP
              have hD : va_D A (MW E r v f (upd B ((0 + (369 * h)) + s1) (mV v f (m_sg f nw t) 0 (24 - h) s1)) C ++ [(q_1, .inl (E.2 0, 25, .inl g))]) := hD
              have hB := okB_upd (w := 0) (s := s1) (x := mV v f (m_sg f nw t) 0 (24 - h) s1) hB (by omega) (by omega) (by omega)
              rw [show 9225 * 0 + 369 * h + s1 = 0 + 369 * h + s1 by omega] at hB
              refine lv_iinc (v := (nI 1)) (lv' := [(5, .int (nI 1)), (0, .ref (r 0)), (1, .int t), (2, .ref q_1), (3, .int (nI h)), (4, .int (nI s1))]) hx hb dX5_laysOut_133 hl (k := 0) rfl (nI_1 _) (by decide) rfl (fun ls hl => ?_)
              refine lv_goto (tgt := 76) hx hb dX5_laysOut_136 (by decide) ?_
              refine lv_iload hx hb dX5_laysOut_76 (lv_at hl 0 rfl) ?_
              refine lv_iconst (v := 3) hx hb dX5_laysOut_78 (by decide) ?_
              refine n_icmp_ge (tgt := 139) (a := 1) (b := 3) hx hb dX5_laysOut_79 (by decide) (by omega) (by omega) (fun c_7 => ?_) (fun c_7 => ?_)
              · skip
                exact absurd c_7 (by decide)
              · skip
                refine lv_aload_n hx hb dX5_laysOut_82 rfl (lv_at hl 1 rfl) ?_
                refine va_get (D := E.1) (ci := 5) (v := .ref (r 24)) (C := RX5) (T := TX5) (N := 26) hx hb hts (fun _ h => (List.mem_cons_of_mem _ (List.mem_append_right _ h))) hown hK.1 hP 0 rfl rfl 24 (by decide) (hts _ (List.mem_of_getElem? (i := 5) rfl)) (fun _ h9 => h9) rfl dX5_laysOut_83 ?_
                refine lv_sipush (v := 9225) hx hb dX5_laysOut_86 (by decide) ?_
                refine lv_iload hx hb dX5_laysOut_89 (lv_at hl 0 rfl) ?_
                refine lv_imul hx hb dX5_laysOut_91 ?_
                refine w_top (show (9225 * (nI 1)) = (nI 9225) from pk_mul _ _) ?_
                refine lv_sipush (v := 369) hx hb dX5_laysOut_92 (by decide) ?_
                refine lv_iload_n hx hb dX5_laysOut_95 rfl (lv_at hl 4 rfl) ?_
                refine lv_imul hx hb dX5_laysOut_96 ?_
                refine w_top (show (369 * (nI h)) = (nI (369 * h)) from pk_mul _ _) ?_
                refine lv_iadd hx hb dX5_laysOut_97 ?_
                refine w_top (show ((nI 9225) + (nI (369 * h))) = (nI (9225 + (369 * h))) from nI_add _ _) ?_
                refine lv_iload hx hb dX5_laysOut_98 (lv_at hl 5 rfl) ?_
                refine lv_iadd hx hb dX5_laysOut_100 ?_
                refine w_top (show ((nI (9225 + (369 * h))) + (nI s1)) = (nI ((9225 + (369 * h)) + s1)) from nI_add _ _) ?_
                refine w_join (fun x : Int32 => x = mV v f (m_sg f nw t) 1 (24 - h) s1) (fun x => F0 m 132 ls (.int x :: [.int (nI ((9225 + (369 * h)) + s1)), .ref (r 24)])) ?_ (fun J132 => ?_)
                · rintro _ rfl
                  refine n_iast (f := upd B ((0 + (369 * h)) + s1) (mV v f (m_sg f nw t) 0 (24 - h) s1)) hx hb hK.1 hP hD hS 14 0 rfl rfl (i := (9225 + (369 * h)) + s1) (by omega) (by decide) dX5_laysOut_132 (fun H locs hP hD hS => ?_)
                  have hP : va_P E.1 vwCl (MW E r v f (upd (upd B ((0 + (369 * h)) + s1) (mV v f (m_sg f nw t) 0 (24 - h) s1)) ((9225 + (369 * h)) + s1) (mV v f (m_sg f nw t) 1 (24 - h) s1)) C ++ [(q_1, .inl (E.2 0, 25, .inl g))]) H := hP
                  have hD : va_D A (MW E r v f (upd (upd B ((0 + (369 * h)) + s1) (mV v f (m_sg f nw t) 0 (24 - h) s1)) ((9225 + (369 * h)) + s1) (mV v f (m_sg f nw t) 1 (24 - h) s1)) C ++ [(q_1, .inl (E.2 0, 25, .inl g))]) := hD
                  have hB := okB_upd (w := 1) (s := s1) (x := mV v f (m_sg f nw t) 1 (24 - h) s1) hB (by omega) (by omega) (by omega)
                  rw [show 9225 * 1 + 369 * h + s1 = 9225 + 369 * h + s1 by omega] at hB
                  refine lv_iinc (v := (nI 2)) (lv' := [(5, .int (nI 2)), (0, .ref (r 0)), (1, .int t), (2, .ref q_1), (3, .int (nI h)), (4, .int (nI s1))]) hx hb dX5_laysOut_133 hl (k := 0) rfl (nI_1 _) (by decide) rfl (fun ls hl => ?_)
                  refine lv_goto (tgt := 76) hx hb dX5_laysOut_136 (by decide) ?_
                  refine lv_iload hx hb dX5_laysOut_76 (lv_at hl 0 rfl) ?_
                  refine lv_iconst (v := 3) hx hb dX5_laysOut_78 (by decide) ?_
                  refine n_icmp_ge (tgt := 139) (a := 2) (b := 3) hx hb dX5_laysOut_79 (by decide) (by omega) (by omega) (fun c_8 => ?_) (fun c_8 => ?_)
                  · skip
                    exact absurd c_8 (by decide)
                  · skip
                    refine lv_aload_n hx hb dX5_laysOut_82 rfl (lv_at hl 1 rfl) ?_
                    refine va_get (D := E.1) (ci := 5) (v := .ref (r 24)) (C := RX5) (T := TX5) (N := 26) hx hb hts (fun _ h => (List.mem_cons_of_mem _ (List.mem_append_right _ h))) hown hK.1 hP 0 rfl rfl 24 (by decide) (hts _ (List.mem_of_getElem? (i := 5) rfl)) (fun _ h9 => h9) rfl dX5_laysOut_83 ?_
                    refine lv_sipush (v := 9225) hx hb dX5_laysOut_86 (by decide) ?_
                    refine lv_iload hx hb dX5_laysOut_89 (lv_at hl 0 rfl) ?_
                    refine lv_imul hx hb dX5_laysOut_91 ?_
                    refine w_top (show (9225 * (nI 2)) = (nI 18450) from pk_mul _ _) ?_
                    refine lv_sipush (v := 369) hx hb dX5_laysOut_92 (by decide) ?_
                    refine lv_iload_n hx hb dX5_laysOut_95 rfl (lv_at hl 4 rfl) ?_
                    refine lv_imul hx hb dX5_laysOut_96 ?_
                    refine w_top (show (369 * (nI h)) = (nI (369 * h)) from pk_mul _ _) ?_
                    refine lv_iadd hx hb dX5_laysOut_97 ?_
                    refine w_top (show ((nI 18450) + (nI (369 * h))) = (nI (18450 + (369 * h))) from nI_add _ _) ?_
                    refine lv_iload hx hb dX5_laysOut_98 (lv_at hl 5 rfl) ?_
                    refine lv_iadd hx hb dX5_laysOut_100 ?_
                    refine w_top (show ((nI (18450 + (369 * h))) + (nI s1)) = (nI ((18450 + (369 * h)) + s1)) from nI_add _ _) ?_
                    refine w_join (fun x : Int32 => x = mV v f (m_sg f nw t) 2 (24 - h) s1) (fun x => F0 m 132 ls (.int x :: [.int (nI ((18450 + (369 * h)) + s1)), .ref (r 24)])) ?_ (fun J132 => ?_)
                    · rintro _ rfl
                      refine n_iast (f := upd (upd B ((0 + (369 * h)) + s1) (mV v f (m_sg f nw t) 0 (24 - h) s1)) ((9225 + (369 * h)) + s1) (mV v f (m_sg f nw t) 1 (24 - h) s1)) hx hb hK.1 hP hD hS 14 0 rfl rfl (i := (18450 + (369 * h)) + s1) (by omega) (by decide) dX5_laysOut_132 (fun H locs hP hD hS => ?_)
                      have hP : va_P E.1 vwCl (MW E r v f (upd (upd (upd B ((0 + (369 * h)) + s1) (mV v f (m_sg f nw t) 0 (24 - h) s1)) ((9225 + (369 * h)) + s1) (mV v f (m_sg f nw t) 1 (24 - h) s1)) ((18450 + (369 * h)) + s1) (mV v f (m_sg f nw t) 2 (24 - h) s1)) C ++ [(q_1, .inl (E.2 0, 25, .inl g))]) H := hP
                      have hD : va_D A (MW E r v f (upd (upd (upd B ((0 + (369 * h)) + s1) (mV v f (m_sg f nw t) 0 (24 - h) s1)) ((9225 + (369 * h)) + s1) (mV v f (m_sg f nw t) 1 (24 - h) s1)) ((18450 + (369 * h)) + s1) (mV v f (m_sg f nw t) 2 (24 - h) s1)) C ++ [(q_1, .inl (E.2 0, 25, .inl g))]) := hD
                      have hB := okB_upd (w := 2) (s := s1) (x := mV v f (m_sg f nw t) 2 (24 - h) s1) hB (by omega) (by omega) (by omega)
                      rw [show 9225 * 2 + 369 * h + s1 = 18450 + 369 * h + s1 by omega] at hB
                      have hBs := okBs_3 hBs (by omega) (by omega)
                      refine lv_iinc (v := (nI 3)) (lv' := [(5, .int (nI 3)), (0, .ref (r 0)), (1, .int t), (2, .ref q_1), (3, .int (nI h)), (4, .int (nI s1))]) hx hb dX5_laysOut_133 hl (k := 0) rfl (nI_1 _) (by decide) rfl (fun ls hl => ?_)
                      refine lv_goto (tgt := 76) hx hb dX5_laysOut_136 (by decide) ?_
                      refine lv_iload hx hb dX5_laysOut_76 (lv_at hl 0 rfl) ?_
                      refine lv_iconst (v := 3) hx hb dX5_laysOut_78 (by decide) ?_
                      refine n_icmp_ge (tgt := 139) (a := 3) (b := 3) hx hb dX5_laysOut_79 (by decide) (by omega) (by omega) (fun c_9 => ?_) (fun c_9 => ?_)
                      · skip
                        refine lv_aload_n hx hb dX5_laysOut_139 rfl (lv_at hl 1 rfl) ?_
                        refine va_get (D := E.1) (ci := 5) (v := .ref (r 25)) (C := RX5) (T := TX5) (N := 26) hx hb hts (fun _ h => (List.mem_cons_of_mem _ (List.mem_append_right _ h))) hown hK.1 hP 0 rfl rfl 25 (by decide) (hts _ (List.mem_of_getElem? (i := 7) rfl)) (fun _ h9 => h9) rfl dX5_laysOut_140 ?_
                        refine lv_sipush (v := 369) hx hb dX5_laysOut_143 (by decide) ?_
                        refine lv_iload_n hx hb dX5_laysOut_146 rfl (lv_at hl 4 rfl) ?_
                        refine lv_imul hx hb dX5_laysOut_147 ?_
                        refine w_top (show (369 * (nI h)) = (nI (369 * h)) from pk_mul _ _) ?_
                        refine lv_iload hx hb dX5_laysOut_148 (lv_at hl 5 rfl) ?_
                        refine lv_iadd hx hb dX5_laysOut_150 ?_
                        refine w_top (show ((nI (369 * h)) + (nI s1)) = (nI ((369 * h) + s1)) from nI_add _ _) ?_
                        refine w_join (fun x : Int32 => x = mA v f (m_sg f nw t) rv (24 - h) s1) (fun x => F0 m 186 ls (.int x :: [.int (nI ((369 * h) + s1)), .ref (r 25)])) ?_ (fun J186 => ?_)
                        · rintro _ rfl
                          refine n_iast (f := C) hx hb hK.1 hP hD hS 15 0 rfl rfl (i := (369 * h) + s1) (by omega) (by decide) dX5_laysOut_186 (fun H locs hP hD hS => ?_)
                          have hP : va_P E.1 vwCl (MW E r v f (upd (upd (upd B ((0 + (369 * h)) + s1) (mV v f (m_sg f nw t) 0 (24 - h) s1)) ((9225 + (369 * h)) + s1) (mV v f (m_sg f nw t) 1 (24 - h) s1)) ((18450 + (369 * h)) + s1) (mV v f (m_sg f nw t) 2 (24 - h) s1)) (upd C ((369 * h) + s1) (mA v f (m_sg f nw t) rv (24 - h) s1)) ++ [(q_1, .inl (E.2 0, 25, .inl g))]) H := hP
                          have hD : va_D A (MW E r v f (upd (upd (upd B ((0 + (369 * h)) + s1) (mV v f (m_sg f nw t) 0 (24 - h) s1)) ((9225 + (369 * h)) + s1) (mV v f (m_sg f nw t) 1 (24 - h) s1)) ((18450 + (369 * h)) + s1) (mV v f (m_sg f nw t) 2 (24 - h) s1)) (upd C ((369 * h) + s1) (mA v f (m_sg f nw t) rv (24 - h) s1)) ++ [(q_1, .inl (E.2 0, 25, .inl g))]) := hD
                          refine lv_iinc (v := (nI (s1 + 1))) (lv' := [(4, .int (nI (s1 + 1))), (5, .int (nI 3)), (0, .ref (r 0)), (1, .int t), (2, .ref q_1), (3, .int (nI h))]) hx hb dX5_laysOut_187 hl (k := 5) rfl (nI_1 _) (by decide) rfl (fun ls hl => ?_)
                          refine lv_goto (tgt := 65) hx hb dX5_laysOut_190 (by decide) ?_
                          exact ih65 (H, locs, ls, s1 + 1, (upd (upd (upd B ((0 + (369 * h)) + s1) (mV v f (m_sg f nw t) 0 (24 - h) s1)) ((9225 + (369 * h)) + s1) (mV v f (m_sg f nw t) 1 (24 - h) s1)) ((18450 + (369 * h)) + s1) (mV v f (m_sg f nw t) 2 (24 - h) s1)), (upd C ((369 * h) + s1) (mA v f (m_sg f nw t) rv (24 - h) s1))) ⟨hP, hD, hS, lv_sub hl [2, 3, 4, 5, 0] rfl, by omega, hB, okC_upd hC (by omega), hBs, okCs_1 hCs⟩ (by dsimp only; omega)
                        · skip
                          refine lv_iload_n hx hb dX5_laysOut_151 rfl (lv_at hl 4 rfl) ?_
                          refine lv_bipush (v := 24) hx hb dX5_laysOut_152 (by decide) ?_
                          refine n_icmp_eq (tgt := 165) (a := h) (b := 24) hx hb dX5_laysOut_154 (by decide) (by omega) (by omega) (fun c_10 => ?_) (fun c_10 => ?_)
                          · skip
                            refine lv_aload_n hx hb dX5_laysOut_165 rfl (lv_at hl 1 rfl) ?_
                            refine lv_iload_n hx hb dX5_laysOut_166 rfl (lv_at hl 4 rfl) ?_
                            refine lv_iload hx hb dX5_laysOut_167 (lv_at hl 5 rfl) ?_
                            refine cR_V ⟨hx, hb, hml, hown, hts⟩ (c_X5_weighed l E r v f (upd (upd (upd B ((0 + (369 * h)) + s1) (mV v f (m_sg f nw t) 0 (24 - h) s1)) ((9225 + (369 * h)) + s1) (mV v f (m_sg f nw t) 1 (24 - h) s1)) ((18450 + (369 * h)) + s1) (mV v f (m_sg f nw t) 2 (24 - h) s1)) C h s1 (by omega) (by omega)) (cwV 2 hts gX5_laysOut_X5_weighed rfl rfl rfl (by decide +kernel) ⟨Nat.le_of_ble_eq_true rfl, Nat.le_of_ble_eq_true rfl⟩) hK (hP.sub (ws' := MW E r v f (upd (upd (upd B ((0 + (369 * h)) + s1) (mV v f (m_sg f nw t) 0 (24 - h) s1)) ((9225 + (369 * h)) + s1) (mV v f (m_sg f nw t) 1 (24 - h) s1)) ((18450 + (369 * h)) + s1) (mV v f (m_sg f nw t) 2 (24 - h) s1)) C) [0, 1, 2, 3, 4, 5, 6, 7, 8, 9, 10, 11, 12, 13, 14, 15] rfl) 5 0 rfl rfl rfl hl.1 rfl (Nat.le_of_ble_eq_true rfl) dX5_laysOut_169 ⟨Nat.le_of_ble_eq_true rfl, Nat.le_of_ble_eq_true rfl⟩ ?_
                            refine lv_goto (tgt := 186) hx hb dX5_laysOut_172 (by decide) ?_
                            exact J186 _ (mW_step hBs (Or.inl c_10) (by omega))
                          · skip
                            refine lv_iload_n hx hb dX5_laysOut_157 rfl (lv_at hl 4 rfl) ?_
                            refine lv_aload_n hx hb dX5_laysOut_158 rfl (lv_at hl 1 rfl) ?_
                            refine va_get (D := E.1) (ci := 5) (v := .int (v 19)) (C := RX5) (T := TX5) (N := 26) hx hb hts (fun _ h => (List.mem_cons_of_mem _ (List.mem_append_right _ h))) hown hK.1 hP 0 rfl rfl 19 (by decide) (hts _ (List.mem_of_getElem? (i := 8) rfl)) (fun _ h9 => h9) rfl dX5_laysOut_159 ?_
                            refine w_top (show (v 19) = nI rv from hrv) ?_
                            refine n_icmp_lt (tgt := 175) (a := h) (b := rv) hx hb dX5_laysOut_162 (by decide) (by omega) (by omega) (fun c_11 => ?_) (fun c_11 => ?_)
                            · skip
                              refine lv_aload_n hx hb dX5_laysOut_175 rfl (lv_at hl 1 rfl) ?_
                              refine lv_iconst (v := (-1)) hx hb dX5_laysOut_176 (by decide) ?_
                              refine lv_iload_n hx hb dX5_laysOut_177 rfl (lv_at hl 4 rfl) ?_
                              refine lv_iload hx hb dX5_laysOut_178 (lv_at hl 5 rfl) ?_
                              refine lv_aload_n hx hb dX5_laysOut_180 rfl (lv_at hl 3 rfl) ?_
                              refine lv_iload_n hx hb dX5_laysOut_181 rfl (lv_at hl 4 rfl) ?_
                              refine n_iald (f := g) hx hb hK.1 hP 16 0 rfl rfl (i := h) (by omega) (by decide) dX5_laysOut_182 ?_
                              refine w_top (show (g h) = (m_sg f nw t h) from (hg h (by omega) (by omega))) ?_
                              refine cR_V ⟨hx, hb, hml, hown, hts⟩ (c_X5_bestOfA l E r v f (upd (upd (upd B ((0 + (369 * h)) + s1) (mV v f (m_sg f nw t) 0 (24 - h) s1)) ((9225 + (369 * h)) + s1) (mV v f (m_sg f nw t) 1 (24 - h) s1)) ((18450 + (369 * h)) + s1) (mV v f (m_sg f nw t) 2 (24 - h) s1)) C h s1 (m_sg f nw t h) (by omega) (by omega) h40) (cwV 4 hts gX5_laysOut_X5_bestOf rfl rfl rfl (by decide +kernel) ⟨Nat.le_of_ble_eq_true rfl, Nat.le_of_ble_eq_true rfl⟩) hK (hP.sub (ws' := MW E r v f (upd (upd (upd B ((0 + (369 * h)) + s1) (mV v f (m_sg f nw t) 0 (24 - h) s1)) ((9225 + (369 * h)) + s1) (mV v f (m_sg f nw t) 1 (24 - h) s1)) ((18450 + (369 * h)) + s1) (mV v f (m_sg f nw t) 2 (24 - h) s1)) C) [0, 1, 2, 3, 4, 5, 6, 7, 8, 9, 10, 11, 12, 13, 14, 15] rfl) 5 0 rfl rfl rfl hl.1 rfl (Nat.le_of_ble_eq_true rfl) dX5_laysOut_183 ⟨Nat.le_of_ble_eq_true rfl, Nat.le_of_ble_eq_true rfl⟩ ?_
                              exact J186 _ (mA_step h40 hC (by omega) (by omega))
                            · skip
                              refine lv_aload_n hx hb dX5_laysOut_165 rfl (lv_at hl 1 rfl) ?_
                              refine lv_iload_n hx hb dX5_laysOut_166 rfl (lv_at hl 4 rfl) ?_
                              refine lv_iload hx hb dX5_laysOut_167 (lv_at hl 5 rfl) ?_
                              refine cR_V ⟨hx, hb, hml, hown, hts⟩ (c_X5_weighed l E r v f (upd (upd (upd B ((0 + (369 * h)) + s1) (mV v f (m_sg f nw t) 0 (24 - h) s1)) ((9225 + (369 * h)) + s1) (mV v f (m_sg f nw t) 1 (24 - h) s1)) ((18450 + (369 * h)) + s1) (mV v f (m_sg f nw t) 2 (24 - h) s1)) C h s1 (by omega) (by omega)) (cwV 2 hts gX5_laysOut_X5_weighed rfl rfl rfl (by decide +kernel) ⟨Nat.le_of_ble_eq_true rfl, Nat.le_of_ble_eq_true rfl⟩) hK (hP.sub (ws' := MW E r v f (upd (upd (upd B ((0 + (369 * h)) + s1) (mV v f (m_sg f nw t) 0 (24 - h) s1)) ((9225 + (369 * h)) + s1) (mV v f (m_sg f nw t) 1 (24 - h) s1)) ((18450 + (369 * h)) + s1) (mV v f (m_sg f nw t) 2 (24 - h) s1)) C) [0, 1, 2, 3, 4, 5, 6, 7, 8, 9, 10, 11, 12, 13, 14, 15] rfl) 5 0 rfl rfl rfl hl.1 rfl (Nat.le_of_ble_eq_true rfl) dX5_laysOut_169 ⟨Nat.le_of_ble_eq_true rfl, Nat.le_of_ble_eq_true rfl⟩ ?_
                              refine lv_goto (tgt := 186) hx hb dX5_laysOut_172 (by decide) ?_
                              exact J186 _ (mW_step hBs (Or.inr (by omega)) (by omega))
                      · skip
                        exact absurd c_9 (by decide)
                    · skip
                      refine lv_iload_n hx hb dX5_laysOut_101 rfl (lv_at hl 4 rfl) ?_
                      refine lv_bipush (v := 24) hx hb dX5_laysOut_102 (by decide) ?_
                      refine n_icmp_ne (tgt := 120) (a := h) (b := 24) hx hb dX5_laysOut_104 (by decide) (by omega) (by omega) (fun c_12 => ?_) (fun c_12 => ?_)
                      · skip
                        refine lv_aload_n hx hb dX5_laysOut_120 rfl (lv_at hl 1 rfl) ?_
                        refine lv_iload hx hb dX5_laysOut_121 (lv_at hl 0 rfl) ?_
                        refine lv_iload_n hx hb dX5_laysOut_123 rfl (lv_at hl 4 rfl) ?_
                        refine lv_iload hx hb dX5_laysOut_124 (lv_at hl 5 rfl) ?_
                        refine lv_aload_n hx hb dX5_laysOut_126 rfl (lv_at hl 3 rfl) ?_
                        refine lv_iload_n hx hb dX5_laysOut_127 rfl (lv_at hl 4 rfl) ?_
                        refine n_iald (f := g) hx hb hK.1 hP 16 0 rfl rfl (i := h) (by omega) (by decide) dX5_laysOut_128 ?_
                        refine w_top (show (g h) = (m_sg f nw t h) from (hg h (by omega) (by omega))) ?_
                        refine cR_V ⟨hx, hb, hml, hown, hts⟩ (c_X5_bestOfW l E r v f (upd (upd B ((0 + (369 * h)) + s1) (mV v f (m_sg f nw t) 0 (24 - h) s1)) ((9225 + (369 * h)) + s1) (mV v f (m_sg f nw t) 1 (24 - h) s1)) C 2 h s1 (m_sg f nw t h) (by omega) (by omega) (by omega) h40) (cwV 4 hts gX5_laysOut_X5_bestOf rfl rfl rfl (by decide +kernel) ⟨Nat.le_of_ble_eq_true rfl, Nat.le_of_ble_eq_true rfl⟩) hK (hP.sub (ws' := MW E r v f (upd (upd B ((0 + (369 * h)) + s1) (mV v f (m_sg f nw t) 0 (24 - h) s1)) ((9225 + (369 * h)) + s1) (mV v f (m_sg f nw t) 1 (24 - h) s1)) C) [0, 1, 2, 3, 4, 5, 6, 7, 8, 9, 10, 11, 12, 13, 14, 15] rfl) 5 0 rfl rfl rfl hl.1 rfl (Nat.le_of_ble_eq_true rfl) dX5_laysOut_129 ⟨Nat.le_of_ble_eq_true rfl, Nat.le_of_ble_eq_true rfl⟩ ?_
                        exact J132 _ (mV_step h40 hB (by omega) (by omega))
                      · skip
                        refine lv_iload hx hb dX5_laysOut_107 (lv_at hl 5 rfl) ?_
                        refine lv_bipush (v := 9) hx hb dX5_laysOut_109 (by decide) ?_
                        refine lv_idiv hx hb dX5_laysOut_111 (by decide) ?_
                        refine w_top (show ((nI s1) / 9) = (nI (s1 / 9)) from pk_div (a := s1) (d := 9) (by omega) (by decide) (by decide)) ?_
                        refine lv_aload_n hx hb dX5_laysOut_112 rfl (lv_at hl 1 rfl) ?_
                        refine va_get (D := E.1) (ci := 5) (v := .int (v 20)) (C := RX5) (T := TX5) (N := 26) hx hb hts (fun _ h => (List.mem_cons_of_mem _ (List.mem_append_right _ h))) hown hK.1 hP 0 rfl rfl 20 (by decide) (hts _ (List.mem_of_getElem? (i := 6) rfl)) (fun _ h9 => h9) rfl dX5_laysOut_113 ?_
                        refine lv_imul hx hb dX5_laysOut_116 ?_
                        refine lv_goto (tgt := 132) hx hb dX5_laysOut_117 (by decide) ?_
                        exact J132 _ (by subst c_12; rfl)
                · skip
                  refine lv_iload_n hx hb dX5_laysOut_101 rfl (lv_at hl 4 rfl) ?_
                  refine lv_bipush (v := 24) hx hb dX5_laysOut_102 (by decide) ?_
                  refine n_icmp_ne (tgt := 120) (a := h) (b := 24) hx hb dX5_laysOut_104 (by decide) (by omega) (by omega) (fun c_13 => ?_) (fun c_13 => ?_)
                  · skip
                    refine lv_aload_n hx hb dX5_laysOut_120 rfl (lv_at hl 1 rfl) ?_
                    refine lv_iload hx hb dX5_laysOut_121 (lv_at hl 0 rfl) ?_
                    refine lv_iload_n hx hb dX5_laysOut_123 rfl (lv_at hl 4 rfl) ?_
                    refine lv_iload hx hb dX5_laysOut_124 (lv_at hl 5 rfl) ?_
                    refine lv_aload_n hx hb dX5_laysOut_126 rfl (lv_at hl 3 rfl) ?_
                    refine lv_iload_n hx hb dX5_laysOut_127 rfl (lv_at hl 4 rfl) ?_
                    refine n_iald (f := g) hx hb hK.1 hP 16 0 rfl rfl (i := h) (by omega) (by decide) dX5_laysOut_128 ?_
                    refine w_top (show (g h) = (m_sg f nw t h) from (hg h (by omega) (by omega))) ?_
                    refine cR_V ⟨hx, hb, hml, hown, hts⟩ (c_X5_bestOfW l E r v f (upd B ((0 + (369 * h)) + s1) (mV v f (m_sg f nw t) 0 (24 - h) s1)) C 1 h s1 (m_sg f nw t h) (by omega) (by omega) (by omega) h40) (cwV 4 hts gX5_laysOut_X5_bestOf rfl rfl rfl (by decide +kernel) ⟨Nat.le_of_ble_eq_true rfl, Nat.le_of_ble_eq_true rfl⟩) hK (hP.sub (ws' := MW E r v f (upd B ((0 + (369 * h)) + s1) (mV v f (m_sg f nw t) 0 (24 - h) s1)) C) [0, 1, 2, 3, 4, 5, 6, 7, 8, 9, 10, 11, 12, 13, 14, 15] rfl) 5 0 rfl rfl rfl hl.1 rfl (Nat.le_of_ble_eq_true rfl) dX5_laysOut_129 ⟨Nat.le_of_ble_eq_true rfl, Nat.le_of_ble_eq_true rfl⟩ ?_
                    exact J132 _ (mV_step h40 hB (by omega) (by omega))
                  · skip
                    refine lv_iload hx hb dX5_laysOut_107 (lv_at hl 5 rfl) ?_
                    refine lv_bipush (v := 9) hx hb dX5_laysOut_109 (by decide) ?_
                    refine lv_idiv hx hb dX5_laysOut_111 (by decide) ?_
                    refine w_top (show ((nI s1) / 9) = (nI (s1 / 9)) from pk_div (a := s1) (d := 9) (by omega) (by decide) (by decide)) ?_
                    refine lv_aload_n hx hb dX5_laysOut_112 rfl (lv_at hl 1 rfl) ?_
                    refine va_get (D := E.1) (ci := 5) (v := .int (v 20)) (C := RX5) (T := TX5) (N := 26) hx hb hts (fun _ h => (List.mem_cons_of_mem _ (List.mem_append_right _ h))) hown hK.1 hP 0 rfl rfl 20 (by decide) (hts _ (List.mem_of_getElem? (i := 6) rfl)) (fun _ h9 => h9) rfl dX5_laysOut_113 ?_
                    refine lv_imul hx hb dX5_laysOut_116 ?_
                    refine lv_goto (tgt := 132) hx hb dX5_laysOut_117 (by decide) ?_
                    exact J132 _ (by subst c_13; rfl)
            · skip
              refine lv_iload_n hx hb dX5_laysOut_101 rfl (lv_at hl 4 rfl) ?_
              refine lv_bipush (v := 24) hx hb dX5_laysOut_102 (by decide) ?_
              refine n_icmp_ne (tgt := 120) (a := h) (b := 24) hx hb dX5_laysOut_104 (by decide) (by omega) (by omega) (fun c_14 => ?_) (fun c_14 => ?_)
              · skip
                refine lv_aload_n hx hb dX5_laysOut_120 rfl (lv_at hl 1 rfl) ?_
                refine lv_iload hx hb dX5_laysOut_121 (lv_at hl 0 rfl) ?_
                refine lv_iload_n hx hb dX5_laysOut_123 rfl (lv_at hl 4 rfl) ?_
                refine lv_iload hx hb dX5_laysOut_124 (lv_at hl 5 rfl) ?_
                refine lv_aload_n hx hb dX5_laysOut_126 rfl (lv_at hl 3 rfl) ?_
                refine lv_iload_n hx hb dX5_laysOut_127 rfl (lv_at hl 4 rfl) ?_
                refine n_iald (f := g) hx hb hK.1 hP 16 0 rfl rfl (i := h) (by omega) (by decide) dX5_laysOut_128 ?_
                refine w_top (show (g h) = (m_sg f nw t h) from (hg h (by omega) (by omega))) ?_
                refine cR_V ⟨hx, hb, hml, hown, hts⟩ (c_X5_bestOfW l E r v f B C 0 h s1 (m_sg f nw t h) (by omega) (by omega) (by omega) h40) (cwV 4 hts gX5_laysOut_X5_bestOf rfl rfl rfl (by decide +kernel) ⟨Nat.le_of_ble_eq_true rfl, Nat.le_of_ble_eq_true rfl⟩) hK (hP.sub (ws' := MW E r v f B C) [0, 1, 2, 3, 4, 5, 6, 7, 8, 9, 10, 11, 12, 13, 14, 15] rfl) 5 0 rfl rfl rfl hl.1 rfl (Nat.le_of_ble_eq_true rfl) dX5_laysOut_129 ⟨Nat.le_of_ble_eq_true rfl, Nat.le_of_ble_eq_true rfl⟩ ?_
                exact J132 _ (mV_step h40 hB (by omega) (by omega))
              · skip
                refine lv_iload hx hb dX5_laysOut_107 (lv_at hl 5 rfl) ?_
                refine lv_bipush (v := 9) hx hb dX5_laysOut_109 (by decide) ?_
                refine lv_idiv hx hb dX5_laysOut_111 (by decide) ?_
                refine w_top (show ((nI s1) / 9) = (nI (s1 / 9)) from pk_div (a := s1) (d := 9) (by omega) (by decide) (by decide)) ?_
                refine lv_aload_n hx hb dX5_laysOut_112 rfl (lv_at hl 1 rfl) ?_
                refine va_get (D := E.1) (ci := 5) (v := .int (v 20)) (C := RX5) (T := TX5) (N := 26) hx hb hts (fun _ h => (List.mem_cons_of_mem _ (List.mem_append_right _ h))) hown hK.1 hP 0 rfl rfl 20 (by decide) (hts _ (List.mem_of_getElem? (i := 6) rfl)) (fun _ h9 => h9) rfl dX5_laysOut_113 ?_
                refine lv_imul hx hb dX5_laysOut_116 ?_
                refine lv_goto (tgt := 132) hx hb dX5_laysOut_117 (by decide) ?_
                exact J132 _ (by subst c_14; rfl)
  · skip
    refine lv_aload_n hx hb dX5_laysOut_23 rfl (lv_at hl 2 rfl) ?_
    refine lv_iload_n hx hb dX5_laysOut_24 rfl (lv_at hl 3 rfl) ?_
    refine lv_iconst (v := 1) hx hb dX5_laysOut_25 (by decide) ?_
    refine lv_iadd hx hb dX5_laysOut_26 ?_
    refine w_top (show ((nI h) + 1) = (nI (h + 1)) from nI_add _ _) ?_
    refine lv_aload_n hx hb dX5_laysOut_27 rfl (lv_at hl 2 rfl) ?_
    refine lv_iload_n hx hb dX5_laysOut_28 rfl (lv_at hl 3 rfl) ?_
    refine n_iald (f := g) hx hb hK.1 hP 16 0 rfl rfl (i := h) (by omega) (by decide) dX5_laysOut_29 ?_
    refine lv_aload_n hx hb dX5_laysOut_30 rfl (lv_at hl 0 rfl) ?_
    refine va_get (D := E.1) (ci := 5) (v := .ref (r 8)) (C := RX5) (T := TX5) (N := 26) hx hb hts (fun _ h => (List.mem_cons_of_mem _ (List.mem_append_right _ h))) hown hK.1 hP 0 rfl rfl 8 (by decide) (hts _ (List.mem_of_getElem? (i := 3) rfl)) (fun _ h9 => h9) rfl dX5_laysOut_31 ?_
    refine lv_iload_n hx hb dX5_laysOut_34 rfl (lv_at hl 3 rfl) ?_
    refine n_iald (f := f 8) hx hb hK.1 hP 1 0 rfl rfl (i := h) (by omega) (by decide) dX5_laysOut_35 ?_
    refine lv_iadd hx hb dX5_laysOut_36 ?_
    refine lv_aload_n hx hb dX5_laysOut_37 rfl (lv_at hl 0 rfl) ?_
    refine va_get (D := E.1) (ci := 5) (v := .ref (r 9)) (C := RX5) (T := TX5) (N := 26) hx hb hts (fun _ h => (List.mem_cons_of_mem _ (List.mem_append_right _ h))) hown hK.1 hP 0 rfl rfl 9 (by decide) (hts _ (List.mem_of_getElem? (i := 4) rfl)) (fun _ h9 => h9) rfl dX5_laysOut_38 ?_
    refine lv_iload_n hx hb dX5_laysOut_41 rfl (lv_at hl 3 rfl) ?_
    refine n_iald (f := f 9) hx hb hK.1 hP 2 0 rfl rfl (i := h) (by omega) (by decide) dX5_laysOut_42 ?_
    refine lv_isub hx hb dX5_laysOut_43 ?_
    refine n_iast (f := g) hx hb hK.1 hP hD hS 16 0 rfl rfl (i := h + 1) (by omega) (by decide) dX5_laysOut_44 (fun H locs hP hD hS => ?_)
    have hP : va_P E.1 vwCl (MW E r v f B C ++ [(q_1, .inl (E.2 0, 25, .inl (upd g (h + 1) (((g h) + (f 8 h)) - (f 9 h)))))]) H := hP
    have hD : va_D A (MW E r v f B C ++ [(q_1, .inl (E.2 0, 25, .inl (upd g (h + 1) (((g h) + (f 8 h)) - (f 9 h)))))]) := hD
    refine lv_iinc (v := (nI (h + 1))) (lv' := [(3, .int (nI (h + 1))), (0, .ref (r 0)), (1, .int t), (2, .ref q_1)]) hx hb dX5_laysOut_45 hl (k := 3) rfl (nI_1 _) (by decide) rfl (fun ls hl => ?_)
    refine lv_goto (tgt := 17) hx hb dX5_laysOut_48 (by decide) ?_
    exact ih17 (H, locs, ls, h + 1, (upd g (h + 1) (((g h) + (f 8 h)) - (f 9 h)))) ⟨hP, hD, hS, lv_sub hl [1, 2, 3, 0] rfl, by omega, by omega, m_sg_s' h1 hg⟩ (by dsimp only; omega)
end
